/-! Throwing: what a method leaves that throws, how it is called, how it is caught. -/
/-- what the throwing of a new object reads: the tables as at the law's start S0, and every cell of the start as it was -/
def zt_P (S0 : State) : State → Prop := fun U => S0.WarmedH U.vm ∧ ∀ (q : Nat) (c : Cell), S0.heap[q]? = some c → U.heap[q]? = some c
def zt_more : List Cond := [.isRef (.static "java/lang/Throwable" "UNASSIGNED_STACK" "[Ljava/lang/StackTraceElement;"), .isRef (.static "java/lang/Throwable" "SUPPRESSED_SENTINEL" "Ljava/util/List;"), .not (.castable "java/lang/IllegalStateException" "java/lang/IllegalArgumentException")]
def zt_tbl : List Cond := zt_more ++ lw_tbl
def zt_W (b0 : Nat) (S0 : State) : Prop := ∀ w ∈ zt_tbl, w.before #[Value.ref b0] S0 = true
def zt_good : Cond → Bool
  | .laysStatic _ _ _ => true
  | .isRef (.static _ _ _) => true
  | .stringRef _ _ _ => true
  | .declares _ => true
  | .castable _ _ => true
  | .not (.castable _ _) => true
  | w => goodWord w
section ZT0
variable {V U S0 : State} {a a' : Array Value}
theorem zt_field (hv : U.vm = V.vm) (o n d : String) : U.fieldFound? o n d = V.fieldFound? o n d := by
  unfold State.fieldFound?
  rw [hv]
theorem zt_lays (hv : U.vm = V.vm) (hh : ∀ (q : Nat) (c : Cell), V.heap[q]? = some c → U.heap[q]? = some c) {o n d : String} (h : (Cond.laysStatic o n d).before a V = true) : (Cond.laysStatic o n d).before a' U = true := by
  have hf := zt_field hv o n d
  simp only [Cond.before, Cond.holds, Cond.value] at h ⊢
  rw [hv, hf]
  cases h1 : V.vm.findClass o with
  | none => simp [h1] at h
  | some c =>
    cases h2 : V.fieldFound? o n d with
    | none => simp [h1, h2] at h
    | some x =>
      obtain ⟨c', k, i, f⟩ := x
      cases h3 : k.statics with
      | none => simp [h1, h2, h3] at h
      | some aS =>
        cases h4 : V.heap[aS]? with
        | none => simp [h1, h2, h3, h4] at h
        | some cell =>
          simp only [h1, h2, h3, h4, Option.bind_some, hh _ _ h4] at h ⊢
          exact h
theorem zt_isref (hv : U.vm = V.vm) (hh : ∀ (q : Nat) (c : Cell), V.heap[q]? = some c → U.heap[q]? = some c) {C n d : String} (h : (Cond.isRef (.static C n d)).before a V = true) : (Cond.isRef (.static C n d)).before a' U = true := by
  have hf := zt_field hv C n d
  have he : ∀ v, (Term.static C n d).eval a V none [] V = some v → (Term.static C n d).eval a' U none [] U = some v := by
    intro v hv2
    simp only [Term.eval, State.fieldNamed?, hf] at hv2 ⊢
    cases h2 : V.fieldFound? C n d with
    | none => simp [h2] at hv2
    | some x =>
      obtain ⟨c', k, i, f⟩ := x
      by_cases hs : f.isStatic = true
      · cases h3 : k.statics with
        | none => simp [h2, hs, h3] at hv2
        | some aS =>
          cases h4 : V.heap[aS]? with
          | none => simp [h2, hs, h3, h4] at hv2
          | some cell =>
            simp [h2, hs, h3, h4] at hv2
            simp [hs, h3, hh _ _ h4]
            exact hv2
      · simp [h2, hs] at hv2
  simp only [Cond.before, Cond.holds, Cond.value] at h ⊢
  cases hv2 : (Term.static C n d).eval a V none [] V with
  | none => simp [hv2] at h
  | some v =>
    rw [he v hv2]
    rw [hv2] at h
    exact h
/-- a word of the start, wherever its tables are warmer and its cells stand -/
theorem zt_at (h : zt_P S0 U) {w : Cond} (hg : zt_good w = true) (hw : w.before a S0 = true) : w.before a' U = true := by
  have hv : U.vm = (S0.setVm U.vm).vm := rfl
  have sh : S0.Shifted U.vm := State.Shifted.of_warmed h.1
  unfold zt_good at hg
  split at hg
  · exact zt_lays (V := S0.setVm U.vm) (a := a) hv h.2 (Cond.holds_shifted sh _ [] rfl hw)
  · exact zt_isref (V := S0.setVm U.vm) (a := a) hv h.2 (Cond.holds_shifted sh _ [] rfl hw)
  · have q := Cond.stringRef_warmed h.1 hw
    exact q
  · have q := (Cond.declares_setVm (args := a) h.1.alike _).trans hw
    exact q
  · have q := (Cond.castable_setVm (args := a) h.1.alike _ _).trans hw
    exact q
  · rename_i c t
    have q := Cond.holds_not_iff.mp hw
    refine Cond.holds_not_iff.mpr ?_
    simp only [Cond.value, h.1.alike.findClass, h.1.alike.assignable] at q ⊢
    exact q
  · exact word_at h.1 (good_of_word hg) hw
theorem zt_ix {ws : List Cond} (ix : List Nat) (h : (ws.zip ix).all (fun p => decide (zt_tbl[p.2]? = some p.1) && zt_good p.1) = true) (hl : ws.length = ix.length) : ∀ w ∈ ws, w ∈ zt_tbl ∧ zt_good w = true := by
  intro w hw
  obtain ⟨k, hk⟩ := List.getElem?_of_mem hw
  have hk1 : k < ws.length := (List.getElem?_eq_some_iff.mp hk).1
  have hz : (ws.zip ix)[k]? = some (w, ix[k]'(hl ▸ hk1)) := by
    rw [List.getElem?_zip_eq_some]
    exact ⟨hk, List.getElem?_eq_getElem _⟩
  have q := List.all_eq_true.mp h _ (List.mem_of_getElem? hz)
  simp only [Bool.and_eq_true, decide_eq_true_eq] at q
  exact ⟨List.mem_of_getElem? q.1, q.2⟩
theorem zt_ws {b0 : Nat} (hS : zt_W b0 S0) (h : zt_P S0 U) {ws : List Cond} (hw : ∀ w ∈ ws, w ∈ zt_tbl ∧ zt_good w = true) : ∀ w ∈ ws, w.before a' U = true := fun w q => zt_at h (hw w q).2 (hS w (hw w q).1)
end ZT0
/-- it threw an object of that name's; Pw of the cells; no old cell but those of A changed -/
def zt_Q (C : String) (Pw : Heap → Prop) (A : Nat → Prop) : State → Addr → State → Prop := fun st x t => (∃ ce : Cell, t.heap[x]? = some ce ∧ ce.vm = .none ∧ st.vm.findClass C = some ce.cls) ∧ Pw t.heap ∧ va_F A st t
/-- the tables are warmer; nothing has moved but the frames, the slots L, and at most k new cells of n slots -/
def zt_FE (first t : State) (L : List Loc) (k n : Nat) : Prop := first.WarmedH t.vm ∧ first.sameButNew ({ t with vm := first.vm } : State) L k n
def zt_Met (l : Launch) (y : MethodName) (ws : List Cond) (rm : Room) (Pc : Array Value → State → Prop) (Qt : State → Addr → State → Prop) (mc ms : Nat) (free : Addr → Prop) : Prop :=
  MetFree l y (headSpec ws rm) Pc (fun _ _ _ _ _ => True) (fun _ st o t => ∃ x, o = .threw x ∧ Qt st x t ∧ ∃ L, zt_FE st t L mc ms ∧ ∀ q ∈ L, free q.base)
def zt_MQ (below : List Frame) (Qt : State → Addr → State → Prop) (s : State) (mc ms : Nat) (free : Addr → Prop) : State → Prop := fun t =>
  ∃ x, t.status = .running ∧ Ended t below (.threw x) ∧ Qt s x t ∧ ∃ L, zt_FE s t L mc ms ∧ ∀ q ∈ L, free q.base
theorem zt_ofW {l : Launch} {y : MethodName} {ws ws' : List Cond} {rm : Room} {Pc : Array Value → State → Prop} {Qt : State → Addr → State → Prop} {mc ms : Nat} {free : Addr → Prop} {cc : ByteArray} {maxL : Nat} {ret : Option FieldType}
    (hy : plainName y.cls = true) (hw : ws = Cond.code y cc maxL ret :: ws')
    (body : ∀ p e s m args below meth c s₁, BodyLoose p l y (headSpec ws rm) cc maxL ret e s m args below meth c s₁ → c.maxLocals = maxL → Pc args s →
      W p l e (headSpec ws rm).room s m args below meth c s.heap [] 0 0 (zt_MQ below Qt s mc ms free) (entryFrame m args maxL)) : zt_Met l y ws rm Pc Qt mc ms free := by
  refine MetFree.of_bodyS (code := cc) (maxLocals := maxL) (ret := ret) hy ?_ ?_
  · intro args s m h hn
    obtain ⟨meth, c, h1, h2, h3, h4, h5, h6, -, -⟩ := Cond.code_spec hn (atoms_spec (ws := ws) h _ (by rw [hw]; exact List.mem_cons_self))
    exact ⟨meth, c, h1, h2, h3, h4, h5, h6⟩
  · intro p e s m args below meth c s₁ B hml hP _
    have hh0 : s₁.heap = s.heap := by rw [B.state]; rfl
    obtain ⟨t, a1, x, b1, b2, b3, b4⟩ := body p e s m args below meth c s₁ B hml hP s₁ hh0 (Stand.of_body B)
    exact ⟨t, .threw x, a1, b1, b2, x, rfl, b3, b4⟩
section ZT1
variable {p : Program} {l : Launch} {e : Env} {R : Room} {s : State} {m₀ : MethodId} {args : Array Value} {below : List Frame} {meth : Method} {c : Code} {V : State} {locs : List Loc} {cells slots : Nat}
set_option maxHeartbeats 1000000 in
/-- a new exception's constructor and its throwing, without traces, and that no other cell changes (after the library's Stand.ctorThrowS) -/
theorem zt_ctor (X : Stand p l e R s m₀ args below meth c V locs cells slots) (hexec : p.tables.exec = Jvm.exec) (htr : e.platform.stackTraces = false) {own cls : String} {names : List String} {ic : Nat}
    (hown : s.vm.findClass own = some m₀.cls) (hcls : Bundle.fit cls = true) (hnames : ∀ n ∈ names, Bundle.fit n = true)
    (h : ∀ a ∈ Bundle.ownAtoms own ic cls names, a.before args s = true)
    (hlocs : ∀ x ∈ locs, ∀ cell, s.heap[x.base]? = some cell → cell.vm.isStatics = false)
    {a : Addr} {cX : ClassId} {kX : Class} (hfoundX : s.vm.findClass cls = some cX) (hkX : s.vm.classes[cX]? = some kX) (hcell : V.heap[a]? = some (freshCell cX kX)) (hnew : s.heap.size ≤ a)
    {msg : Value} (hmsg : msg.isRef = true)
    {g : JFrame} (hg : g.method = m₀) (hsize : g.locals.size = c.maxLocals) (hlocked : g.locked = none) (hentered : g.entered = []) {rest : List Value} (hstack : g.stack = msg :: .ref a :: .ref a :: rest)
    (hd6 : decode c.code g.pc = .ok (.invokespecial ic, 3)) (hd9 : decode c.code (g.pc + 3) = .ok (.athrow, 1)) (hout : ∀ x ∈ c.exceptionTable.toList, covers x (g.pc + 3) = false)
    (hRframes : names.length + 3 < R.frames) (hRlocals : 2 * g.monitorRoom + ((Value.ref a :: rest).map fun v => v.category).sum + (13 * (names.length + 1) + 42) ≤ R.locals) (hlocks : meth.locks = false) :
    ∃ U : State, Steps p.tables e below (V.setTop g) U ∧ U.status = .running ∧ Ended U below (.threw a) ∧ s.WarmedH U.vm ∧ s.sameButNew ({ U with vm := s.vm } : State) locs cells slots ∧
      (∀ q : Nat, q ≠ a → U.heap[q]? = V.heap[q]?) ∧ U.heap.size = V.heap.size ∧ ∃ ce, U.heap[a]? = some ce ∧ ce.vm = .none ∧ ce.cls = cX := by
  have howns : e.platform.frameOwnsMonitors = true := by rw [X.admits.platform]
  have hfin : e.platform.finalization = false := by rw [X.admits.platform]
  have hpl : e.platform.magicAccessors = ({} : Platform).magicAccessors := by rw [X.admits.platform]
  have a' : ∀ x, x ∈ Bundle.ownAtoms own ic cls names → x.holds args s none s [] = true := fun x hx => h x hx
  obtain ⟨T, Z0, L, -, Y⟩ := ThrowableC.of_atoms (args := args) howns hfin hpl (fun x hx => h x (by simp [Bundle.ownAtoms, hx]))
  obtain ⟨Z, M, LZ, LM, hnZ⟩ := Init0T.ofS_atoms (args := args) hpl L Y (fun x hx => h x (by simp [Bundle.ownAtoms, hx]))
  obtain ⟨P1, Ps, hlen, L1, hL, hP1m, hlink1, hlink⟩ := Bundle.chainS (args := args) hpl hnZ names cls hcls hnames (fun x hx => h x (by simp [Bundle.ownAtoms, hx]))
  have hfound : s.vm.findClass cls = some P1.m.cls := findClass_of_methodNamed hP1m
  cases Option.some.inj (hfoundX.symm.trans hfound)
  obtain ⟨c1, kX', hc1, hk, hord, -, -, hn6⟩ := Cond.instantiable_spec (a' (.instantiable cls 6) (by simp [Bundle.ownAtoms]))
  cases Option.some.inj (hc1.symm.trans hfound)
  cases Option.some.inj (hkX.symm.trans hk)
  have hsel0 : selectMethod e.platform s.vm P1.m.cls T.fill0 = .method T.fill0 := by
    obtain ⟨c2, r2, m2, q1, q2, q3, q4, -⟩ := Cond.selects_spec (a' (.selects cls Bundle.tFill0 Bundle.tFill0) (by simp [Bundle.ownAtoms]))
    cases Option.some.inj (q1.symm.trans hfound)
    cases Option.some.inj (q2.symm.trans (State.methodFound?_of_named Y.fill0 (by decide)))
    cases Option.some.inj (q3.symm.trans Y.fill0)
    rw [Launch.admits_selectMethod X.admits]; exact q4
  have hselF : selectMethod e.platform s.vm P1.m.cls T.fill = .method T.fill := by
    obtain ⟨c2, r2, m2, q1, q2, q3, q4, -⟩ := Cond.selects_spec (a' (.selects cls Bundle.tFill Bundle.tFill) (by simp [Bundle.ownAtoms]))
    cases Option.some.inj (q1.symm.trans hfound)
    cases Option.some.inj (q2.symm.trans (State.methodFound?_of_named Y.fill (by decide)))
    cases Option.some.inj (q3.symm.trans Y.fill)
    rw [Launch.admits_selectMethod X.admits]; exact q4
  obtain ⟨cellS0, hcS0, hiss⟩ := Y.statics
  obtain ⟨u0, hu0⟩ := Cond.staticRefV Y.unassigned L.unassignedStatic L.statics hcS0 hiss (a' (.isRef (.static Bundle.tN "UNASSIGNED_STACK" Bundle.steD)) (by simp [Bundle.ownAtoms]))
  obtain ⟨sen, hsen⟩ := Cond.staticRefV Y.sentinel L.sentinelStatic L.statics hcS0 hiss (a' (.isRef (.static Bundle.tN "SUPPRESSED_SENTINEL" Bundle.listD)) (by simp [Bundle.ownAtoms]))
  obtain ⟨ci198, i198, fB, hk198, hg198, ha198, hsB, -, hnB, htB, hffB⟩ := Cond.ownField (t := .object "java/lang/Object") Y.found L.cls (by decide +kernel) (a' (.fieldLink Bundle.tN 198 Bundle.tN "backtrace" "Ljava/lang/Object;") (by simp [Bundle.ownAtoms])) (a' (.lays Bundle.tN Bundle.tN "backtrace" "Ljava/lang/Object;") (by simp [Bundle.ownAtoms])) e.platform hpl
  obtain ⟨cellS, hcS', heS, -, hkeep⟩ := X.same.2.2.2.2.2 T.aS cellS0 hcS0
  have hcellS : V.heap[T.aS]? = some cellS := hcS'
  have hout' : ∀ i, (⟨T.aS, i⟩ : Loc) ∉ locs := fun i hmem => by
    have := hlocs _ hmem cellS0 hcS0
    rw [hiss] at this; cases this
  have hknownS : cellS.vm ≠ .unknown := by
    rw [heS]; intro hu
    rw [show cellS0.vm = .unknown from hu] at hiss
    cases hiss
  have hneS : T.aS ≠ a := Nat.ne_of_lt (Nat.lt_of_lt_of_le (Array.getElem?_eq_some_iff.mp hcS0).1 hnew)
  obtain ⟨iM, hffM⟩ := Y.msg
  obtain ⟨tyC, dC, hdC, hdnC⟩ := Cond.laysAt hfound hk Y.cause (a' (.lays cls Bundle.tN "cause" "Ljava/lang/Throwable;") (by simp [Bundle.ownAtoms]))
  obtain ⟨tyS, dS, hdS, hdnS⟩ := Cond.laysAt hfound hk Y.stack (a' (.lays cls Bundle.tN "stackTrace" Bundle.steD) (by simp [Bundle.ownAtoms]))
  obtain ⟨tyP, dP, hdP, hdnP⟩ := Cond.laysAt hfound hk Y.supp (a' (.lays cls Bundle.tN "suppressedExceptions" Bundle.listD) (by simp [Bundle.ownAtoms]))
  obtain ⟨tyM, dM, hdM, hdnM⟩ := Cond.laysAt hfound hk hffM (a' (.lays cls Bundle.tN "detailMessage" "Ljava/lang/String;") (by simp [Bundle.ownAtoms]))
  obtain ⟨tyB, dB, hdB, hdnB⟩ := Cond.laysAt hfound hk hffB (a' (.lays cls Bundle.tN "backtrace" "Ljava/lang/Object;") (by simp [Bundle.ownAtoms]))
  have bC := Cond.laysApart hdB hdC hdnB hdnC (by rw [hnB, Y.causeName]; decide)
  have bS := Cond.laysApart hdB hdS hdnB hdnS (by rw [hnB, Y.stackName]; decide)
  have bP := Cond.laysApart hdB hdP hdnB hdnP (by rw [hnB, Y.suppName]; decide)
  have hskip : SkipFacts T e.platform s (fun u => u) u0 ((preparedCellV T.toThrowableT (freshCell P1.m.cls kX) a u0 sen).withEntry V.cur) :=
    ⟨{ ci198 := ci198, i198 := i198, fBack := fB }, ⟨hk198, hg198, ha198, hsB⟩, by
      have := fresh_default (c := P1.m.cls) tyB
      rw [htB] at this
      simpa [preparedCellV, Cell.setSlot, Cell.withEntry, Array.getElem?_setIfInBounds, bC, bS, bP, bC.symm, bS.symm, bP.symm, defaultValue] using this, fun _ _ => rfl⟩
  obtain ⟨tm, methC, cdC, kC, vm₁, hnC, -, -, -, -, -, -, -, hW₁, st1⟩ := Steps.initColdS (tb := p.tables) (e := e) (below := below) (s := s) (U := V) X.here hexec X.warmed hpl hown (t := Bundle.initS cls) rfl rfl (Bundle.fit_spec hcls).2
    (a' (.methodLink own ic (Bundle.initS cls)) (by simp [Bundle.ownAtoms])) (h (.instanceMethod (Bundle.initS cls)) (by cases names <;> simp [Bundle.ownAtoms, Bundle.chainSAtoms, Bundle.passSAtoms])) (bytes := Bundle.six) (maxL := 2) (h (.code (Bundle.initS cls) Bundle.six 2 none) (by cases names <;> simp [Bundle.ownAtoms, Bundle.chainSAtoms, Bundle.passSAtoms]))
    (f := g) hg (a := a) (msg := msg) (rest := .ref a :: rest) hstack hd6
  cases Option.some.inj (hnC.symm.trans hP1m)
  have X₁ := X.noted hW₁
  obtain ⟨vm₂, X₂, st2⟩ := X₁.ctorMessageOffV hexec (g := { g with stack := .ref a :: rest }) hg hsize T L Z LZ M LM (P1 :: Ps)
    (fun P hP => by rcases List.mem_cons.mp hP with rfl | hP; exact L1; exact hL P hP) ⟨hlink1, hlink⟩ (u0 := u0) (sen := sen) (self := a) hmsg (cell := freshCell P1.m.cls kX) (cellS := cellS)
    hcell (fun _ => by simp) (by simp) rfl rfl hsel0 hselF hcellS hneS hknownS (by rw [hkeep _ (hout' _)]; exact hu0) (by rw [hkeep _ (hout' _)]; exact hsen)
    (Takes.of_laid hk hord tyC (by rw [Y.causeType]; rfl)) (Takes.of_laid hk hord tyS (by rw [Y.stackType]; exact fits_refV_array _ u0)) (Takes.of_laid hk hord tyP (by rw [Y.suppType]; exact fits_refV_object _ sen))
    (Takes.of_laid hk hord tyM (by rw [Y.msgType]; exact fits_refV_object _ ⟨msg, hmsg⟩)) Y.objLocals hskip htr [] hd6
    (by simp only [List.length_cons, hlen]; omega) (by simp only [List.length_cons, hlen]; exact hRlocals)
  obtain ⟨hwalk, hrun, hended, hWU, hsame⟩ := X₂.athrowLeaves hexec (g := { g with stack := .ref a :: rest, pc := g.pc + 3 }) hg hlocked hentered hout (a := a) (rest := rest) rfl hd9 (hlocks := hlocks)
  have hlt : a < ((V.setVm vm₁).setVm vm₂).heap.size := (Array.getElem?_eq_some_iff.mp hcell).1
  have hU := heapAt_setCell_self (s := (V.setVm vm₁).setVm vm₂) (plainBareV T.toThrowableT (freshCell P1.m.cls kX) a u0 sen msg) hlt
  refine ⟨_, st1 _ (fun acts => ?_), hrun, hended, hWU, hsame.weaken (fun y hy hlt' => ?_) (Nat.le_refl _) (Nat.le_refl _), ?_, ?_, _, hU, rfl, rfl⟩
  · rw [doInvoke_state]
    exact st2 _ hwalk
  · rcases List.mem_append.mp hy with h1 | h1
    · exact h1
    · exfalso
      have hb : y.base = a := by
        simp only [List.mem_cons, List.not_mem_nil, or_false] at h1
        rcases h1 with rfl | rfl | rfl | rfl | rfl <;> rfl
      rw [hb] at hlt'
      exact Nat.not_lt.mpr hnew hlt'
  · intro q hq
    exact heapAt_setCell_ne (s := (V.setVm vm₁).setVm vm₂) (plainBareV T.toThrowableT (freshCell P1.m.cls kX) a u0 sen msg) (Ne.symm hq)
  · exact size_setCell ((V.setVm vm₁).setVm vm₂) a (plainBareV T.toThrowableT (freshCell P1.m.cls kX) a u0 sen msg)
end ZT1
section ZT2
variable {p : Program} {l : Launch} {e : Env} {R : Room} {s : State} {m : MethodId} {args : Array Value} {below : List Frame} {meth : Method} {c : Code} {H : Heap} {locs : List Loc} {cells slots : Nat} {Q : State → Prop}
variable {cc : ByteArray} {nL pc ik is ic b0 : Nat} {ls : Array Slot} {rest : List Value} {own cls text : String} {names : List String} {A : Nat → Prop} {Pw : Heap → Prop} {S0 : State}
set_option maxHeartbeats 1000000 in
/-- 'throw new X("..")' from its first instruction to the end -/
theorem zt_throw (hexec : p.tables.exec = Jvm.exec) (hb : c.code = cc) (hml : c.maxLocals = nL) (hown : s.vm.findClass own = some m.cls) (htr : l.admits e → e.platform.stackTraces = false) (hS0 : zt_W b0 S0) (hz : zt_P S0 s)
    (hcls : Bundle.fit cls = true) (hnames : ∀ n ∈ names, Bundle.fit n = true)
    (hws : ∀ w ∈ (.classLink own ik cls :: .initialized cls :: .stringRef own is text :: Bundle.ownAtoms own ic cls names), w ∈ zt_tbl ∧ zt_good w = true)
    (hS : va_S A s.heap H locs) (hA : ∀ q : Nat, A q → ∀ cell, s.heap[q]? = some cell → cell.vm.isStatics = false) (hPw : ∀ H' : Heap, (∀ q : Nat, q < H.size → H'[q]? = H[q]?) → Pw H')
    (hsz : ls.size = nL) (hno : c.exceptionTable.isEmpty = true) (hlocks : meth.locks = false)
    (d0 : decode cc pc = .ok (.new ik, 3)) (d3 : decode cc (pc + 3) = .ok (.dup, 1)) (d4 : decode cc (pc + 4) = .ok (.ldc is, 2)) (d6 : decode cc (pc + 6) = .ok (.invokespecial ic, 3)) (d9 : decode cc (pc + 9) = .ok (.athrow, 1))
    (hR : names.length + 3 < R.frames ∧ (rest.map fun v => v.category).sum + (13 * (names.length + 1) + 43) ≤ R.locals ∧ 1 ≤ R.cells ∧ 6 ≤ R.slots) :
    W p l e R s m args below meth c H locs 0 0 (zt_MQ below (zt_Q cls Pw A) s 1 6 A) (F0 m pc ls rest) := by
  intro V hV X
  subst hb
  have ok : ∀ w ∈ (.classLink own ik cls :: .initialized cls :: .stringRef own is text :: Bundle.ownAtoms own ic cls names), w.before args s = true := zt_ws hS0 hz hws
  have hown' := hown
  have h : ∀ a ∈ Bundle.ownAtoms own ic cls names, a.before args s = true := fun a ha => ok a (List.mem_cons_of_mem _ (List.mem_cons_of_mem _ (List.mem_cons_of_mem _ ha)))
  have hk := ok (.classLink own ik cls) List.mem_cons_self
  have hini := ok (.initialized cls) (List.mem_cons_of_mem _ List.mem_cons_self)
  have hs := ok (.stringRef own is text) (List.mem_cons_of_mem _ (List.mem_cons_of_mem _ List.mem_cons_self))
  have hins : (Cond.instantiable cls 6).before args s = true := h _ (by simp [Bundle.ownAtoms])
  have hgrow : s.heap.size ≤ V.heap.size := by rw [hV]; exact hS.1
  obtain ⟨vm₁, cX, kX, hfX, hkX, -, -, X₁, st1⟩ := X.newCold hexec (own := own) (C := cls) (index := ik) (n := 6) hown hk hins hini
    (g := F0 m pc ls rest) rfl d0 (by omega) (by omega)
  generalize hT : (V.setVm vm₁).pushCell { cls := cX, slots := kX.instanceTypes.map defaultValue, vm := .none } = T at X₁ st1
  have hcat : (Value.ref V.heap.size).category = 1 := rfl
  have hcellA : T.heap[V.heap.size]? = some (freshCell cX kX) := by rw [← hT]; exact State.heap_pushCell_size _ _
  have hTold : ∀ q : Nat, q < V.heap.size → T.heap[q]? = V.heap[q]? := fun q hq => by
    rw [← hT]
    show (V.heap.push _)[q]? = _
    rw [Array.getElem?_push_lt hq]
    exact (Array.getElem?_eq_getElem hq).symm
  have hTsz : T.heap.size = V.heap.size + 1 := by rw [← hT]; exact size_pushCell _ _
  obtain ⟨-, -, -, sa, -, -, -, -, -, hev⟩ := Cond.stringRef_spec hown hs
  obtain ⟨U, hsteps, hrun, hend, hW, hsame, hkp, hsz2, ce, hce, hceV, hceC⟩ := zt_ctor X₁ hexec (htr X.admits) (own := own) (cls := cls) (names := names) (ic := ic) hown hcls hnames h
    (fun x hx cell hc => hA _ (hS.2.2 x hx) cell hc) hfX hkX hcellA hgrow (msg := .ref sa) rfl
    (g := F0 m (pc + 6) ls (.ref sa :: .ref V.heap.size :: .ref V.heap.size :: rest)) rfl (hsz.trans hml.symm) rfl rfl (rest := rest) rfl
    d6 d9 (fun x hx => by rw [Array.isEmpty_iff] at hno; rw [hno] at hx; cases hx) hR.1 (by show 2 * 0 + _ + _ ≤ _; simp only [List.map_cons, List.sum_cons, hcat]; omega) hlocks
  have old : ∀ q : Nat, q < H.size → U.heap[q]? = H[q]? := fun q hq => by
    rw [hkp q (by rw [hV]; exact Nat.ne_of_lt hq), hTold q (by rw [hV]; exact hq), hV]
  refine ⟨U, ?_, V.heap.size, hrun, hend, ⟨⟨ce, hce, hceV, by rw [hceC]; exact hfX⟩, hPw U.heap old, ?_, ?_⟩, locs, ⟨hW, hsame.mono (by omega) (by omega)⟩, hS.2.2⟩
  · refine st1 _ ?_
    show Steps p.tables e below (T.setTop { method := m, pc := pc + 3, locals := ls, stack := .ref V.heap.size :: rest, locked := none }) _
    jvm_step X₁.here [X₁.here.top, hexec, d3, Value.category]
    exact X₁.ldcString hexec (own := own) (text := text) (index := is) (a := sa) hown hs hev
      (g := { method := m, pc := pc + 4, locals := ls, stack := .ref V.heap.size :: .ref V.heap.size :: rest, locked := none }) rfl d4 _ hsteps
  · rw [hsz2, hTsz]; omega
  · intro q hq ha
    rw [old q (Nat.lt_of_lt_of_le hq hS.1)]
    exact hS.2.1 q hq ha
end ZT2
/-! A call of a method that throws, and the handler that catches; a call of a method with handlers. -/
section ZT3
variable {p : Program} {l : Launch} {e : Env} {R : Room} {s : State} {m : MethodId} {sargs : Array Value} {below : List Frame} {meth : Method} {c : Code} {U : State} {locs : List Loc} {cells slots : Nat}
/-- the callee, from its calling state to the note over the caller's frame -/
theorem zt_go (X : Stand p l e R s m sargs below meth c U locs cells slots) {y : MethodName} {ws : List Cond} {rm : Room} {Pc : Array Value → State → Prop} {Qt : State → Addr → State → Prop} {mc ms : Nat} {free : Addr → Prop} {bytes : ByteArray} {maxL : Nat} {ret : Option FieldType}
    (hM : zt_Met l y ws rm Pc Qt mc ms free) (hframes : rm.frames + 1 ≤ R.frames) (hlocals : 8 + (maxL + 11) + rm.locals ≤ R.locals) (hcells : cells + rm.cells ≤ R.cells) (hslots : slots + rm.slots ≤ R.slots)
    {a : Array Value} (hws : ∀ w ∈ ws, w.before a U = true) (hcode : (Cond.code y bytes maxL ret).before a U = true) (hini : (Cond.initialized y.cls).before a U = true)
    {g : JFrame} (hg : g.method = m) (hsize : g.locals.size = c.maxLocals) (hW : 2 * g.monitorRoom + (g.stack.map fun v => v.category).sum ≤ 8) {ig : Instr} {len : Nat} (hdg : decode c.code g.pc = .ok (ig, len)) {mk : MethodId} (hn : U.methodNamed? y = some mk) (hPc : Pc a (U.calling g mk a)) :
    ∃ (x : Addr) (U' t : State) (L : List Loc), Qt (U.calling g mk a) x t ∧ (∀ q ∈ L, free q.base) ∧ U'.heap = t.heap ∧ Stand p l e R s m sargs below meth c U' (locs ++ L) (cells + mc) (slots + ms) ∧ Steps p.tables e below (doInvoke e (U.setTop g) [] mk a).1 ((U'.setTop g).pushFrame (.throwing x)) := by
  obtain ⟨methY, cY, hmY, hcY, -, hlY, -, -, -, -⟩ := Cond.code_spec hn hcode
  obtain ⟨kY, hkY, -⟩ := className_of_methodNamed hn
  have hinitY : kY.init = .initialized := Cond.initialized_spec (findClass_of_methodNamed hn) hkY hini
  have h : At U g.method c below := by rw [hg]; exact X.here
  have happ : (headSpec ws rm).appliesLoose y e.platform (U.calling g mk a) = true :=
    Spec.appliesLoose_calling (g := g) h hdg hn hkY hinitY
      (X.room_calling (g := g) (R' := rm) hsize hmY hcY hframes (by rw [hlY]; omega) hcells hslots) (atoms_intro hws)
  obtain ⟨mid, hmid⟩ := h.above
  have hfr : (U.setTop g).frames = (.java g :: mid) ++ below := by rw [State.frames_setTop' g h.top, hmid]; rfl
  obtain ⟨o, t, hsteps, -, hend, x, rfl, hq, L, ⟨hW2, hs2⟩, hL⟩ := Steps.callFree hM p X.admits X.cas X.clock (acts := []) hfr happ hPc trivial
  rw [State.frames_setTop' g h.top, X.tail] at hend
  obtain ⟨U', X', -, -, e1⟩ := X.outOfThrown hg hend hW2 hs2
  refine ⟨x, U', t, L, hq, hL, ?_, X', ?_⟩
  · rw [e1, Stand.throwing_heap]
  · rw [← e1]; exact hsteps
end ZT3
section ZT4
variable {e : Env} {s : State} {f : JFrame} {a : Addr} {x : ExceptionTableEntry} {t : List ExceptionTableEntry} {c : ClassId} {cell : Cell}
/-- a handler whose catch type links to what the object is, or to what it isn't: the search finds it, or goes on -/
theorem zt_find {Q : Handler → Pre} {E : CtlPost} {d : Bool} {acts : List Action} (hx : covers x f.pc = true) (h0 : x.catchType ≠ 0)
    (hl : s.vm.ClassLinks e.platform f.method.cls x.catchType c) (hcell : s.heap[a]? = some cell) (hobj : ∀ k, cell.vm ≠ .statics k)
    (hk : ∃ k, s.vm.classes[cell.cls]? = some k) (hc : ∃ k, s.vm.classes[c]? = some k) {b : Bool} (hfit : s.vm.assignable cell.cls c = b) :
    wp (findHandler.go f a (x :: t)) Q E e d acts s ↔ if b = true then Q (.found x.handlerPc) d acts (s.setVm (s.vm.noted f.method.cls x.catchType (.cls c))) else wp (findHandler.go f a t) Q E e d acts (s.setVm (s.vm.noted f.method.cls x.catchType (.cls c))) := by
  simp only [covers] at hx
  obtain ⟨ha, ht⟩ := (resolveClass_links e.toSetting hl).op (op := VmOp.resolveClass f.method.cls x.catchType) rfl
  have hal : s.vm.Alike (s.vm.noted f.method.cls x.catchType (.cls c)) := (Vm.Alike.refl s.vm).noted _ _ _
  obtain ⟨k1, hk1⟩ := hk
  obtain ⟨k2, hk2⟩ := hc
  obtain ⟨k1', hk1', -⟩ := hal.2.2 _ _ hk1
  obtain ⟨k2', hk2', -⟩ := hal.2.2 _ _ hk2
  have hfit' : (s.vm.noted f.method.cls x.catchType (.cls c)).assignable cell.cls c = b := by rw [hal.assignable]; exact hfit
  cases b <;> simp [findHandler.go, hx, h0, ha, ht, hcell, hobj, hk1', hk2', hfit', VmOp.dirties, VmOp.acts]
def zt_Fi (e : Env) (s : State) (f : JFrame) (a : Addr) (pc : Nat) (vm' : Vm) : Prop := ∀ (Q : Handler → Pre) (E : CtlPost) (d : Bool) (acts : List Action), wp (findHandler f a) Q E e d acts s ↔ Q (.found pc) d acts (s.setVm vm')
theorem zt_caught {tb : Tables} {target : State} {code : Code} {below : List Frame} (h : At s f.method code below) {pc : Nat} {vm' : Vm} (hfind : zt_Fi e ((s.setTop f).pushFrame (.throwing a)) f a pc vm')
    (hrest : Steps tb e below ((s.setVm vm').setTop { f with pc := pc, stack := [.ref a] }) target) : Steps tb e below ((s.setTop f).pushFrame (.throwing a)) target := by
  obtain ⟨hgo, hw⟩ := h.throwing a
  refine Steps.head hgo hw ?_
  have hstep : ∀ r, (stepThrowing e ((s.setTop f).pushFrame (.throwing a)) a (.java f :: r)).1 = ((((s.setTop f).pushFrame (.throwing a)).setVm vm').setFrames (.java { f with pc := pc, stack := [.ref a] } :: r)) := by
    intro r
    simp only [stepThrowing, searchFrame, vmDo]
    generalize hr : Sem.go _ e false [] ((s.setTop f).pushFrame (.throwing a)) = res
    obtain ⟨as, rfl, ha⟩ := Sem.eq_ok_of hr (a := Handler.found pc) (s' := ((s.setTop f).pushFrame (.throwing a)).setVm vm') (acts' := []) (by simp [hfind _ _ _ _])
    rfl
  rw [stepThread_throwing (frames_entered h.top _), hstep]
  obtain ⟨g₀, hg⟩ := Option.isSome_iff_exists.mp h.top
  obtain ⟨r, hr⟩ := State.topJava?_eq_some.mp hg
  have hr' : (s.setVm vm').frames = .java g₀ :: r := hr
  have key : ∀ (u : State) (F G : List Frame), ((u.setFrames F).setVm vm').setFrames G = (u.setVm vm').setFrames G := fun u F G => by
    show ((u.setVm vm').setFrames F).setFrames G = _
    rw [State.setFrames_setFrames]
  rw [State.setTop_of_frames _ hr'] at hrest
  rw [hr, List.tail_cons, State.pushFrame, key, State.setTop_of_frames _ hr, key]
  exact hrest
end ZT4
section ZT5
variable {p : Program} {l : Launch} {e : Env} {R : Room} {s : State} {m : MethodId} {args : Array Value} {below : List Frame} {meth : Method} {c : Code} {H : Heap} {locs : List Loc} {cells slots : Nat} {Q : State → Prop}
  {Ts ws ws' : List Cond} {cc bytes : ByteArray} {nL maxL index n mc ms pc : Nat} {own C cls : String} {y : MethodName} {ret : Option FieldType} {rm : Room} {Pc : Array Value → State → Prop} {Pw : Heap → Prop} {A0 A1 : Nat → Prop} {H0 : Heap}
  {b : Addr} {As rest st0 : List Value} {ls : Array Slot} {hs : List (Nat × Nat × Nat × Nat)} {Qc : Array Value → State → Outcome → State → Prop} {free : Addr → Prop} {g : JFrame}
/-- the handlers: how the search ends -/
theorem zt_search {f : JFrame} {a : Nat} {S : State} {cell : Cell} {code : Code} (hm : S.vm.method? f.method = some meth) (hc : meth.code = some code) (hWr : s.WarmedH S.vm) (hpl : e.platform.magicAccessors = ({} : Platform).magicAccessors) (ho : s.vm.findClass own = some f.method.cls)
    (hcell : S.heap[a]? = some cell) (hobj : cell.vm.isStatics = false) (hfc : s.vm.findClass cls = some cell.cls) (hcast : (Cond.castable cls cls).before args s = true) (x : ExceptionTableEntry) (post : List ExceptionTableEntry) (hx : covers x f.pc = true) (h0 : x.catchType ≠ 0) (hlink : (Cond.classLink own x.catchType cls).before args s = true) :
    ∀ (pre : List ExceptionTableEntry) (S : State), S.vm.method? f.method = some meth → s.WarmedH S.vm → S.heap[a]? = some cell → (∀ z ∈ pre, covers z f.pc = true ∧ z.catchType ≠ 0 ∧ ∃ nm, (Cond.classLink own z.catchType nm).before args s = true ∧ (Cond.not (.castable cls nm)).before args s = true) →
      ∃ vm', s.WarmedH vm' ∧ ∀ (Q : Handler → Pre) (E : CtlPost) (d : Bool) (acts : List Action), wp (findHandler.go f a (pre ++ x :: post)) Q E e d acts S ↔ Q (.found x.handlerPc) d acts (S.setVm vm') := by
  obtain ⟨c3, c4, hc3, hc4, hasg⟩ := Cond.castable_spec hcast
  cases hc3.symm.trans hfc
  cases hc4.symm.trans hfc
  intro pre
  induction pre with
  | nil =>
    intro S _ hW hce _
    obtain ⟨c', hc', hl⟩ := Cond.classLink_spec ho hlink e.platform hpl
    cases hc'.symm.trans hfc
    obtain ⟨dk, _, _, kt, hd, _, _, _, _, hkt, _, hopen⟩ := hl.here
    obtain ⟨kt', hkt', -⟩ := hW.alike.2.2 _ _ hkt
    refine ⟨_, hW.noted hd hopen (State.rightAt_cls hl), fun Q E d acts => ?_⟩
    rw [List.nil_append, zt_find (b := true) hx h0 (hW.classLinks hl) hce (VmData.ne_statics_of hobj) ⟨kt', hkt'⟩ ⟨kt', hkt'⟩ (by rw [hW.alike.assignable]; exact hasg), if_pos rfl]
  | cons z zs ih =>
    intro S hm9 hW hce hp
    obtain ⟨z1, z2, nm, z3, z4⟩ := hp z List.mem_cons_self
    obtain ⟨c', hc', hl⟩ := Cond.classLink_spec ho z3 e.platform hpl
    obtain ⟨dk, _, _, kt, hd, _, _, _, _, hkt, _, hopen⟩ := hl.here
    obtain ⟨kt', hkt', -⟩ := hW.alike.2.2 _ _ hkt
    obtain ⟨ko, hko⟩ := Vm.classAt_of_findClass (by rw [hW.alike.findClass]; exact hfc : S.vm.findClass cls = some cell.cls)
    have hno : S.vm.assignable cell.cls c' = false := by
      have hv := Cond.holds_not_iff.mp z4
      simp only [Cond.value, hfc, hc'] at hv
      rw [hW.alike.assignable]
      exact Option.some.inj hv
    have hW2 := hW.noted hd hopen (State.rightAt_cls hl)
    obtain ⟨vm', hW', hq⟩ := ih (S.setVm (S.vm.noted f.method.cls z.catchType (.cls c'))) (by
      show (S.vm.noted f.method.cls z.catchType (.cls c')).method? f.method = some meth
      rw [(alike_of hW hW2).method?]; exact hm9) hW2 hce (fun y hy => hp y (List.mem_cons_of_mem _ hy))
    refine ⟨vm', hW', fun Q E d acts => ?_⟩
    rw [List.cons_append, zt_find (b := false) z1 z2 (hW.classLinks hl) hce (VmData.ne_statics_of hobj) ⟨ko, hko⟩ ⟨kt', hkt'⟩ hno, if_neg Bool.false_ne_true]
    exact hq Q E d acts
/-- the call throws an object of cls; the handler at x catches it, those ahead of it name what it is not -/
theorem zt_callV (S : CallFix p m c cc nL s args Ts own) (hM : zt_Met l y ws rm Pc (zt_Q cls Pw A1) mc ms A1) (cw : CallW R s args own C index y bytes maxL ret ws rm mc ms n) (hp : PreV s H C b Pc As)
    (hn : As.length = n) (hsize : ls.size = nL) (hstack : st0 = As.reverse ++ .ref b :: rest) (hW : (rest.map fun v => v.category).sum ≤ 8) (hdg : decode cc pc = .ok (.invokevirtual index, 3)) (hf : cells + mc ≤ R.cells ∧ slots + ms ≤ R.slots)
    (hS : va_S A0 H0 H locs) (hA : ∀ q, A1 q → A0 q)
    (pre : List ExceptionTableEntry) (x : ExceptionTableEntry) (post : List ExceptionTableEntry) (hsplit : c.exceptionTable.toList = pre ++ x :: post) (hx : covers x pc = true) (h0 : x.catchType ≠ 0)
    (hlink : (Cond.classLink own x.catchType cls).before args s = true) (hcast : (Cond.castable cls cls).before args s = true)
    (hpass : ∀ z ∈ pre, covers z pc = true ∧ z.catchType ≠ 0 ∧ ∃ nm, (Cond.classLink own z.catchType nm).before args s = true ∧ (Cond.not (.castable cls nm)).before args s = true)
    (kk : ∀ (a : Nat) (H1 : Heap) (locs1 : List Loc), Pw H1 → H.size ≤ H1.size → (∀ q : Nat, q < H.size → ¬ A1 q → H1[q]? = H[q]?) → va_S A0 H0 H1 locs1 → W p l e R s m args below meth c H1 locs1 (cells + mc) (slots + ms) Q (F0 m x.handlerPc ls [.ref a])) :
    W p l e R s m args below meth c H locs cells slots Q (F0 m pc ls st0) := by
  obtain ⟨⟨hrc, hrs, hfr, hlo, hws, hcw, hcode, hini, hy, hlen, hlk⟩, hin, hse⟩ := cw
  obtain ⟨hx9, hb, hml, ho, -⟩ := S
  obtain ⟨hbl, ⟨cellB, hcB, hoB, hclB⟩, hPc⟩ := hp
  intro T hT X
  have hpl : e.platform.magicAccessors = ({} : Platform).magicAccessors := by rw [X.admits.platform]
  obtain ⟨mk, methM, hnamed, hmethM, hstM, habM⟩ := Cond.instanceMethod_spec hin
  obtain ⟨methM', cM, hmethM', -, -, -, -, -, -, hsigM⟩ := Cond.code_spec hnamed hcode
  cases hmethM.symm.trans hmethM'
  obtain ⟨c2, r2, m2, q1, q2, q3, q4, kP, hkP, hkPi⟩ := Cond.selects_spec hse
  cases hclB.symm.trans q1
  cases (State.methodFound?_of_named hnamed hy).symm.trans q2
  cases hnamed.symm.trans q3
  have hselP : selectMethod e.platform s.vm cellB.cls mk = .method mk := by rw [Launch.admits_selectMethod X.admits]; exact q4
  obtain ⟨vm₁, X₁, hstep₁⟩ := X.invokevirtual hx9 ho hlk hnamed hmethM hstM hkP hkPi hy (a := b) (cell := cellB) (by rw [hT]; exact hcB)
    (fun z h => by rw [h] at hoB; cases hoB) hselP hmethM habM hkP hkPi (g := F0 m pc ls st0) rfl (argsL := As) (rest := rest) (hn.trans (hlen _ hsigM)) hstack (by rw [hb]; exact hdg)
  have hW₁ := X₁.warmed
  have hH1 : ((T.setVm vm₁).calling (F0 m pc ls rest) mk (Value.ref b :: As).toArray).heap = H := hT
  obtain ⟨v, U', t, L, ⟨⟨ce, hce, hceV, hceC⟩, hPw, hF⟩, hL, e1, X', st⟩ := zt_go X₁ (bytes := bytes) (maxL := maxL) (ret := ret) hM hfr hlo (by rw [hrc]; exact hf.1) (by rw [hrs]; exact hf.2) (fun w hw => hws w hw _ _ hW₁) (hws _ hcw _ _ hW₁)
    (word_at hW₁ (Or.inl (by first | rfl | simp [Cond.onTables, Cond.keeps, Cond.steady])) hini) (g := F0 m pc ls rest) rfl (hsize.trans hml.symm) (by show 2 * 0 + (rest.map fun v => v.category).sum ≤ 8; omega) (ig := .invokevirtual index) (len := 3) (by rw [hb]; exact hdg) (X₁.named hnamed) (hbl _ _ _ _ (hPc (T.setVm vm₁) hT hW₁))
  have hfc : s.vm.findClass cls = some ce.cls := by
    have q : vm₁.findClass cls = some ce.cls := hceC
    rw [← hW₁.alike.findClass]; exact q
  have hmeth' : U'.vm.method? m = some meth := X'.method'
  obtain ⟨vm', hW', hq⟩ := zt_search (meth := meth) (cls := cls) (own := own) (args := args) (f := F0 m pc ls rest) (a := v) (S := U') (code := c) hmeth' X'.code X'.warmed hpl ho (by rw [e1]; exact hce) (by rw [hceV]; rfl) hfc hcast x post hx h0 hlink pre ((U'.setTop (F0 m pc ls rest)).pushFrame (.throwing v)) hmeth' X'.warmed (by rw [Stand.throwing_heap, e1]; exact hce) hpass
  have XV := X'.noted hW'
  have hF1 : H.size ≤ t.heap.size := by have q := hF.1; rw [hH1] at q; exact q
  have hF2 : ∀ q : Nat, q < H.size → ¬ A1 q → t.heap[q]? = H[q]? := fun q h1 h2 => by
    have q2 := hF.2 q (by rw [hH1]; exact h1) h2
    rw [hH1] at q2
    exact q2
  obtain ⟨t2, a1, b1⟩ := kk v t.heap (locs ++ L) hPw hF1 hF2
    ⟨Nat.le_trans hS.1 hF1, fun q h1 h2 => by rw [hF2 q (Nat.lt_of_lt_of_le h1 hS.1) (fun z => h2 (hA q z))]; exact hS.2.1 q h1 h2, fun q hq => by
      rcases List.mem_append.mp hq with h | h
      · exact hS.2.2 q h
      · exact hA _ (hL q h)⟩ (U'.setVm vm') e1 XV
  refine ⟨t2, ?_, b1⟩
  refine hstep₁ _ fun acts => ?_
  rw [doInvoke_state]
  refine st.trans ?_
  refine zt_caught (f := F0 m pc ls rest) X'.here (pc := x.handlerPc) (vm' := vm') (fun Q E d acts => ?_) a1
  rw [W.findHandler_eq (meth := meth) (code := c) hmeth' X'.code, hsplit]
  exact hq Q E d acts
/-- a call of a static method that has handlers of its own -/
theorem zk_runS (S : CallFix p m c cc nL s args Ts own) (hM : Met l y ws rm Pc Qc mc ms free) (ht : ∀ w ∈ Ts, w.before args s = true) (hG : GoodIn Ts (.methodLink own index y :: .static y :: .initialized y.cls :: ws)) (hw : ws = Cond.codeWith y bytes maxL ret hs :: ws') (hrc : rm.cells = mc ∧ rm.slots = ms)
    (hd : y.cls ≠ "java/lang/invoke/MethodHandle" ∧ y.cls ≠ "java/lang/invoke/VarHandle" ∧ (parseMethodDescriptor y.desc).map (fun d => d.parameters.length) = some n) (hR : rm.frames + 1 ≤ R.frames ∧ 8 + (maxL + 11) + rm.locals ≤ R.locals) (hp : PreS s H Pc As)
    (hg : g.method = m) (hn : As.length = n) (hsize : g.locals.size = nL) (hstack : g.stack = As.reverse ++ rest) (hW : 2 * g.monitorRoom + (rest.map fun v => v.category).sum ≤ 8) (hdg : decode cc g.pc = .ok (.invokestatic index, 3)) (hf : cells + mc ≤ R.cells ∧ slots + ms ≤ R.slots) :
    va_Run p l e R s m args below meth c H locs cells slots mc ms g rest (Qc As.toArray) free := by
  have ok : ∀ w ∈ (.methodLink own index y :: .static y :: .initialized y.cls :: ws : List Cond), w.before args s = true := fun w h => ht w (hG w h).1
  have hl := ok (.methodLink own index y) List.mem_cons_self
  have hstt := ok (.static y) (List.mem_cons_of_mem _ List.mem_cons_self)
  have hini := ok (.initialized y.cls) (List.mem_cons_of_mem _ (List.mem_cons_of_mem _ List.mem_cons_self))
  have hcm : Cond.codeWith y bytes maxL ret hs ∈ ws := by rw [hw]; exact List.mem_cons_self
  have hcode := ok _ (List.mem_cons_of_mem _ (List.mem_cons_of_mem _ (List.mem_cons_of_mem _ hcm)))
  have hK : Back l R p e below s args y 3 8 (PreOf R mc ms Pc) (PostOf Qc mc ms free) := va_backW (bytes := bytes) (maxL := maxL) (ret := ret) hM hp.1 hrc.1 hrc.2 hR.1 hR.2 (pay_in ht (fun w h => hG w (List.mem_cons_of_mem _ (List.mem_cons_of_mem _ (List.mem_cons_of_mem _ h))))) hcm (fun a' U hW => word_at hW (Or.inl (by first | rfl | simp [Cond.onTables, Cond.keeps, Cond.steady])) hini)
  obtain ⟨hx, hb, hml, ho, -⟩ := S
  intro T hT X
  obtain ⟨mk, methM, cM, hnamed, hmethM, -, -, -, -, -, -, hsigM⟩ := Cond.codeWith_spec hcode
  have hstatic : methM.isStatic = true := Cond.static_spec hnamed hmethM hstt
  obtain ⟨kP, hkP, -⟩ := className_of_methodNamed hnamed
  have hinitP : kP.init = .initialized := Cond.initialized_spec (findClass_of_methodNamed hnamed) hkP hini
  have hlen : As.length = methM.sig.parameters.length := by
    have h2 := hd.2.2
    rw [hsigM] at h2
    rw [hn]
    exact (Option.some.inj h2).symm
  obtain ⟨vm₁, X₁, hstep₁⟩ := X.invokestatic hx ho hl hnamed hmethM hstatic hkP hinitP ⟨hd.1, hd.2.1⟩ (g := g) hg (argsL := As) (rest := rest) hlen hstack (by rw [hb]; exact hdg)
  obtain ⟨v, ⟨U', l2, c2, s2⟩, X', ⟨g', mk', t, L, e1, e2, hq, h1, hL, h2, h3⟩, hsteps⟩ := hK m meth c ⟨T.setVm vm₁, locs, cells, slots⟩ { g with stack := rest } (.invokestatic index) mk As.toArray X₁ hg (hsize.trans hml.symm) (by rw [hb]; exact hdg) hW (X₁.named hnamed) ⟨hf.1, hf.2, hp.2 (T.setVm vm₁) hT X₁.warmed⟩
  dsimp only [Pt.U, Pt.locs, Pt.cells, Pt.slots] at X' e1 e2 h1 h2 h3 hsteps
  subst h1; subst h2; subst h3
  exact ⟨v, (T.setVm vm₁).calling g' mk' As.toArray, t, U', L, hT, X', hL, e1, e2, hq, fun target h => hstep₁ _ fun acts => by rw [doInvoke_state]; exact hsteps.trans h⟩
end ZT5
theorem zk_tab {c : Code} {hs : List (Nat × Nat × Nat × Nat)} (h : c.exceptionTable.toList.map (fun h => (h.startPc, h.endPc, h.handlerPc, h.catchType)) = hs) : c.exceptionTable.toList = hs.map (fun q => { startPc := q.1, endPc := q.2.1, handlerPc := q.2.2.1, catchType := q.2.2.2 }) := by
  rw [← h, List.map_map]
  exact (List.map_id _).symm
section ZT6
variable {D : va_G} {ws : va_W} {H H' : Heap} {cI cW : ClassId} {S0 s : State}
theorem zt_ns {q : Nat} {cell : Cell} (hP : va_P D kcl ws H) (hq : zz_F ws q) (hc : H[q]? = some cell) : cell.vm.isStatics = false := by
  obtain ⟨k, e, hk⟩ := hq
  have h := hP k _ hk
  cases e with
  | inl x =>
    have h1 : H[q]? = some (vp_cell x.1 x.2) := h
    rw [hc] at h1
    cases h1
    obtain ⟨cA, n, f⟩ := x
    rcases f with f | f | f | f | f <;> rfl
  | inr o =>
    obtain ⟨r, h1, c2, g1, g2, g3, -⟩ := h
    have g1 : H[q]? = some c2 := g1
    rw [hc] at g1
    cases g1
    rw [g3]
    rfl
theorem zt_keep (hP : va_P D kcl ws H) (hk : ∀ q : Nat, q < H.size → H'[q]? = H[q]?) : va_P D kcl ws H' := fun k q hq => (hP k q hq).kept (hk q.1 (hP k q hq).lt)
def zt_Pz (S0 : State) (P : State → Prop) : State → Prop := fun U => P U ∧ zt_P S0 U
theorem zt_blind {av : List Value} {Pic : Heap → Prop} : FrameBlind (va_Pc av (zt_Pz S0 (zz_P D cI cW Pic))) := fun a U g mk q => ⟨q.1, ⟨q.2.1.1, va_K.moved (u := U) (U := U.calling g mk a) (Vm.Alike.refl U.vm) q.2.1.2⟩, q.2.2⟩
theorem zt_move (hz : zt_P S0 s) (hH : ∀ (q : Nat) (c : Cell), S0.heap[q]? = some c → H[q]? = some c) {U : State} (hU : U.heap = H) (hW : s.WarmedH U.vm) : zt_P S0 U := ⟨State.WarmedH.trans hz.1 hW, fun q c h => by rw [hU]; exact hH q c h⟩
theorem zt_pre {av : List Value} {Pic : Heap → Prop} (hK : zz_K D cI cW s) (hz : zt_P S0 s) (hH : ∀ (q : Nat) (c : Cell), S0.heap[q]? = some c → H[q]? = some c) (hPic : Pic H) : ∀ U : State, U.heap = H → s.WarmedH U.vm → va_Pc av (zt_Pz S0 (zz_P D cI cW Pic)) av.toArray U := fun U hU hW => ⟨rfl, ⟨by rw [hU]; exact hPic, va_K.moved hW.alike hK⟩, zt_move hz hH hU hW⟩
end ZT6
def zt_nms : List String := ["java/lang/RuntimeException", "java/lang/Exception"]
theorem zt_fits : ∀ n ∈ zt_nms, Bundle.fit n = true := by decide +kernel
theorem zt_fit1 : Bundle.fit "java/lang/IllegalArgumentException" = true := by decide +kernel
theorem zt_fit2 : Bundle.fit "java/lang/IllegalStateException" = true := by decide +kernel
theorem zt_fit3 : Bundle.fit "java/lang/IndexOutOfBoundsException" = true := by decide +kernel
