/-! One form for all contracts: the start says a picture of the heap (Pic) and what the tables say (zz_K); the end of a method that only reads (zz_Qp) says its answer and that the heap is as it was; the end of one that writes (zz_Qw) says its answer and the new picture, by a name u for what it settles, and that nothing outside A has changed. -/
abbrev zz_K (D : va_G) (cI cW : ClassId) (U : State) : Prop := va_K D kcl [(cI, .int), (cW, .object kn_W)] U
def zz_P (D : va_G) (cI cW : ClassId) (Pic : Heap → Prop) : State → Prop := fun U => Pic U.heap ∧ zz_K D cI cW U
def zz_Qp (v : Value) : Array Value → State → Outcome → State → Prop := fun _ st oc t => oc = .returned (some v) ∧ t.heap = st.heap
def zz_Qw {S : Type} (val : S → Option Value) (Pic : S → Heap → Prop) (A : Nat → Prop) : Array Value → State → Outcome → State → Prop := fun _ st oc t => (∃ u : S, oc = .returned (val u) ∧ Pic u t.heap) ∧ va_F A st t
/-- the places of a world -/
def zz_F (ws : va_W) : Nat → Prop := fun q => ∃ (k : Nat) (e : va_E), ws[k]? = some (q, e)
/-- no place stands twice -/
def zz_N (L : List Nat) : Prop := ∀ (i j a : Nat), L[i]? = some a → L[j]? = some a → i = j
theorem zz_N.sub {L L' : List Nat} (h : zz_N L) (is : List Nat) (hn : va_nd is = true) (hs : is.map (fun i => L[i]?) = L'.map some) : zz_N L' := by
  have key : ∀ (k a : Nat), L'[k]? = some a → ∃ i, is[k]? = some i ∧ L[i]? = some a := by
    intro k a hk
    have h1 : (is.map (fun i => L[i]?))[k]? = some (some a) := by rw [hs, List.getElem?_map, hk]; rfl
    rw [List.getElem?_map] at h1
    cases hi : is[k]? with
    | none => rw [hi] at h1; cases h1
    | some i => rw [hi] at h1; exact ⟨i, rfl, Option.some.inj h1⟩
  intro i j a hi hj
  obtain ⟨x, h1, h2⟩ := key i a hi
  obtain ⟨y, h3, h4⟩ := key j a hj
  have hxy := h x y a h2 h4
  subst hxy
  exact va_nd_inj is hn i j x h1 h3
theorem zz_Dof {ws : va_W} {L : List Nat} (hN : zz_N L) (hL : ws.map (fun q => q.1) = L) : va_D (zz_F ws) ws := by
  subst hL
  have key : ∀ (k : Nat) (q : Nat × va_E), ws[k]? = some q → (ws.map (fun q => q.1))[k]? = some q.1 := by
    intro k q hk
    rw [List.getElem?_map, hk]
    rfl
  exact ⟨fun i j x y hi hj hxy => hN i j x.1 (key i x hi) (by rw [hxy]; exact key j y hj), fun k q hk => ⟨k, q.2, hk⟩⟩
/-- what a call left, put back at its places -/
def zz_sets : va_W → List Nat → va_W → va_W
  | ws, i :: is, q :: qs => zz_sets (ws.set i q) is qs
  | ws, _, _ => ws
theorem zz_sets_at : ∀ (cs : List Nat) (w1 ws : va_W), cs.length = w1.length → ∀ (k : Nat) (q : Nat × va_E), (zz_sets ws cs w1)[k]? = some q → (∃ j : Nat, cs[j]? = some k ∧ w1[j]? = some q) ∨ (k ∉ cs ∧ ws[k]? = some q)
  | [], w1, ws, _, k, q, h => by
    refine Or.inr ⟨List.not_mem_nil, ?_⟩
    cases w1 <;> exact h
  | i :: is, [], ws, hl, k, q, h => by cases hl
  | i :: is, q0 :: qs, ws, hl, k, q, h => by
    have hl' : is.length = qs.length := Nat.succ.inj hl
    rcases zz_sets_at is qs (ws.set i q0) hl' k q h with ⟨j, h1, h2⟩ | ⟨h1, h2⟩
    · exact Or.inl ⟨j + 1, by rw [List.getElem?_cons_succ]; exact h1, by rw [List.getElem?_cons_succ]; exact h2⟩
    · by_cases hik : k = i
      · subst hik
        have hlt : k < (ws.set k q0).length := (List.getElem?_eq_some_iff.mp h2).1
        rw [List.length_set] at hlt
        rw [List.getElem?_set_self hlt] at h2
        cases h2
        exact Or.inl ⟨0, rfl, rfl⟩
      · rw [List.getElem?_set_ne (Ne.symm hik)] at h2
        refine Or.inr ⟨fun hm => ?_, h2⟩
        rcases List.mem_cons.mp hm with e | e
        · exact hik e
        · exact h1 e
theorem zz_pick {ws wc : va_W} {cs : List Nat} (hC : cs.map (fun i => ws[i]?) = wc.map some) (k : Nat) (q : Nat × va_E) (hq : wc[k]? = some q) : ∃ i, cs[k]? = some i ∧ ws[i]? = some q := by
  have h1 : (cs.map (fun i => ws[i]?))[k]? = some (some q) := by rw [hC, List.getElem?_map, hq]; rfl
  rw [List.getElem?_map] at h1
  cases hi : cs[k]? with
  | none => rw [hi] at h1; cases h1
  | some i => rw [hi] at h1; exact ⟨i, rfl, Option.some.inj h1⟩
theorem zz_back {A0 : Nat → Prop} {D : va_G} {ws wc w1 : va_W} {H H1 : Heap} (hP : va_P D kcl ws H) (hD : va_D A0 ws) (cs : List Nat) (hC : cs.map (fun i => ws[i]?) = wc.map some) (hf : w1.map (fun q => q.1) = wc.map (fun q => q.1))
    (hk : ∀ q : Nat, q < H.size → ¬ zz_F wc q → H1[q]? = H[q]?) (hP1 : va_P D kcl w1 H1) : va_P D kcl (zz_sets ws cs w1) H1 ∧ va_D A0 (zz_sets ws cs w1) := by
  have hlen : cs.length = w1.length := by
    have h1 := congrArg List.length hC
    have h2 := congrArg List.length hf
    simp only [List.length_map] at h1 h2
    omega
  have old : ∀ (k : Nat) (q : Nat × va_E), (zz_sets ws cs w1)[k]? = some q → ∃ q0 : Nat × va_E, ws[k]? = some q0 ∧ q0.1 = q.1 := by
    intro k q h
    rcases zz_sets_at cs w1 ws hlen k q h with ⟨j, h1, h2⟩ | ⟨-, h2⟩
    · have h3 : (w1.map (fun q => q.1))[j]? = some q.1 := by rw [List.getElem?_map, h2]; rfl
      rw [hf, List.getElem?_map] at h3
      cases h4 : wc[j]? with
      | none => rw [h4] at h3; cases h3
      | some q0 =>
        rw [h4] at h3
        obtain ⟨i, h5, h6⟩ := zz_pick hC j q0 h4
        rw [h1] at h5
        cases h5
        exact ⟨q0, h6, Option.some.inj h3⟩
    · exact ⟨q, h2, rfl⟩
  refine ⟨fun k q h => ?_, fun i j x y hi hj hxy => ?_, fun k q h => ?_⟩
  · rcases zz_sets_at cs w1 ws hlen k q h with ⟨j, h1, h2⟩ | ⟨h1, h2⟩
    · exact hP1 j q h2
    · refine (hP k q h2).kept (hk q.1 (hP k q h2).lt ?_)
      intro hF
      obtain ⟨j, e, h3⟩ := hF
      obtain ⟨i, h4, h5⟩ := zz_pick hC j (q.1, e) h3
      have hik := hD.1 k i q (q.1, e) h2 h5 rfl
      subst hik
      exact h1 (List.mem_of_getElem? h4)
  · obtain ⟨x0, h1, h2⟩ := old i x hi
    obtain ⟨y0, h3, h4⟩ := old j y hj
    exact hD.1 i j x0 y0 h1 h3 (h2.trans (hxy.trans h4.symm))
  · obtain ⟨q0, h1, h2⟩ := old k q h
    rw [← h2]
    exact hD.2 k q0 h1
theorem zz_Fin {A0 : Nat → Prop} {ws wc : va_W} (hD : va_D A0 ws) (cs : List Nat) (hC : cs.map (fun i => ws[i]?) = wc.map some) : ∀ q, zz_F wc q → A0 q := by
  intro q h
  obtain ⟨k, e, h⟩ := h
  obtain ⟨i, -, h2⟩ := zz_pick hC k (q, e) h
  exact hD.2 i (q, e) h2
theorem zz_t {b : Bool} (h : b = true) : (1 : Int) = zz_b b := by subst h; rfl
theorem zz_f {b : Bool} (h : b = false) : (0 : Int) = zz_b b := by subst h; rfl
-- words
theorem zz_good {X : List Cond} (h : ∀ w ∈ X, w ∈ zz_tbl) : GoodIn zz_tbl X := fun w hw => ⟨h w hw, good_of_word (List.mem_filter.mp (h w hw)).2⟩
theorem zz_gV {own C : String} {idx : Nat} {y : MethodName} {bytes : ByteArray} {maxL : Nat} {ret : Option FieldType} (h1 : Cond.methodLink own idx y ∈ zz_tbl) (h2 : Cond.instanceMethod y ∈ zz_tbl) (h3 : Cond.selects C y y ∈ zz_tbl) (h4 : Cond.initialized C ∈ zz_tbl) (h5 : Cond.code y bytes maxL ret ∈ zz_tbl) : GoodIn zz_tbl (wsV own idx C y (Cond.code y bytes maxL ret :: zz_tbl)) := by
  refine zz_good fun w hw => ?_
  simp only [wsV, List.cons_append, List.nil_append, List.mem_cons] at hw
  rcases hw with rfl | rfl | rfl | rfl | rfl | hw
  · exact h1
  · exact h2
  · exact h3
  · exact h4
  · exact h5
  · exact hw
theorem zz_gS {own : String} {idx : Nat} {y : MethodName} {bytes : ByteArray} {maxL : Nat} {ret : Option FieldType} (h1 : Cond.methodLink own idx y ∈ zz_tbl) (h2 : Cond.static y ∈ zz_tbl) (h4 : Cond.initialized y.cls ∈ zz_tbl) (h5 : Cond.code y bytes maxL ret ∈ zz_tbl) : GoodIn zz_tbl (va_wsS own idx y (Cond.code y bytes maxL ret :: zz_tbl)) := by
  refine zz_good fun w hw => ?_
  simp only [va_wsS, List.cons_append, List.nil_append, List.mem_cons] at hw
  rcases hw with rfl | rfl | rfl | rfl | hw
  · exact h1
  · exact h2
  · exact h4
  · exact h5
  · exact hw
theorem zz_blind {av : List Value} {D : va_G} {cI cW : ClassId} {Pic : Heap → Prop} : FrameBlind (va_Pc av (zz_P D cI cW Pic)) := fun a U g mk q => ⟨q.1, q.2.1, va_K.moved (u := U) (U := U.calling g mk a) (Vm.Alike.refl U.vm) q.2.2⟩
theorem zz_pre {s : State} {H : Heap} {av : List Value} {D : va_G} {cI cW : ClassId} {Pic : Heap → Prop} (hK : zz_K D cI cW s) (hPic : Pic H) : PreS s H (va_Pc av (zz_P D cI cW Pic)) av := ⟨zz_blind, fun U hU hW => ⟨rfl, by rw [hU]; exact hPic, va_K.moved hW.alike hK⟩⟩
section ZC
variable {p : Program} {l : Launch} {e : Env} {R : Room} {s : State} {m : MethodId} {args : Array Value} {below : List Frame} {meth : Method} {c : Code} {H : Heap} {locs : List Loc} {cells slots : Nat} {Q : State → Prop}
variable {cc : ByteArray} {pc : Nat} {ls : Array Slot} {rest st0 : List Value} {D : va_G} {cI cW : ClassId} {a : Array Value} {A0 A1 : Nat → Prop} {H0 : Heap}
variable {y : MethodName} {bytes : ByteArray} {maxL nL index n : Nat} {ret : Option FieldType} {rm : Room} {Pic : Heap → Prop} {own C : String} {b : Nat} {As : List Value}
theorem zz_callP {v : Value} (hr : CallRun p l e R s m args below meth c H locs cells slots 0 0 (F0 m pc ls st0) rest (zz_Qp v a) (fun _ => False)) (kk : W p l e R s m args below meth c H locs cells slots Q (F0 m (pc + 3) ls (v :: rest))) : W p l e R s m args below meth c H locs cells slots Q (F0 m pc ls st0) := by
  intro T hT X
  obtain ⟨v', st₀, t, T', L, h0, X', hL, e1, ⟨hv, hh⟩, st⟩ := hr T hT X
  cases hv
  obtain ⟨t2, a1, b1⟩ := kk T' (by rw [e1, hh, h0]) (Stand.forget X' (fun q h => (hL q h).elim))
  exact ⟨t2, st t2 a1, b1⟩
/-- a call of an instance method that only reads -/
theorem zz_pV {v : Value} (Sf : CallFix p m c cc nL s args zz_tbl own) (hK : zz_K D cI cW s) (hM : Met l y (Cond.code y bytes maxL ret :: zz_tbl) rm (va_Pc (.ref b :: As) (zz_P D cI cW Pic)) (zz_Qp v) 0 0 (fun _ => False)) (hg : GoodIn zz_tbl (wsV own index C y (Cond.code y bytes maxL ret :: zz_tbl))) (hrm : rm.cells = 0 ∧ rm.slots = 0)
    (hd : y.cls = C ∧ y.cls ≠ "java/lang/invoke/MethodHandle" ∧ y.cls ≠ "java/lang/invoke/VarHandle" ∧ (parseMethodDescriptor y.desc).map (fun d => d.parameters.length) = some n) (hR : rm.frames + 1 ≤ R.frames ∧ 8 + (maxL + 11) + rm.locals ≤ R.locals)
    (hrv : ∃ cell : Cell, H[b]? = some cell ∧ cell.vm.isStatics = false ∧ s.vm.findClass C = some cell.cls) (hPic : Pic H) (hn : As.length = n) (hsz : ls.size = nL) (hst : st0 = As.reverse ++ .ref b :: rest) (hcat : (rest.map fun v => v.category).sum ≤ 8) (hdg : decode cc pc = .ok (.invokevirtual index, 3)) (hf : cells ≤ R.cells ∧ slots ≤ R.slots)
    (kk : W p l e R s m args below meth c H locs cells slots Q (F0 m (pc + 3) ls (v :: rest))) : W p l e R s m args below meth c H locs cells slots Q (F0 m pc ls st0) :=
  zz_callP (W.runV Sf hM (cwV n Sf.2.2.2.2 hg rfl hrm.1 hrm.2 hd hR) ⟨zz_blind, hrv, (zz_pre hK hPic).2⟩ rfl hn hsz hst (show 2 * 0 + _ ≤ 8 by omega) hdg hf) kk
/-- a call of a static method that only reads -/
theorem zz_pS {v : Value} (Sf : CallFix p m c cc nL s args zz_tbl own) (hK : zz_K D cI cW s) (hM : Met l y (Cond.code y bytes maxL ret :: zz_tbl) rm (va_Pc As (zz_P D cI cW Pic)) (zz_Qp v) 0 0 (fun _ => False)) (hg : GoodIn zz_tbl (va_wsS own index y (Cond.code y bytes maxL ret :: zz_tbl))) (hrm : rm.cells = 0 ∧ rm.slots = 0)
    (hd : y.cls ≠ "java/lang/invoke/MethodHandle" ∧ y.cls ≠ "java/lang/invoke/VarHandle" ∧ (parseMethodDescriptor y.desc).map (fun d => d.parameters.length) = some n) (hR : rm.frames + 1 ≤ R.frames ∧ 8 + (maxL + 11) + rm.locals ≤ R.locals)
    (hPic : Pic H) (hn : As.length = n) (hsz : ls.size = nL) (hst : st0 = As.reverse ++ rest) (hcat : (rest.map fun v => v.category).sum ≤ 8) (hdg : decode cc pc = .ok (.invokestatic index, 3)) (hf : cells ≤ R.cells ∧ slots ≤ R.slots)
    (kk : W p l e R s m args below meth c H locs cells slots Q (F0 m (pc + 3) ls (v :: rest))) : W p l e R s m args below meth c H locs cells slots Q (F0 m pc ls st0) :=
  zz_callP (W.runS Sf hM (va_cwS n Sf.2.2.2.2 hg rfl hrm.1 hrm.2 hd hR) (zz_pre hK hPic) rfl hn hsz hst (show 2 * 0 + _ ≤ 8 by omega) hdg hf) kk
/-- behind a call of a method that writes -/
theorem zz_callW {S : Type} {val : S → Option Value} {Pw : S → Heap → Prop} {mc ms : Nat} (hr : va_Run p l e R s m args below meth c H locs cells slots mc ms (F0 m pc ls st0) rest (zz_Qw val Pw A1 a) A1) (hS : va_S A0 H0 H locs) (hA : ∀ q, A1 q → A0 q)
    (kk : ∀ (u : S) (H1 : Heap) (locs1 : List Loc), Pw u H1 → H.size ≤ H1.size → (∀ q : Nat, q < H.size → ¬ A1 q → H1[q]? = H[q]?) → va_S A0 H0 H1 locs1 → W p l e R s m args below meth c H1 locs1 (cells + mc) (slots + ms) Q (F0 m (pc + 3) ls ((val u).toList ++ rest))) : W p l e R s m args below meth c H locs cells slots Q (F0 m pc ls st0) := by
  intro T hT X
  obtain ⟨v, st₀, t, T', L, h0, X', hL, e1, e2, ⟨⟨u, hv, hp⟩, hz, hk⟩, st⟩ := hr T hT X
  cases hv
  rw [h0] at hz hk
  obtain ⟨t2, a1, b1⟩ := kk u T'.heap (locs ++ L) (by rw [e1]; exact hp) (by rw [e1]; exact hz) (fun q h1 h2 => by rw [e1]; exact hk q h1 h2)
    ⟨Nat.le_trans hS.1 (by rw [e1]; exact hz), fun q h1 h2 => by rw [e1, hk q (Nat.lt_of_lt_of_le h1 hS.1) (fun z => h2 (hA q z))]; exact hS.2.1 q h1 h2, fun q hq => by
      rcases List.mem_append.mp hq with h | h
      · exact hS.2.2 q h
      · exact hA _ (hL q h)⟩ T' rfl X'
  exact ⟨t2, st t2 a1, b1⟩
/-- a call of an instance method that writes the cells wc, which stand at the places cs of ours -/
theorem zz_wV {S : Type} {val : S → Option Value} {post : S → Prop} {after : S → va_W} {ws wc : va_W} (Sf : CallFix p m c cc nL s args zz_tbl own) (hK : zz_K D cI cW s) (hM : Met l y (Cond.code y bytes maxL ret :: zz_tbl) rm (va_Pc (.ref b :: As) (zz_P D cI cW (va_P D kcl wc))) (zz_Qw val (fun u H => post u ∧ va_P D kcl (after u) H) (zz_F wc)) 0 0 (zz_F wc)) (hg : GoodIn zz_tbl (wsV own index C y (Cond.code y bytes maxL ret :: zz_tbl))) (hrm : rm.cells = 0 ∧ rm.slots = 0)
    (hd : y.cls = C ∧ y.cls ≠ "java/lang/invoke/MethodHandle" ∧ y.cls ≠ "java/lang/invoke/VarHandle" ∧ (parseMethodDescriptor y.desc).map (fun d => d.parameters.length) = some n) (hR : rm.frames + 1 ≤ R.frames ∧ 8 + (maxL + 11) + rm.locals ≤ R.locals)
    (hrv : ∃ cell : Cell, H[b]? = some cell ∧ cell.vm.isStatics = false ∧ s.vm.findClass C = some cell.cls) (hP : va_P D kcl ws H) (hD : va_D A0 ws) (hS : va_S A0 H0 H locs) (cs : List Nat) (hC : cs.map (fun i => ws[i]?) = wc.map some) (hC2 : cs.filterMap (fun i => ws[i]?) = wc) (haf : ∀ u, (after u).map (fun q => q.1) = wc.map (fun q => q.1))
    (hn : As.length = n) (hsz : ls.size = nL) (hst : st0 = As.reverse ++ .ref b :: rest) (hcat : (rest.map fun v => v.category).sum ≤ 8) (hdg : decode cc pc = .ok (.invokevirtual index, 3)) (hf : cells ≤ R.cells ∧ slots ≤ R.slots)
    (kk : ∀ (u : S) (H : Heap) (locs : List Loc), post u → va_P D kcl (zz_sets ws cs (after u)) H → va_D A0 (zz_sets ws cs (after u)) → va_S A0 H0 H locs → W p l e R s m args below meth c H locs cells slots Q (F0 m (pc + 3) ls ((val u).toList ++ rest))) : W p l e R s m args below meth c H locs cells slots Q (F0 m pc ls st0) := by
  refine zz_callW (va_runV Sf hM (cwV n Sf.2.2.2.2 hg rfl hrm.1 hrm.2 hd hR) ⟨zz_blind, hrv, (zz_pre hK (hP.sub cs hC2)).2⟩ rfl hn hsz hst (show 2 * 0 + _ ≤ 8 by omega) hdg hf) hS (zz_Fin hD cs hC) fun u H1 locs1 hp _ hk hS1 => ?_
  obtain ⟨hP1, hD1⟩ := zz_back hP hD cs hC (haf u) hk hp.2
  exact kk u H1 locs1 hp.1 hP1 hD1 hS1
/-- a call of a static method that writes -/
theorem zz_wS {S : Type} {val : S → Option Value} {post : S → Prop} {after : S → va_W} {ws wc : va_W} (Sf : CallFix p m c cc nL s args zz_tbl own) (hK : zz_K D cI cW s) (hM : Met l y (Cond.code y bytes maxL ret :: zz_tbl) rm (va_Pc As (zz_P D cI cW (va_P D kcl wc))) (zz_Qw val (fun u H => post u ∧ va_P D kcl (after u) H) (zz_F wc)) 0 0 (zz_F wc)) (hg : GoodIn zz_tbl (va_wsS own index y (Cond.code y bytes maxL ret :: zz_tbl))) (hrm : rm.cells = 0 ∧ rm.slots = 0)
    (hd : y.cls ≠ "java/lang/invoke/MethodHandle" ∧ y.cls ≠ "java/lang/invoke/VarHandle" ∧ (parseMethodDescriptor y.desc).map (fun d => d.parameters.length) = some n) (hR : rm.frames + 1 ≤ R.frames ∧ 8 + (maxL + 11) + rm.locals ≤ R.locals)
    (hP : va_P D kcl ws H) (hD : va_D A0 ws) (hS : va_S A0 H0 H locs) (cs : List Nat) (hC : cs.map (fun i => ws[i]?) = wc.map some) (hC2 : cs.filterMap (fun i => ws[i]?) = wc) (haf : ∀ u, (after u).map (fun q => q.1) = wc.map (fun q => q.1))
    (hn : As.length = n) (hsz : ls.size = nL) (hst : st0 = As.reverse ++ rest) (hcat : (rest.map fun v => v.category).sum ≤ 8) (hdg : decode cc pc = .ok (.invokestatic index, 3)) (hf : cells ≤ R.cells ∧ slots ≤ R.slots)
    (kk : ∀ (u : S) (H : Heap) (locs : List Loc), post u → va_P D kcl (zz_sets ws cs (after u)) H → va_D A0 (zz_sets ws cs (after u)) → va_S A0 H0 H locs → W p l e R s m args below meth c H locs cells slots Q (F0 m (pc + 3) ls ((val u).toList ++ rest))) : W p l e R s m args below meth c H locs cells slots Q (F0 m pc ls st0) := by
  refine zz_callW (va_runS Sf hM (va_cwS n Sf.2.2.2.2 hg rfl hrm.1 hrm.2 hd hR) (zz_pre hK (hP.sub cs hC2)) rfl hn hsz hst (show 2 * 0 + _ ≤ 8 by omega) hdg hf) hS (zz_Fin hD cs hC) fun u H1 locs1 hp _ hk hS1 => ?_
  obtain ⟨hP1, hD1⟩ := zz_back hP hD cs hC (haf u) hk hp.2
  exact kk u H1 locs1 hp.1 hP1 hD1 hS1
-- ends
theorem zz_endp {w z : Int} (h : w = z) : ∀ t : State, t.heap = s.heap → s.WarmedH t.vm → zz_Qp (.int (zz_I z)) args s (.returned (some (.int (zz_I w)))) t := fun t ht _ => by subst h; exact ⟨rfl, ht⟩
theorem zz_endr {w z : Value} (h : w = z) : ∀ t : State, t.heap = s.heap → s.WarmedH t.vm → zz_Qp z args s (.returned (some w)) t := fun t ht _ => by subst h; exact ⟨rfl, ht⟩
theorem zz_endw {S : Type} {val : S → Option Value} {Pw : S → Heap → Prop} {A : Nat → Prop} (u : S) {v : Option Value} (hv : v = val u) (hP : Pw u H) (hS : va_S A s.heap H locs) : ∀ t : State, t.heap = H → s.WarmedH t.vm → zz_Qw val Pw A args s (.returned v) t := fun t ht _ => ⟨⟨u, by rw [hv], by rw [ht]; exact hP⟩, hS.F ht⟩
-- more rows
theorem zz_alen {tys : List (ClassId × FieldType)} {ws : va_W} (hexec : p.tables.exec = Jvm.exec) (hb : c.code = cc) (hK : va_K D kcl tys s) (hP : va_P D kcl ws H) (q0 t0 : Nat) {ad : Nat} {cA : ClassId} {x : vp_A} (ha : ws[q0]? = some (ad, .inl (cA, x))) {ty : FieldType} (ht : tys[t0]? = some (cA, ty)) (hdg : decode cc pc = .ok (.arraylength, 1))
    (kk : W p l e R s m args below meth c H locs cells slots Q (F0 m (pc + 1) ls (.int (zz_I (x.1 : Nat)) :: rest))) : W p l e R s m args below meth c H locs cells slots Q (F0 m pc ls (.ref ad :: rest)) :=
  va_alen hexec hb hK hP q0 t0 ha ht (v := zz_I (x.1 : Nat)) (zz_nI x.1).symm hdg kk
theorem zz_lookup (hexec : p.tables.exec = Jvm.exec) (hb : c.code = cc) {dflt : Int} {ps : Array (Int × Int)} {len : Nat} {x : Int} {off : Int} {tgt : Nat} (hdg : decode cc pc = .ok (.lookupswitch dflt ps, len)) (hp : (ps.toList.zip (ps.toList.drop 1)).all (fun (a, next) => a.1 < next.1) = true) (hx : -2147483648 ≤ x ∧ x ≤ 2147483647) (ho : Op.lookupswitch.offset ps.toList dflt x = off) (ht : (pc : Int) + off = (tgt : Int))
    (k : W p l e R s m args below meth c H locs cells slots Q (F0 m tgt ls rest)) : W p l e R s m args below meth c H locs cells slots Q (F0 m pc ls (.int (zz_I x) :: rest)) :=
  lv_lookup hexec hb hdg hp (by rw [zz_T hx]; exact ho) ht k
theorem zz_osw {x a o d : Int} {r : List (Int × Int)} (h : ¬ x = a) : Op.lookupswitch.offset ((a, o) :: r) d x = Op.lookupswitch.offset r d x := by
  rw [Op.lookupswitch.offset_cons, if_neg (fun q => h q.symm)]
theorem zz_osh {x a o d : Int} {r : List (Int × Int)} (h : x = a) : Op.lookupswitch.offset ((a, o) :: r) d x = o := by
  rw [Op.lookupswitch.offset_cons, if_pos h.symm]
end ZC
theorem zz_nb (b : Bool) : narrow .boolean (.int (zz_I (zz_b b))) = .int (zz_I (zz_b b)) := by cases b <;> decide
theorem zz_and (x y : Nat) : zz_I (x : Nat) &&& zz_I (y : Nat) = zz_I ((x &&& y : Nat) : Int) := by
  rw [zz_nI, zz_nI, zz_nI]
  apply Int32.toBitVec_inj.mp
  unfold nI
  rw [Int32.toBitVec_and, Int32.toBitVec_ofNat', Int32.toBitVec_ofNat', Int32.toBitVec_ofNat', BitVec.ofNat_and]
theorem zz_or (x y : Nat) : zz_I (x : Nat) ||| zz_I (y : Nat) = zz_I ((x ||| y : Nat) : Int) := by
  rw [zz_nI, zz_nI, zz_nI]
  apply Int32.toBitVec_inj.mp
  unfold nI
  rw [Int32.toBitVec_or, Int32.toBitVec_ofNat', Int32.toBitVec_ofNat', Int32.toBitVec_ofNat', BitVec.ofNat_or]
section ZD
variable {p : Program} {l : Launch} {e : Env} {R : Room} {s : State} {m : MethodId} {args : Array Value} {below : List Frame} {meth : Method} {c : Code} {H : Heap} {locs : List Loc} {cells slots : Nat} {Q : State → Prop}
variable {cc : ByteArray} {pc : Nat} {ls : Array Slot} {rest : List Value}
theorem zz_iand (hexec : p.tables.exec = Jvm.exec) (hb : c.code = cc) {x y : Nat} {v : Int} (hv : ((x &&& y : Nat) : Int) = v) (hdg : decode cc pc = .ok (.iand, 1))
    (k : W p l e R s m args below meth c H locs cells slots Q (F0 m (pc + 1) ls (.int (zz_I v) :: rest))) : W p l e R s m args below meth c H locs cells slots Q (F0 m pc ls (.int (zz_I (y : Nat)) :: .int (zz_I (x : Nat)) :: rest)) :=
  lv_iand hexec hb hdg (by rw [zz_and, hv]; exact k)
theorem zz_ior (hexec : p.tables.exec = Jvm.exec) (hb : c.code = cc) {x y : Nat} {v : Int} (hv : ((x ||| y : Nat) : Int) = v) (hdg : decode cc pc = .ok (.ior, 1))
    (k : W p l e R s m args below meth c H locs cells slots Q (F0 m (pc + 1) ls (.int (zz_I v) :: rest))) : W p l e R s m args below meth c H locs cells slots Q (F0 m pc ls (.int (zz_I (y : Nat)) :: .int (zz_I (x : Nat)) :: rest)) :=
  lv_ior hexec hb hdg (by rw [zz_or, hv]; exact k)
theorem zz_mmax (hexec : p.tables.exec = Jvm.exec) (hb : c.code = cc) (hml : c.maxLocals = ls.size) {own : String} {index : Nat} (hown : s.vm.findClass own = some m.cls) (hlink : (Cond.methodLink own index Lib.Math.max.name).before args s = true) (hstat : (Cond.static Lib.Math.max.name).before args s = true) (hini : (Cond.initialized "java/lang/Math").before args s = true) (hcode : (Cond.code Lib.Math.max.name Lib.Math.max.code 2 (some .int)).before args s = true)
    (hframes : 1 ≤ R.frames) (hlocals : (rest.map fun v => v.category).sum + 13 ≤ R.locals) (hf : cells ≤ R.cells ∧ slots ≤ R.slots) {x y v : Int} (hv : max x y = v) (hr : -2147483648 ≤ x ∧ x ≤ 2147483647 ∧ -2147483648 ≤ y ∧ y ≤ 2147483647) (hdg : decode cc pc = .ok (.invokestatic index, 3))
    (kk : W p l e R s m args below meth c H locs cells slots Q (F0 m (pc + 3) ls (.int (zz_I v) :: rest))) : W p l e R s m args below meth c H locs cells slots Q (F0 m pc ls (.int (zz_I y) :: .int (zz_I x) :: rest)) := by
  refine va_mmax hexec hb hml hown hlink hstat hini hcode hframes hlocals hf.1 hf.2 hdg ?_
  have h : (if zz_I x < zz_I y then zz_I y else zz_I x) = zz_I (max x y) := by
    by_cases q : x < y
    · rw [if_pos ((zz_lt hr).mpr q), Int.max_eq_right (by omega)]
    · rw [if_neg (fun z => q ((zz_lt hr).mp z)), Int.max_eq_left (by omega)]
  rw [h, hv]
  exact kk
theorem zz_mmin (hexec : p.tables.exec = Jvm.exec) (hb : c.code = cc) (hml : c.maxLocals = ls.size) {own : String} {index : Nat} (hown : s.vm.findClass own = some m.cls) (hlink : (Cond.methodLink own index Lib.Math.min.name).before args s = true) (hstat : (Cond.static Lib.Math.min.name).before args s = true) (hini : (Cond.initialized "java/lang/Math").before args s = true) (hcode : (Cond.code Lib.Math.min.name Lib.Math.min.code 2 (some .int)).before args s = true)
    (hframes : 1 ≤ R.frames) (hlocals : (rest.map fun v => v.category).sum + 13 ≤ R.locals) (hf : cells ≤ R.cells ∧ slots ≤ R.slots) {x y v : Int} (hv : min x y = v) (hr : -2147483648 ≤ x ∧ x ≤ 2147483647 ∧ -2147483648 ≤ y ∧ y ≤ 2147483647) (hdg : decode cc pc = .ok (.invokestatic index, 3))
    (kk : W p l e R s m args below meth c H locs cells slots Q (F0 m (pc + 3) ls (.int (zz_I v) :: rest))) : W p l e R s m args below meth c H locs cells slots Q (F0 m pc ls (.int (zz_I y) :: .int (zz_I x) :: rest)) := by
  refine va_mmin hexec hb hml hown hlink hstat hini hcode hframes hlocals hf.1 hf.2 hdg ?_
  have hr2 : -2147483648 ≤ y ∧ y ≤ 2147483647 ∧ -2147483648 ≤ x ∧ x ≤ 2147483647 := by omega
  have h : (if zz_I y < zz_I x then zz_I y else zz_I x) = zz_I (min x y) := by
    by_cases q : y < x
    · rw [if_pos ((zz_lt hr2).mpr q), Int.min_eq_right (by omega)]
    · rw [if_neg (fun z => q ((zz_lt hr2).mp z)), Int.min_eq_left (by omega)]
  rw [h, hv]
  exact kk
end ZD
section ZE
variable {p : Program} {l : Launch} {e : Env} {R : Room} {s : State} {m : MethodId} {args : Array Value} {below : List Frame} {meth : Method} {c : Code} {H : Heap} {locs : List Loc} {cells slots : Nat} {Q : State → Prop}
variable {cc : ByteArray} {pc : Nat} {ls : Array Slot} {rest : List Value} {D : va_G} {cl : List vw_C} {a : Nat} {tys : List (ClassId × FieldType)} {ws : va_W}
theorem zz_aald (hexec : p.tables.exec = Jvm.exec) (hb : c.code = cc) (hK : va_K D cl tys s) (hP : va_P D cl ws H) (q0 t0 : Nat) {cA : ClassId} {C : String} {n : Nat} {ad : Nat → Nat} (ha : ws[q0]? = some (a, .inl (cA, n, .inr (.inr (.inr (.inr (fun j => some (ad j)))))))) (ht : tys[t0]? = some (cA, .object C)) {i : Int} {v : Nat} (hi : 0 ≤ i ∧ i < n ∧ i ≤ 2147483647) (hv : ad i.toNat = v) (hdg : decode cc pc = .ok (.aaload, 1))
    (kk : W p l e R s m args below meth c H locs cells slots Q (F0 m (pc + 1) ls (.ref v :: rest))) : W p l e R s m args below meth c H locs cells slots Q (F0 m pc ls (.int (zz_I i) :: .ref a :: rest)) := by
  subst hv
  refine va_aldq hexec hb hK hP q0 t0 ha ht (zz_in hi) hdg ?_
  rw [zz_cl (by omega)]
  exact kk
end ZE
