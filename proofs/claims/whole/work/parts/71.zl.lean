def R_law : String := "LookalikeDeskLaw"
def lw_P (b : Addr) (xs : List Int32) (args : Array Value) (s : State) : Prop := args = #[.ref b] ∧ s.IntsAt b xs ∧ xs.length ≤ 2048 ∧ (Jvm.Cond.and given_1 narrow_1).before args s = true
def lw_Q (_ : Array Value) (s : State) (o : Outcome) (t : State) : Prop := o = .returned (some (.int 1)) ∧ Framed s o t [] 601024 7293034
def lw_Z (below : List Frame) (a : Array Value) (s : State) : State → Prop := fun t => ∃ o, t.status = .running ∧ Ended t below o ∧ lw_Q a s o t
/-- the law's own end, with 1 on the stack, nothing written that was there before, its room as the claim has it -/
theorem lw_ret {p : Program} {l : Launch} {e : Env} {s : State} {m : MethodId} {below : List Frame} {meth : Method} {c : Code} {b : Nat} (hx : p.tables.exec = Jvm.exec) (hb : c.code = code) (hr : meth.sig.returnType = ret) (hlocks : meth.locks = false) {pc : Nat} {H : Heap} {ls : Array Slot} (hdg : decode code pc = .ok (.ireturn, 1)) : W p l e room_1 s m #[Value.ref b] below meth c H [] 601024 7293034 (lw_Z below #[Value.ref b] s) (F0 m pc ls [.int 1]) := by
  intro T hT X
  obtain ⟨fs, hret, hrun, hended, hW, hframe⟩ := X.leave (v := some (.int 1)) (hlocks := hlocks) (fun h => by rw [hr] at h; cases h)
  have hmeth' : T.vm.method? m = some meth := X.method'
  refine ⟨T.setFrames fs, ?_, .returned (some (.int 1)), hrun, hended, rfl, ⟨_, rfl⟩, hW, hframe⟩
  jvm_step X.here [X.here.top, hx, hb, hdg, hmeth', hr, ret, narrow_b1]
  (try refine ⟨rfl, ?_⟩); (try refine ⟨rfl, ?_⟩)
  first | (intro acts; rw [hret _ acts rfl rfl rfl]) | rw [hret _ _ rfl rfl rfl]
  exact Steps.refl _
/-- what holds at the law's entry: the machine, the code, the tables' words (any of lw_tbl by 'hts w (by decide +kernel)'), the script of L ints xs at the cell b, what the Statement gives of the start (any of its parts by flat_of_before) -/
def lw_At (p : Program) (s : State) (m : MethodId) (meth : Method) (c : Code) (b L : Nat) (xs : Nat → Int32) : Prop :=
  p.tables.exec = Jvm.exec ∧ c.code = code ∧ meth.sig.returnType = ret ∧ c.maxLocals = 7 ∧ s.vm.findClass R_law = some m.cls ∧ (∀ w ∈ lw_tbl, w.before #[Value.ref b] s = true) ∧ va_X b L xs s s.heap ∧ b < s.heap.size ∧ meth.locks = false ∧ (Jvm.Cond.and given_1 narrow_1).before #[Value.ref b] s = true
/-! The law's world: the names lie behind the rest, in the order in which they were made. -/
def ck_ns (cI : ClassId) (ph : Nat → zz_Wt) : Nat → va_W
  | 0 => []
  | i + 1 => ck_ns cI ph i ++ zz_wr cI (ph i)
def zl_ad (B i : Nat) (t : zz_Wt) : Prop := t.1 = B + 8 + 5 * i ∧ t.2.1 = B + 9 + 5 * i ∧ t.2.2.1 = B + 10 + 5 * i ∧ t.2.2.2.2.2.1 = B + 11 + 5 * i ∧ t.2.2.2.2.2.2.1 = B + 12 + 5 * i
def zl_Si (si : Nat → Nat) : Prop := (∀ j, j < 12 → si j < 12) ∧ ∀ i j, i < 12 → j < 12 → si i = si j → i = j
def zl_A (B : Nat) : Nat → Prop := fun q => B ≤ q
section ZL0
variable {D : va_G} {cI cW cJ : ClassId} {H : Heap} {ph : Nat → zz_Wt}
theorem zl_left {a b : va_W} (hP : va_P D kcl (a ++ b) H) : va_P D kcl a H := fun k q hk => hP k q (by rw [List.getElem?_append_left (List.getElem?_eq_some_iff.mp hk).1]; exact hk)
theorem zl_right {a b : va_W} (hP : va_P D kcl (a ++ b) H) : va_P D kcl b H := fun k q hk => hP (a.length + k) q (by rw [List.getElem?_append_right (Nat.le_add_right _ _), Nat.add_sub_cancel_left]; exact hk)
theorem zl_ns : ∀ i, va_P D kcl (ck_ns cI ph i) H → ∀ j, j < i → va_P D kcl (zz_wr cI (ph j)) H
  | 0, _, j, hj => absurd hj (Nat.not_lt_zero j)
  | i + 1, hP, j, hj => by
    rcases Nat.lt_or_eq_of_le (Nat.le_of_lt_succ hj) with h | h
    · exact zl_ns i (zl_left hP) j h
    · subst h; exact zl_right hP
theorem zl_nm {ws : va_W} (hP : va_P D kcl (ws ++ ck_ns cI ph 12) H) : ∀ j, j < 12 → va_P D kcl (zz_wr cI (ph j)) H := zl_ns 12 (zl_right hP)
theorem zl_N (B : Nat) (os : List Nat) (h : os.Nodup) : zz_N (os.map (fun x => B + x)) := by
  intro i j a h1 h2
  rw [List.getElem?_map] at h1 h2
  cases e1 : os[i]? with
  | none => rw [e1] at h1; cases h1
  | some x =>
    cases e2 : os[j]? with
    | none => rw [e2] at h2; cases h2
    | some y =>
      rw [e1] at h1; rw [e2] at h2
      have q1 : B + x = a := Option.some.inj h1
      have q2 : B + y = a := Option.some.inj h2
      have q3 : x = y := by omega
      exact (List.getElem?_inj (List.getElem?_eq_some_iff.mp e1).1 h).mp (by rw [e1, e2, q3])
theorem zl_wr {B i : Nat} {t : zz_Wt} (h : zl_ad B i t) (hi : i < 12) : ∀ x ∈ zz_wr cI t, B + 8 ≤ x.1 ∧ x.1 < B + 68 := by
  obtain ⟨h1, h2, h3, h4, h5⟩ := h
  intro x hx
  unfold zz_wr at hx
  simp only [List.mem_cons, List.not_mem_nil, or_false] at hx
  rcases hx with rfl | rfl | rfl | rfl | rfl <;> dsimp only <;> omega
end ZL0
theorem zk_blind {av : List Value} {D : va_G} {cI cW cJ : ClassId} {S0 : State} {Pic : Heap → Prop} : FrameBlind (va_Pc av (zk_P D cI cW cJ S0 Pic)) := fun a U g mk q => ⟨q.1, ⟨q.2.1.1, va_K.moved (u := U) (U := U.calling g mk a) (Vm.Alike.refl U.vm) q.2.1.2⟩, q.2.2⟩
theorem zk_gS {own : String} {index : Nat} {y : MethodName} {bytes : ByteArray} {maxL : Nat} {ret : Option FieldType} {hs : List (Nat × Nat × Nat × Nat)} (h1 : Cond.methodLink own index y ∈ zz_tbl) (h2 : Cond.static y ∈ zz_tbl) (h3 : Cond.initialized y.cls ∈ zz_tbl) (h4 : Cond.codeWith y bytes maxL ret hs ∈ zz_tbl) : GoodIn zz_tbl (.methodLink own index y :: .static y :: .initialized y.cls :: Cond.codeWith y bytes maxL ret hs :: zz_tbl) := by
  intro w hw
  have ok : ∀ {v : Cond}, v ∈ zz_tbl → v ∈ zz_tbl ∧ ((v.onTables && v.keeps) = true ∨ ∃ ty, v = .arrayClass ty) := fun h => ⟨h, good_of_word (List.mem_filter.mp h).2⟩
  rcases List.mem_cons.mp hw with rfl | hw
  · exact ok h1
  rcases List.mem_cons.mp hw with rfl | hw
  · exact ok h2
  rcases List.mem_cons.mp hw with rfl | hw
  · exact ok h3
  rcases List.mem_cons.mp hw with rfl | hw
  · exact ok h4
  · exact ok hw
section ZL1
variable {p : Program} {l : Launch} {e : Env} {R : Room} {s : State} {m : MethodId} {args : Array Value} {below : List Frame} {meth : Method} {c : Code} {H : Heap} {locs : List Loc} {cells slots : Nat} {Q : State → Prop}
variable {cc bytes : ByteArray} {pc nL maxL index n : Nat} {ls : Array Slot} {rest st0 As : List Value} {D : va_G} {cI cW cJ : ClassId} {A0 A : Nat → Prop} {H0 : Heap} {own : String} {y : MethodName} {ret : Option FieldType} {rm : Room} {S0 : State} {hs : List (Nat × Nat × Nat × Nat)}
/-- a call of a helper of the law -/
theorem zk_wS {S : Type} {val : S → Option Value} {post : S → Prop} {after : S → va_W} {X : Heap → Prop} {ws wc : va_W} (Sf : CallFix p m c cc nL s args zz_tbl own) (hK3 : va_K D kcl [(cI, .int), (cW, .object kn_W), (cJ, .long)] s) (hz : zt_P S0 s) (hH : ∀ (q : Nat) (c : Cell), S0.heap[q]? = some c → H[q]? = some c)
    (hM : Met l y (Cond.codeWith y bytes maxL ret hs :: zz_tbl) rm (va_Pc As (zk_P D cI cW cJ S0 (fun H => va_P D kcl wc H ∧ X H))) (zz_Qw val (fun u H => post u ∧ va_P D kcl (after u) H) (zz_F wc)) 1 6 (zz_F wc)) (hg : GoodIn zz_tbl (.methodLink own index y :: .static y :: .initialized y.cls :: Cond.codeWith y bytes maxL ret hs :: zz_tbl)) (hrm : rm.cells = 1 ∧ rm.slots = 6)
    (hd : y.cls ≠ "java/lang/invoke/MethodHandle" ∧ y.cls ≠ "java/lang/invoke/VarHandle" ∧ (parseMethodDescriptor y.desc).map (fun d => d.parameters.length) = some n) (hR : rm.frames + 1 ≤ R.frames ∧ 8 + (maxL + 11) + rm.locals ≤ R.locals)
    (hX : X H) (hP : va_P D kcl ws H) (hD : va_D A0 ws) (hS : va_S A0 H0 H locs) (cs : List Nat) (hC : cs.map (fun i => ws[i]?) = wc.map some) (hC2 : cs.filterMap (fun i => ws[i]?) = wc) (haf : ∀ u, (after u).map (fun q => q.1) = wc.map (fun q => q.1))
    (hn : As.length = n) (hsz : ls.size = nL) (hst : st0 = As.reverse ++ rest) (hcat : (rest.map fun v => v.category).sum ≤ 8) (hdg : decode cc pc = .ok (.invokestatic index, 3)) (hf : cells + 1 ≤ R.cells ∧ slots + 6 ≤ R.slots)
    (kk : ∀ (u : S) (H : Heap) (locs : List Loc), post u → va_P D kcl (zz_sets ws cs (after u)) H → va_D A0 (zz_sets ws cs (after u)) → va_S A0 H0 H locs → W p l e R s m args below meth c H locs (cells + 1) (slots + 6) Q (F0 m (pc + 3) ls ((val u).toList ++ rest))) : W p l e R s m args below meth c H locs cells slots Q (F0 m pc ls st0) := by
  refine zz_callW (zk_runS Sf hM Sf.2.2.2.2 hg rfl hrm hd hR ⟨zk_blind, fun U hU hW => ⟨rfl, ⟨by rw [hU]; exact ⟨hP.sub cs hC2, hX⟩, va_K.moved hW.alike hK3⟩, zt_move hz hH hU hW⟩⟩ rfl hn hsz hst (show 2 * 0 + _ ≤ 8 by omega) hdg hf) hS (zz_Fin hD cs hC) fun u H1 locs1 hp _ hk hS1 => ?_
  obtain ⟨hP1, hD1⟩ := zz_back hP hD cs hC (haf u) hk hp.2
  exact kk u H1 locs1 hp.1 hP1 hD1 hS1
/-- the same, the cells that it leaves said outright -/
theorem zk_wSq {S : Type} {val : S → Option Value} {post : S → Prop} {after w2 : S → va_W} {X : Heap → Prop} {wl tl wc wr : va_W} (Sf : CallFix p m c cc nL s args zz_tbl own) (hK3 : va_K D kcl [(cI, .int), (cW, .object kn_W), (cJ, .long)] s) (hz : zt_P S0 s) (hH : ∀ (q : Nat) (c : Cell), S0.heap[q]? = some c → H[q]? = some c)
    (hM : Met l y (Cond.codeWith y bytes maxL ret hs :: zz_tbl) rm (va_Pc As (zk_P D cI cW cJ S0 (fun H => va_P D kcl wc H ∧ X H))) (zz_Qw val (fun u H => post u ∧ va_P D kcl (after u) H) (zz_F wc)) 1 6 (zz_F wc)) (hg : GoodIn zz_tbl (.methodLink own index y :: .static y :: .initialized y.cls :: Cond.codeWith y bytes maxL ret hs :: zz_tbl)) (hrm : rm.cells = 1 ∧ rm.slots = 6)
    (hd : y.cls ≠ "java/lang/invoke/MethodHandle" ∧ y.cls ≠ "java/lang/invoke/VarHandle" ∧ (parseMethodDescriptor y.desc).map (fun d => d.parameters.length) = some n) (hR : rm.frames + 1 ≤ R.frames ∧ 8 + (maxL + 11) + rm.locals ≤ R.locals)
    (hX : X H) (hP : va_P D kcl (wl ++ tl) H) (hD : va_D A0 (wl ++ tl)) (hS : va_S A0 H0 H locs) (cs rs pm : List Nat) (hC : cs.map (fun i => wl[i]?) = wc.map some) (hC2 : cs.filterMap (fun i => wl[i]?) = wc) (hQ : rs.map (fun i => wl[i]?) = wr.map some) (hap : (rs.all fun i => !cs.contains i) = true) (hw2 : ∀ u, pm.filterMap (fun i => (after u ++ wr)[i]?) = w2 u) (ha2 : ∀ u, (w2 u).map (fun q => q.1) = wl.map (fun q => q.1))
    (hn : As.length = n) (hsz : ls.size = nL) (hst : st0 = As.reverse ++ rest) (hcat : (rest.map fun v => v.category).sum ≤ 8) (hdg : decode cc pc = .ok (.invokestatic index, 3)) (hf : cells + 1 ≤ R.cells ∧ slots + 6 ≤ R.slots)
    (kk : ∀ (u : S) (H : Heap) (locs : List Loc), post u → va_P D kcl (w2 u ++ tl) H → va_D A0 (w2 u ++ tl) → va_S A0 H0 H locs → W p l e R s m args below meth c H locs (cells + 1) (slots + 6) Q (F0 m (pc + 3) ls ((val u).toList ++ rest))) : W p l e R s m args below meth c H locs cells slots Q (F0 m pc ls st0) := by
  have hin : ∀ q, zz_F wc q → ∃ (i : Nat) (e9 : va_E), i ∈ cs ∧ wl[i]? = some (q, e9) := fun q z => by
    obtain ⟨k, e9, hk⟩ := z
    obtain ⟨i, h1, h2⟩ := zz_pick hC k (q, e9) hk
    exact ⟨i, e9, List.mem_of_getElem? h1, h2⟩
  have hlt : ∀ {i : Nat} {q : Nat × va_E}, wl[i]? = some q → (wl ++ tl)[i]? = some q := fun h => by rw [List.getElem?_append_left (List.getElem?_eq_some_iff.mp h).1]; exact h
  refine zz_callW (zk_runS Sf hM Sf.2.2.2.2 hg rfl hrm hd hR ⟨zk_blind, fun U hU hW => ⟨rfl, ⟨by rw [hU]; exact ⟨(zl_left hP).sub cs hC2, hX⟩, va_K.moved hW.alike hK3⟩, zt_move hz hH hU hW⟩⟩ rfl hn hsz hst (show 2 * 0 + _ ≤ 8 by omega) hdg hf) hS (fun q z => by
    obtain ⟨i, e9, -, h2⟩ := hin q z
    exact hD.2 i (q, e9) (hlt h2)) fun u H1 locs1 hp _ hk hS1 => ?_
  have hr : va_P D kcl wr H1 := fun k q hq => by
    obtain ⟨i, h1, h2⟩ := zz_pick hQ k q hq
    have h3 := hP _ _ (hlt h2)
    refine h3.kept (hk q.1 h3.lt fun z => ?_)
    obtain ⟨j, e9, h4, h5⟩ := hin q.1 z
    have h6 := hD.1 j i (q.1, e9) q (hlt h5) (hlt h2) rfl
    subst h6
    have h7 := List.all_eq_true.mp hap j (List.mem_of_getElem? h1)
    simp [h4] at h7
  have ht : va_P D kcl tl H1 := fun k q hq => by
    have h2 : (wl ++ tl)[wl.length + k]? = some q := by rw [List.getElem?_append_right (Nat.le_add_right _ _), Nat.add_sub_cancel_left]; exact hq
    have h3 := hP _ _ h2
    refine h3.kept (hk q.1 h3.lt fun z => ?_)
    obtain ⟨j, e9, -, h5⟩ := hin q.1 z
    have h6 := hD.1 j (wl.length + k) (q.1, e9) q (hlt h5) h2 rfl
    have h7 := (List.getElem?_eq_some_iff.mp h5).1
    omega
  exact kk u H1 locs1 hp.1 (((hp.2.app hr).sub pm (hw2 u)).app ht) (zl_Dm hD (by rw [List.map_append, List.map_append, ha2 u])) hS1
theorem zl_sld (hexec : p.tables.exec = Jvm.exec) (hb : c.code = cc) {b L : Nat} {xs : Nat → Int32} (hX : va_X b L xs s H0) (hbl : b < H0.size) (hbA : ¬ A b) (hS : va_S A H0 H locs) {i : Nat} (hi : i < L ∧ L ≤ 2048) (hdg : decode cc pc = .ok (.iaload, 1))
    (kk : W p l e R s m args below meth c H locs cells slots Q (F0 m (pc + 1) ls (.int (zz_I (xs i).toInt) :: rest))) : W p l e R s m args below meth c H locs cells slots Q (F0 m pc ls (.int (zz_I ((i : Nat) : Int)) :: .ref b :: rest)) := by
  refine va_sld hexec hb hX hbl hbA hS (zz_in (by omega)) hdg ?_
  rw [zz_cl (by omega), Int.toNat_natCast]
  rw [zz_of] at kk
  exact kk
theorem zl_slen (hexec : p.tables.exec = Jvm.exec) (hb : c.code = cc) {b L : Nat} {xs : Nat → Int32} (hX : va_X b L xs s H0) (hbl : b < H0.size) (hbA : ¬ A b) (hS : va_S A H0 H locs) (hdg : decode cc pc = .ok (.arraylength, 1))
    (kk : W p l e R s m args below meth c H locs cells slots Q (F0 m (pc + 1) ls (.int (zz_I ((L : Nat) : Int)) :: rest))) : W p l e R s m args below meth c H locs cells slots Q (F0 m pc ls (.ref b :: rest)) := by
  refine va_slen hexec hb hX hbl hbA hS hdg ?_
  first | exact kk | (rw [zz_nI] at kk; exact kk)
theorem zl_cmp {f : Nat → Int64} {y : Int64} (h : f 0 = y) : lg_cmp (f (zz_I (0)).toNatClampNeg) y = zz_I (0) := by
  rw [show (zz_I 0).toNatClampNeg = 0 from rfl, h]
  unfold lg_cmp
  rw [if_neg (by intro q; rw [gt_iff_lt, Int64.lt_iff_toInt_lt] at q; omega), if_pos rfl]
  rfl
/-- what was written is new: the walk may forget it -/
theorem zl_fg (hS : ∀ q ∈ locs, s.heap.size ≤ q.base) {g : JFrame} (kk : W p l e R s m args below meth c H [] cells slots Q g) : W p l e R s m args below meth c H locs cells slots Q g := by
  intro T hT X
  exact kk T hT (Stand.forget (locs := []) X hS)
end ZL1
theorem zl_old {s : State} {H : Heap} {locs : List Loc} (hS : va_S (zl_A s.heap.size) s.heap H locs) : ∀ (q : Nat) (c : Cell), s.heap[q]? = some c → H[q]? = some c := fun q c h => by
  have hlt := (Array.getElem?_eq_some_iff.mp h).1
  rw [hS.2.1 q hlt (Nat.not_le.mpr hlt)]
  exact h
/-- what holds ahead of each call of the script -/
def zl_Inv (D : va_G) (cI cW cJ : ClassId) (B : Nat) (H : Heap) : Prop := ∃ (n : Nat) (m : Nat) (k : Nat) (fk : Nat) (na : Nat) (on : Nat) (om : Nat) (hn : Nat) (hm : Nat) (bg : Nat) (g : Nat → Int) (h : Nat → Int) (fB : Nat → Int) (fE : Nat → Int) (ga : Nat → Int) (og : Nat → Int) (o2 : Nat → Int) (hg1 : Nat → Int) (h2 : Nat → Int) (T : Nat → Int) (Sz : Nat → Int) (Rw : Nat → Int) (Ln : Nat → Int) (Od : Nat → Int) (th : Int) (ol : Nat → Int64) (ph : Nat → zz_Wt) (si : Nat → Nat), va_P D kcl (([(B, .inr (4, [.ref (B + 1), .ref (B + 6), .ref (B + 68), .ref (B + 71), .ref (B + 73), .ref (B + 78)])), (B + 1, .inr (3, [.ref (B + 2), .ref (B + 4)])), (B + 2, .inr (1, [.ref (B + 3), .int (zz_I (((n : Nat) : Int)))])), (B + 3, .inl (cI, 48, .inl (zz_A (g)))), (B + 4, .inr (1, [.ref (B + 5), .int (zz_I (((m : Nat) : Int)))])), (B + 5, .inl (cI, 144, .inl (zz_A (h)))), (B + 6, .inr (0, [.ref (B + 7), .int (zz_I (((k : Nat) : Int)))])), (B + 7, .inl (cW, 12, .inr (.inr (.inr (.inr (fun jq => some ((fun j => ph (si j)) jq).1)))))), (B + 68, .inr (2, [.ref (B + 69), .ref (B + 70), .int (zz_I (((fk : Nat) : Int)))])), (B + 69, .inl (cI, 48, .inl (zz_A (fB)))), (B + 70, .inl (cI, 48, .inl (zz_A (fE)))), (B + 71, .inr (1, [.ref (B + 72), .int (zz_I (((na : Nat) : Int)))])), (B + 72, .inl (cI, 96, .inl (zz_A (ga)))), (B + 73, .inr (3, [.ref (B + 74), .ref (B + 76)])), (B + 74, .inr (1, [.ref (B + 75), .int (zz_I (((on : Nat) : Int)))])), (B + 75, .inl (cI, 48, .inl (zz_A (og)))), (B + 76, .inr (1, [.ref (B + 77), .int (zz_I (((om : Nat) : Int)))])), (B + 77, .inl (cI, 144, .inl (zz_A (o2)))), (B + 78, .inr (3, [.ref (B + 79), .ref (B + 81)])), (B + 79, .inr (1, [.ref (B + 80), .int (zz_I (((hn : Nat) : Int)))])), (B + 80, .inl (cI, 48, .inl (zz_A (hg1)))), (B + 81, .inr (1, [.ref (B + 82), .int (zz_I (((hm : Nat) : Int)))])), (B + 82, .inl (cI, 144, .inl (zz_A (h2)))), (B + 83, .inr (5, [.int (zz_I (th)), .ref (B + 84), .ref (B + 85), .int (zz_I (((k : Nat) : Int))), .ref (B + 86), .ref (B + 87), .ref (B + 88), .int (zz_I (((bg : Nat) : Int)))])), (B + 84, .inl (cI, 672, .inl (zz_A (T)))), (B + 85, .inl (cI, 14, .inl (zz_A (Sz)))), (B + 86, .inl (cI, 320, .inl (zz_A (Rw)))), (B + 87, .inl (cI, 2, .inl (zz_A (Ln)))), (B + 88, .inl (cI, 160, .inl (zz_A (Od)))), (B + 89, .inl (cJ, 1, .inr (.inl (ol))))] : va_W) ++ ck_ns cI ph 12) H ∧ va_D (zl_A B) (([(B, .inr (4, [.ref (B + 1), .ref (B + 6), .ref (B + 68), .ref (B + 71), .ref (B + 73), .ref (B + 78)])), (B + 1, .inr (3, [.ref (B + 2), .ref (B + 4)])), (B + 2, .inr (1, [.ref (B + 3), .int (zz_I (((n : Nat) : Int)))])), (B + 3, .inl (cI, 48, .inl (zz_A (g)))), (B + 4, .inr (1, [.ref (B + 5), .int (zz_I (((m : Nat) : Int)))])), (B + 5, .inl (cI, 144, .inl (zz_A (h)))), (B + 6, .inr (0, [.ref (B + 7), .int (zz_I (((k : Nat) : Int)))])), (B + 7, .inl (cW, 12, .inr (.inr (.inr (.inr (fun jq => some ((fun j => ph (si j)) jq).1)))))), (B + 68, .inr (2, [.ref (B + 69), .ref (B + 70), .int (zz_I (((fk : Nat) : Int)))])), (B + 69, .inl (cI, 48, .inl (zz_A (fB)))), (B + 70, .inl (cI, 48, .inl (zz_A (fE)))), (B + 71, .inr (1, [.ref (B + 72), .int (zz_I (((na : Nat) : Int)))])), (B + 72, .inl (cI, 96, .inl (zz_A (ga)))), (B + 73, .inr (3, [.ref (B + 74), .ref (B + 76)])), (B + 74, .inr (1, [.ref (B + 75), .int (zz_I (((on : Nat) : Int)))])), (B + 75, .inl (cI, 48, .inl (zz_A (og)))), (B + 76, .inr (1, [.ref (B + 77), .int (zz_I (((om : Nat) : Int)))])), (B + 77, .inl (cI, 144, .inl (zz_A (o2)))), (B + 78, .inr (3, [.ref (B + 79), .ref (B + 81)])), (B + 79, .inr (1, [.ref (B + 80), .int (zz_I (((hn : Nat) : Int)))])), (B + 80, .inl (cI, 48, .inl (zz_A (hg1)))), (B + 81, .inr (1, [.ref (B + 82), .int (zz_I (((hm : Nat) : Int)))])), (B + 82, .inl (cI, 144, .inl (zz_A (h2)))), (B + 83, .inr (5, [.int (zz_I (th)), .ref (B + 84), .ref (B + 85), .int (zz_I (((k : Nat) : Int))), .ref (B + 86), .ref (B + 87), .ref (B + 88), .int (zz_I (((bg : Nat) : Int)))])), (B + 84, .inl (cI, 672, .inl (zz_A (T)))), (B + 85, .inl (cI, 14, .inl (zz_A (Sz)))), (B + 86, .inl (cI, 320, .inl (zz_A (Rw)))), (B + 87, .inl (cI, 2, .inl (zz_A (Ln)))), (B + 88, .inl (cI, 160, .inl (zz_A (Od)))), (B + 89, .inl (cJ, 1, .inr (.inl (ol))))] : va_W) ++ ck_ns cI ph 12) ∧ zl_T n g m h T Sz ∧ k ≤ 12 ∧ ck_R (fun j => ph (si j)) k T Sz ∧ zl_Si si ∧ ∀ i, i < 12 → zl_ad B i (ph i)
theorem ck_ri_eq2 {m N : Nat} {h F : Nat → Int} (hw : ck_eq (m, h) (N, F)) (i : Int) : ck_ri h m i = ck_ri F N i := by
  obtain ⟨a, b⟩ := hw
  dsimp only at a b
  subst a
  exact ck_ri_eq b i
theorem zl_out {B a : Nat} (h : B + 8 ≤ a ∧ a < B + 68) : ¬ a ∈ [B, B + 1, B + 2, B + 3, B + 68, B + 69, B + 70, B + 73, B + 74, B + 75, B + 76, B + 77, B + 78, B + 79, B + 80, B + 81, B + 82, B + 71, B + 72, B + 6, B + 7] := by
  intro hm
  simp only [List.mem_cons, List.not_mem_nil, or_false] at hm
  omega
theorem zl_em {a b : Bool} {k : Nat} (hk : k ≤ 12) : a = false ∨ (a = true ∧ (k = 12 ∨ b = true)) ∨ (a = true ∧ k < 12 ∧ b = false) := by
  cases a with
  | false => exact Or.inl rfl
  | true =>
    by_cases h : k = 12
    · exact Or.inr (Or.inl ⟨rfl, Or.inl h⟩)
    · cases b with
      | true => exact Or.inr (Or.inl ⟨rfl, Or.inr rfl⟩)
      | false => exact Or.inr (Or.inr ⟨rfl, by omega, rfl⟩)
theorem zl_si {ph : Nat → zz_Wt} {si : Nat → Nat} {k : Nat} {v : Nat → zz_Wt} (hsi : zl_Si si) (hk : k ≤ 12) (h : v = (fun j => ph (si j)) ∨ ∃ q, q < k ∧ v = ck_drp (fun j => ph (si j)) q k) : ∃ si2, v = (fun j => ph (si2 j)) ∧ zl_Si si2 := by
  rcases h with h | ⟨q, hq, h⟩
  · exact ⟨si, h, hsi⟩
  · refine ⟨fun j => si (ck_dp1 q k j), ?_, fun j hj => hsi.1 _ (ck_dp1_lt hk hj), fun i j hi hj e => ?_⟩
    · rw [h]
      funext j
      exact ck_drp_at hq j
    · exact ck_dp1_inj hq (hsi.2 _ _ (ck_dp1_lt hk hi) (ck_dp1_lt hk hj) e)
theorem zl_mk {D : va_G} {cI cW cJ : ClassId} {B : Nat} {H : Heap} {n : Nat} {m : Nat} {k : Nat} {fk : Nat} {na : Nat} {on : Nat} {om : Nat} {hn : Nat} {hm : Nat} {bg : Nat} {g : Nat → Int} {h : Nat → Int} {fB : Nat → Int} {fE : Nat → Int} {ga : Nat → Int} {og : Nat → Int} {o2 : Nat → Int} {hg1 : Nat → Int} {h2 : Nat → Int} {T : Nat → Int} {Sz : Nat → Int} {Rw : Nat → Int} {Ln : Nat → Int} {Od : Nat → Int} {th : Int} {ol : Nat → Int64} {ph : Nat → zz_Wt} {si : Nat → Nat} (hP : va_P D kcl (([(B, .inr (4, [.ref (B + 1), .ref (B + 6), .ref (B + 68), .ref (B + 71), .ref (B + 73), .ref (B + 78)])), (B + 1, .inr (3, [.ref (B + 2), .ref (B + 4)])), (B + 2, .inr (1, [.ref (B + 3), .int (zz_I (((n : Nat) : Int)))])), (B + 3, .inl (cI, 48, .inl (zz_A (g)))), (B + 4, .inr (1, [.ref (B + 5), .int (zz_I (((m : Nat) : Int)))])), (B + 5, .inl (cI, 144, .inl (zz_A (h)))), (B + 6, .inr (0, [.ref (B + 7), .int (zz_I (((k : Nat) : Int)))])), (B + 7, .inl (cW, 12, .inr (.inr (.inr (.inr (fun jq => some ((fun j => ph (si j)) jq).1)))))), (B + 68, .inr (2, [.ref (B + 69), .ref (B + 70), .int (zz_I (((fk : Nat) : Int)))])), (B + 69, .inl (cI, 48, .inl (zz_A (fB)))), (B + 70, .inl (cI, 48, .inl (zz_A (fE)))), (B + 71, .inr (1, [.ref (B + 72), .int (zz_I (((na : Nat) : Int)))])), (B + 72, .inl (cI, 96, .inl (zz_A (ga)))), (B + 73, .inr (3, [.ref (B + 74), .ref (B + 76)])), (B + 74, .inr (1, [.ref (B + 75), .int (zz_I (((on : Nat) : Int)))])), (B + 75, .inl (cI, 48, .inl (zz_A (og)))), (B + 76, .inr (1, [.ref (B + 77), .int (zz_I (((om : Nat) : Int)))])), (B + 77, .inl (cI, 144, .inl (zz_A (o2)))), (B + 78, .inr (3, [.ref (B + 79), .ref (B + 81)])), (B + 79, .inr (1, [.ref (B + 80), .int (zz_I (((hn : Nat) : Int)))])), (B + 80, .inl (cI, 48, .inl (zz_A (hg1)))), (B + 81, .inr (1, [.ref (B + 82), .int (zz_I (((hm : Nat) : Int)))])), (B + 82, .inl (cI, 144, .inl (zz_A (h2)))), (B + 83, .inr (5, [.int (zz_I (th)), .ref (B + 84), .ref (B + 85), .int (zz_I (((k : Nat) : Int))), .ref (B + 86), .ref (B + 87), .ref (B + 88), .int (zz_I (((bg : Nat) : Int)))])), (B + 84, .inl (cI, 672, .inl (zz_A (T)))), (B + 85, .inl (cI, 14, .inl (zz_A (Sz)))), (B + 86, .inl (cI, 320, .inl (zz_A (Rw)))), (B + 87, .inl (cI, 2, .inl (zz_A (Ln)))), (B + 88, .inl (cI, 160, .inl (zz_A (Od)))), (B + 89, .inl (cJ, 1, .inr (.inl (ol))))] : va_W) ++ ck_ns cI ph 12) H) (hD : va_D (zl_A B) (([(B, .inr (4, [.ref (B + 1), .ref (B + 6), .ref (B + 68), .ref (B + 71), .ref (B + 73), .ref (B + 78)])), (B + 1, .inr (3, [.ref (B + 2), .ref (B + 4)])), (B + 2, .inr (1, [.ref (B + 3), .int (zz_I (((n : Nat) : Int)))])), (B + 3, .inl (cI, 48, .inl (zz_A (g)))), (B + 4, .inr (1, [.ref (B + 5), .int (zz_I (((m : Nat) : Int)))])), (B + 5, .inl (cI, 144, .inl (zz_A (h)))), (B + 6, .inr (0, [.ref (B + 7), .int (zz_I (((k : Nat) : Int)))])), (B + 7, .inl (cW, 12, .inr (.inr (.inr (.inr (fun jq => some ((fun j => ph (si j)) jq).1)))))), (B + 68, .inr (2, [.ref (B + 69), .ref (B + 70), .int (zz_I (((fk : Nat) : Int)))])), (B + 69, .inl (cI, 48, .inl (zz_A (fB)))), (B + 70, .inl (cI, 48, .inl (zz_A (fE)))), (B + 71, .inr (1, [.ref (B + 72), .int (zz_I (((na : Nat) : Int)))])), (B + 72, .inl (cI, 96, .inl (zz_A (ga)))), (B + 73, .inr (3, [.ref (B + 74), .ref (B + 76)])), (B + 74, .inr (1, [.ref (B + 75), .int (zz_I (((on : Nat) : Int)))])), (B + 75, .inl (cI, 48, .inl (zz_A (og)))), (B + 76, .inr (1, [.ref (B + 77), .int (zz_I (((om : Nat) : Int)))])), (B + 77, .inl (cI, 144, .inl (zz_A (o2)))), (B + 78, .inr (3, [.ref (B + 79), .ref (B + 81)])), (B + 79, .inr (1, [.ref (B + 80), .int (zz_I (((hn : Nat) : Int)))])), (B + 80, .inl (cI, 48, .inl (zz_A (hg1)))), (B + 81, .inr (1, [.ref (B + 82), .int (zz_I (((hm : Nat) : Int)))])), (B + 82, .inl (cI, 144, .inl (zz_A (h2)))), (B + 83, .inr (5, [.int (zz_I (th)), .ref (B + 84), .ref (B + 85), .int (zz_I (((k : Nat) : Int))), .ref (B + 86), .ref (B + 87), .ref (B + 88), .int (zz_I (((bg : Nat) : Int)))])), (B + 84, .inl (cI, 672, .inl (zz_A (T)))), (B + 85, .inl (cI, 14, .inl (zz_A (Sz)))), (B + 86, .inl (cI, 320, .inl (zz_A (Rw)))), (B + 87, .inl (cI, 2, .inl (zz_A (Ln)))), (B + 88, .inl (cI, 160, .inl (zz_A (Od)))), (B + 89, .inl (cJ, 1, .inr (.inl (ol))))] : va_W) ++ ck_ns cI ph 12)) (f1 : zl_T n g m h T Sz) (f2 : k ≤ 12) (f3 : ck_R (fun j => ph (si j)) k T Sz) (f4 : zl_Si si) (f5 : ∀ i, i < 12 → zl_ad B i (ph i)) : zl_Inv D cI cW cJ B H := ⟨n, m, k, fk, na, on, om, hn, hm, bg, g, h, fB, fE, ga, og, o2, hg1, h2, T, Sz, Rw, Ln, Od, th, ol, ph, si, hP, hD, f1, f2, f3, f4, f5⟩
