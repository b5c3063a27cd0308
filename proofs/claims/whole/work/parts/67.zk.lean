/-! The law's helpers: what they read; their handlers; what lies in the array of one long. -/
def zk_P (D : va_G) (cI cW cJ : ClassId) (S0 : State) (Pic : Heap → Prop) : State → Prop := fun U => (Pic U.heap ∧ va_K D kcl [(cI, .int), (cW, .object kn_W), (cJ, .long)] U) ∧ zt_P S0 U
theorem zk_tabB {p : Program} {l : Launch} {x : MethodName} {S : Spec} {code : ByteArray} {maxLocals : Nat} {ret : Option FieldType} {e : Env} {s : State} {m : MethodId} {args : Array Value} {below : List Frame} {meth : Method} {c : Code} {s₁ : State} {hs : List (Nat × Nat × Nat × Nat)}
    (B : BodyLoose p l x S code maxLocals ret e s m args below meth c s₁) (h : (Cond.codeWith x code maxLocals ret hs).before args s = true) : c.exceptionTable.toList.map (fun h => (h.startPc, h.endPc, h.handlerPc, h.catchType)) = hs := by
  obtain ⟨m9, meth', c', hn', hm', hc', -, -, he', -⟩ := Cond.codeWith_spec h
  cases B.named.symm.trans hn'
  cases B.method.symm.trans hm'
  cases (Stand.of_body B).code.symm.trans hc'
  exact he'
theorem zk_up {f : Nat → Int64} {x : Int64} : vp_updL f (zz_I (0)).toNatClampNeg x 0 = x := by
  unfold vp_updL
  rw [show (zz_I 0).toNatClampNeg = 0 from rfl, if_pos rfl]
theorem ck_em3 (P Q : Prop) : ¬ P ∨ (P ∧ Q) ∨ (P ∧ ¬ Q) := by
  by_cases h : P
  · by_cases q : Q
    · exact Or.inr (Or.inl ⟨h, q⟩)
    · exact Or.inr (Or.inr ⟨h, q⟩)
  · exact Or.inl h
theorem zl_Dm {A : Nat → Prop} {a b : va_W} (hD : va_D A a) (e : b.map (fun q => q.1) = a.map (fun q => q.1)) : va_D A b := by
  have key : ∀ (k : Nat) (q : Nat × va_E), b[k]? = some q → ∃ q0, a[k]? = some q0 ∧ q0.1 = q.1 := by
    intro k q hk
    have h1 : (b.map (fun q => q.1))[k]? = some q.1 := by rw [List.getElem?_map, hk]; rfl
    rw [e, List.getElem?_map] at h1
    cases h2 : a[k]? with
    | none => rw [h2] at h1; cases h1
    | some q0 => rw [h2] at h1; exact ⟨q0, rfl, Option.some.inj h1⟩
  refine ⟨fun i j p q hi hj hpq => ?_, fun k q hk => ?_⟩
  · obtain ⟨p0, a1, a2⟩ := key i p hi
    obtain ⟨q0, b1, b2⟩ := key j q hj
    exact hD.1 i j p0 q0 a1 b1 (by rw [a2, b2]; exact hpq)
  · obtain ⟨q0, a1, a2⟩ := key k q hk
    rw [← a2]
    exact hD.2 k q0 a1
/-- behind a call that had the first cells of ours -/
theorem zk_bk {A0 : Nat → Prop} {D : va_G} {wc wr w1 : va_W} {H H1 : Heap} (hP : va_P D kcl (wc ++ wr) H) (hD : va_D A0 (wc ++ wr)) (hf : w1.map (fun q => q.1) = wc.map (fun q => q.1)) (hk : ∀ q : Nat, q < H.size → ¬ zz_F wc q → H1[q]? = H[q]?) (hP1 : va_P D kcl w1 H1) : va_P D kcl (w1 ++ wr) H1 ∧ va_D A0 (w1 ++ wr) := by
  have hr : va_P D kcl wr H1 := by
    intro k q hq
    have h1 : (wc ++ wr)[wc.length + k]? = some q := by rw [List.getElem?_append_right (Nat.le_add_right _ _), Nat.add_sub_cancel_left]; exact hq
    have h2 := hP _ _ h1
    refine h2.kept (hk q.1 h2.lt fun z => ?_)
    obtain ⟨i, e, hi⟩ := z
    have hl := (List.getElem?_eq_some_iff.mp hi).1
    have h3 := hD.1 i (wc.length + k) (q.1, e) q (by rw [List.getElem?_append_left hl]; exact hi) h1 rfl
    omega
  exact ⟨hP1.app hr, zl_Dm hD (by rw [List.map_append, List.map_append, hf])⟩
section ZKP
variable {p : Program} {l : Launch} {e : Env} {R : Room} {s : State} {m : MethodId} {args : Array Value} {below : List Frame} {meth : Method} {c : Code} {H : Heap} {locs : List Loc} {cells slots : Nat} {Q : State → Prop}
variable {cc bytes : ByteArray} {pc nL maxL index n b : Nat} {ls : Array Slot} {rest st0 As : List Value} {D : va_G} {cI cW : ClassId} {A0 : Nat → Prop} {H0 : Heap} {own C : String} {y : MethodName} {ret : Option FieldType} {rm : Room}
theorem zz_wVp {S : Type} {val : S → Option Value} {post : S → Prop} {after : S → va_W} {wc : va_W} (wr : va_W) (Sf : CallFix p m c cc nL s args zz_tbl own) (hK : zz_K D cI cW s) (hM : Met l y (Cond.code y bytes maxL ret :: zz_tbl) rm (va_Pc (.ref b :: As) (zz_P D cI cW (va_P D kcl wc))) (zz_Qw val (fun u H => post u ∧ va_P D kcl (after u) H) (zz_F wc)) 0 0 (zz_F wc)) (hg : GoodIn zz_tbl (wsV own index C y (Cond.code y bytes maxL ret :: zz_tbl))) (hrm : rm.cells = 0 ∧ rm.slots = 0)
    (hd : y.cls = C ∧ y.cls ≠ "java/lang/invoke/MethodHandle" ∧ y.cls ≠ "java/lang/invoke/VarHandle" ∧ (parseMethodDescriptor y.desc).map (fun d => d.parameters.length) = some n) (hR : rm.frames + 1 ≤ R.frames ∧ 8 + (maxL + 11) + rm.locals ≤ R.locals)
    (hrv : ∃ cell : Cell, H[b]? = some cell ∧ cell.vm.isStatics = false ∧ s.vm.findClass C = some cell.cls) (hP : va_P D kcl (wc ++ wr) H) (hD : va_D A0 (wc ++ wr)) (hS : va_S A0 H0 H locs) (haf : ∀ u, (after u).map (fun q => q.1) = wc.map (fun q => q.1))
    (hn : As.length = n) (hsz : ls.size = nL) (hst : st0 = As.reverse ++ .ref b :: rest) (hcat : (rest.map fun v => v.category).sum ≤ 8) (hdg : decode cc pc = .ok (.invokevirtual index, 3)) (hf : cells ≤ R.cells ∧ slots ≤ R.slots)
    (kk : ∀ (u : S) (H : Heap) (locs : List Loc), post u → va_P D kcl (after u ++ wr) H → va_D A0 (after u ++ wr) → va_S A0 H0 H locs → W p l e R s m args below meth c H locs cells slots Q (F0 m (pc + 3) ls ((val u).toList ++ rest))) : W p l e R s m args below meth c H locs cells slots Q (F0 m pc ls st0) := by
  refine zz_callW (va_runV Sf hM (cwV n Sf.2.2.2.2 hg rfl hrm.1 hrm.2 hd hR) ⟨zz_blind, hrv, (zz_pre hK (fun k q hk => hP k q (by rw [List.getElem?_append_left (List.getElem?_eq_some_iff.mp hk).1]; exact hk))).2⟩ rfl hn hsz hst (show 2 * 0 + _ ≤ 8 by omega) hdg hf) hS (fun q z => by
    obtain ⟨i, e9, hi⟩ := z
    exact hD.2 i (q, e9) (by rw [List.getElem?_append_left (List.getElem?_eq_some_iff.mp hi).1]; exact hi)) fun u H1 locs1 hp _ hk hS1 => ?_
  obtain ⟨hP1, hD1⟩ := zk_bk hP hD (haf u) hk hp.2
  exact kk u H1 locs1 hp.1 hP1 hD1 hS1
theorem zz_wVXp {S : Type} {val : S → Option Value} {post : S → Prop} {after : S → va_W} {X : Heap → Prop} {wc : va_W} (wr : va_W) (Sf : CallFix p m c cc nL s args zz_tbl own) (hK : zz_K D cI cW s) (hM : Met l y (Cond.code y bytes maxL ret :: zz_tbl) rm (va_Pc (.ref b :: As) (zz_P D cI cW (fun H => va_P D kcl wc H ∧ X H))) (zz_Qw val (fun u H => post u ∧ va_P D kcl (after u) H) (zz_F wc)) 0 0 (zz_F wc)) (hg : GoodIn zz_tbl (wsV own index C y (Cond.code y bytes maxL ret :: zz_tbl))) (hrm : rm.cells = 0 ∧ rm.slots = 0)
    (hd : y.cls = C ∧ y.cls ≠ "java/lang/invoke/MethodHandle" ∧ y.cls ≠ "java/lang/invoke/VarHandle" ∧ (parseMethodDescriptor y.desc).map (fun d => d.parameters.length) = some n) (hR : rm.frames + 1 ≤ R.frames ∧ 8 + (maxL + 11) + rm.locals ≤ R.locals)
    (hrv : ∃ cell : Cell, H[b]? = some cell ∧ cell.vm.isStatics = false ∧ s.vm.findClass C = some cell.cls) (hX : X H) (hP : va_P D kcl (wc ++ wr) H) (hD : va_D A0 (wc ++ wr)) (hS : va_S A0 H0 H locs) (haf : ∀ u, (after u).map (fun q => q.1) = wc.map (fun q => q.1))
    (hn : As.length = n) (hsz : ls.size = nL) (hst : st0 = As.reverse ++ .ref b :: rest) (hcat : (rest.map fun v => v.category).sum ≤ 8) (hdg : decode cc pc = .ok (.invokevirtual index, 3)) (hf : cells ≤ R.cells ∧ slots ≤ R.slots)
    (kk : ∀ (u : S) (H : Heap) (locs : List Loc), post u → va_P D kcl (after u ++ wr) H → va_D A0 (after u ++ wr) → va_S A0 H0 H locs → W p l e R s m args below meth c H locs cells slots Q (F0 m (pc + 3) ls ((val u).toList ++ rest))) : W p l e R s m args below meth c H locs cells slots Q (F0 m pc ls st0) := by
  refine zz_callW (va_runV Sf hM (cwV n Sf.2.2.2.2 hg rfl hrm.1 hrm.2 hd hR) ⟨zz_blind, hrv, (zz_pre hK ⟨(fun k q hk => hP k q (by rw [List.getElem?_append_left (List.getElem?_eq_some_iff.mp hk).1]; exact hk)), hX⟩).2⟩ rfl hn hsz hst (show 2 * 0 + _ ≤ 8 by omega) hdg hf) hS (fun q z => by
    obtain ⟨i, e9, hi⟩ := z
    exact hD.2 i (q, e9) (by rw [List.getElem?_append_left (List.getElem?_eq_some_iff.mp hi).1]; exact hi)) fun u H1 locs1 hp _ hk hS1 => ?_
  obtain ⟨hP1, hD1⟩ := zk_bk hP hD (haf u) hk hp.2
  exact kk u H1 locs1 hp.1 hP1 hD1 hS1
end ZKP
theorem zk_Fin {A0 : Nat → Prop} {wc wr : va_W} (hD : va_D A0 (wc ++ wr)) : ∀ q, zz_F wc q → A0 q := fun q z => by
  obtain ⟨i, e9, hi⟩ := z
  exact hD.2 i (q, e9) (by rw [List.getElem?_append_left (List.getElem?_eq_some_iff.mp hi).1]; exact hi)
