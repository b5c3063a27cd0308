/-! A reference put into an array; a call that also reads what it doesn't write. -/
theorem zz_keep {A : Nat → Prop} {D : va_G} {ws : va_W} {H0 H : Heap} {locs : List Loc} (hS : va_S A H0 H locs) (hP : va_P D kcl ws H0) (hA : ∀ (k : Nat) (q : Nat × va_E), ws[k]? = some q → ¬ A q.1) : va_P D kcl ws H := fun k q hk => (hP k q hk).kept (hS.2.1 q.1 (hP k q hk).lt (hA k q hk))
section ZI
variable {p : Program} {l : Launch} {e : Env} {R : Room} {s : State} {m : MethodId} {args : Array Value} {below : List Frame} {meth : Method} {c : Code} {H : Heap} {locs : List Loc} {cells slots : Nat} {Q : State → Prop}
variable {cc : ByteArray} {pc : Nat} {ls : Array Slot} {rest st0 : List Value} {D : va_G} {cl : List vw_C} {A : Nat → Prop} {a : Nat} {tys : List (ClassId × FieldType)} {ws : va_W} {H0 : Heap} {cI cW : ClassId} {A0 : Nat → Prop}
theorem zz_aast (hexec : p.tables.exec = Jvm.exec) (hb : c.code = cc) (hK : va_K D cl tys s) (hP : va_P D cl ws H) (hD : va_D A ws) (hS : va_S A H0 H locs) (q0 t0 ci : Nat) {cA : ClassId} {r : vw_C} {n v : Nat} {vs : List Value} {f f' : Nat → Option Nat} (ha : ws[q0]? = some (a, .inl (cA, n, .inr (.inr (.inr (.inr f)))))) (ht : tys[t0]? = some (cA, .object r.1)) (hv : va_at D cl (v, .inr (ci, vs)) H) (hc : cl[ci]? = some r) {i : Int} (hi : 0 ≤ i ∧ i < n ∧ i ≤ 2147483647) (hf : va_up f i.toNat (some v) = f') (hdg : decode cc pc = .ok (.aastore, 1))
    (kk : ∀ (H1 : Heap) (locs1 : List Loc), va_P D cl (ws.set q0 (a, .inl (cA, n, .inr (.inr (.inr (.inr f')))))) H1 → va_D A (ws.set q0 (a, .inl (cA, n, .inr (.inr (.inr (.inr f')))))) → va_S A H0 H1 locs1 → W p l e R s m args below meth c H1 locs1 cells slots Q (F0 m (pc + 1) ls rest)) : W p l e R s m args below meth c H locs cells slots Q (F0 m pc ls (.ref v :: .int (zz_I i) :: .ref a :: rest)) := by
  subst hf
  have hin := zz_in hi
  have ec : (zz_I i).toNatClampNeg = i.toNat := zz_cl (by omega)
  have hlt : (zz_I i).toNatClampNeg < n := Nat.not_le.mp fun q => hin (Or.inr q)
  have h0 : ¬ zz_I i < 0 := fun q => hin (Or.inl q)
  obtain ⟨r', hr', cellV, g1, g2, g3, -⟩ := hv
  have hcls := (hK.1 ci r hc).2
  obtain ⟨kA, comp, k1, k2, k3, -⟩ := (hK.2 t0 _ ht).2
  have hcomp : comp = D.1 ci := Option.some.inj (k3.symm.trans hcls.1)
  subst hcomp
  obtain ⟨kC, hkC, -⟩ := hcls.2
  refine W.aast hexec hb (hP q0 _ ha) (fun q h => by cases h) (fun h => by cases h) k1 k2 rfl hkC ⟨h0, by show _ < (arrV _ _ _).slots.size; rw [arrV_size]; exact hlt⟩ g1 (fun q h => by rw [g3] at h; cases h) (by rw [g2]; exact hkC) (by rw [g2]; exact va_assign hcls) rfl rfl hdg fun H1 e z oq => ?_
  refine kk H1 _ (hP.set hD ha ?_ oq) (hD.set ha) (hS.put z oq (hD.2 q0 _ ha))
  show H1[a]? = some (vp_cell _ _)
  rw [e]
  rw [vp_cell_q, vp_cell_q, arrV_store, ec]
  congr 2
  funext q
  by_cases hq : q = i.toNat
  · subst hq
    simp [updV, va_up, va_rf]
  · simp [updV, va_up, hq]
variable {y : MethodName} {bytes : ByteArray} {maxL nL index n : Nat} {ret : Option FieldType} {rm : Room} {own C : String} {b : Nat} {As : List Value}
theorem zz_wVX {S : Type} {val : S → Option Value} {post : S → Prop} {after : S → va_W} {X : Heap → Prop} {wc : va_W} (Sf : CallFix p m c cc nL s args zz_tbl own) (hK : zz_K D cI cW s) (hM : Met l y (Cond.code y bytes maxL ret :: zz_tbl) rm (va_Pc (.ref b :: As) (zz_P D cI cW (fun H => va_P D kcl wc H ∧ X H))) (zz_Qw val (fun u H => post u ∧ va_P D kcl (after u) H) (zz_F wc)) 0 0 (zz_F wc)) (hg : GoodIn zz_tbl (wsV own index C y (Cond.code y bytes maxL ret :: zz_tbl))) (hrm : rm.cells = 0 ∧ rm.slots = 0)
    (hd : y.cls = C ∧ y.cls ≠ "java/lang/invoke/MethodHandle" ∧ y.cls ≠ "java/lang/invoke/VarHandle" ∧ (parseMethodDescriptor y.desc).map (fun d => d.parameters.length) = some n) (hR : rm.frames + 1 ≤ R.frames ∧ 8 + (maxL + 11) + rm.locals ≤ R.locals)
    (hrv : ∃ cell : Cell, H[b]? = some cell ∧ cell.vm.isStatics = false ∧ s.vm.findClass C = some cell.cls) (hX : X H) (hP : va_P D kcl ws H) (hD : va_D A0 ws) (hS : va_S A0 H0 H locs) (cs : List Nat) (hC : cs.map (fun i => ws[i]?) = wc.map some) (hC2 : cs.filterMap (fun i => ws[i]?) = wc) (haf : ∀ u, (after u).map (fun q => q.1) = wc.map (fun q => q.1))
    (hn : As.length = n) (hsz : ls.size = nL) (hst : st0 = As.reverse ++ .ref b :: rest) (hcat : (rest.map fun v => v.category).sum ≤ 8) (hdg : decode cc pc = .ok (.invokevirtual index, 3)) (hf : cells ≤ R.cells ∧ slots ≤ R.slots)
    (kk : ∀ (u : S) (H : Heap) (locs : List Loc), post u → va_P D kcl (zz_sets ws cs (after u)) H → va_D A0 (zz_sets ws cs (after u)) → va_S A0 H0 H locs → W p l e R s m args below meth c H locs cells slots Q (F0 m (pc + 3) ls ((val u).toList ++ rest))) : W p l e R s m args below meth c H locs cells slots Q (F0 m pc ls st0) := by
  refine zz_callW (va_runV Sf hM (cwV n Sf.2.2.2.2 hg rfl hrm.1 hrm.2 hd hR) ⟨zz_blind, hrv, (zz_pre (Pic := fun H => va_P D kcl wc H ∧ X H) hK ⟨hP.sub cs hC2, hX⟩).2⟩ rfl hn hsz hst (show 2 * 0 + _ ≤ 8 by omega) hdg hf) hS (zz_Fin hD cs hC) fun u H1 locs1 hp _ hk hS1 => ?_
  obtain ⟨hP1, hD1⟩ := zz_back hP hD cs hC (haf u) hk hp.2
  exact kk u H1 locs1 hp.1 hP1 hD1 hS1
end ZI
def ck_dr (nm : Nat → zz_Wt) (p j : Nat) : Nat → zz_Wt := fun q => if p ≤ q ∧ q < j then nm (q + 1) else nm q
def ck_drp (nm : Nat → zz_Wt) (p k : Nat) : Nat → zz_Wt := fun q => if q = k - 1 then nm p else ck_dr nm p (k - 1) q
theorem ck_dr_0 {nm : Nat → zz_Wt} {p : Nat} : ck_dr nm p p = nm := by
  funext q
  unfold ck_dr
  rw [if_neg (by omega)]
theorem ck_dr_up {nm : Nat → zz_Wt} {p j : Nat} (h : p ≤ j) : va_up (fun q => some (ck_dr nm p j q).1) j (some (nm (j + 1)).1) = fun q => some (ck_dr nm p (j + 1) q).1 := by
  funext q
  unfold va_up ck_dr
  by_cases e : q = j
  · subst e
    rw [if_pos rfl, if_pos (by omega)]
  · rw [if_neg e]
    show some (if p ≤ q ∧ q < j then nm (q + 1) else nm q).1 = some (if p ≤ q ∧ q < j + 1 then nm (q + 1) else nm q).1
    by_cases e2 : p ≤ q ∧ q < j
    · rw [if_pos e2, if_pos (by omega)]
    · rw [if_neg e2, if_neg (by omega)]
theorem ck_dr_hi {nm : Nat → zz_Wt} {p j q : Nat} (h : j ≤ q) : ck_dr nm p j q = nm q := by
  unfold ck_dr
  rw [if_neg (by omega)]
theorem ck_drp_up {nm : Nat → zz_Wt} {p k : Nat} : va_up (fun q => some (ck_dr nm p (k - 1) q).1) (k - 1) (some (nm p).1) = fun q => some (ck_drp nm p k q).1 := by
  funext q
  unfold va_up ck_drp
  by_cases e : q = k - 1
  · rw [if_pos e, if_pos e]
  · rw [if_neg e, if_neg e]
