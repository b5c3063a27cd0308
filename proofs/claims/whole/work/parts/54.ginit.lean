/-! The register's constructor: twelve writings, five cells each, one behind the other. -/
theorem zz_cellq {cA : ClassId} {n : Nat} {f f' : Nat → Option Nat} (h : ∀ j, j < n → f j = f' j) : vp_cell cA (n, .inr (.inr (.inr (.inr f)))) = vp_cell cA (n, .inr (.inr (.inr (.inr f')))) := by
  rw [vp_cell_q, vp_cell_q]
  unfold arrV
  congr 1
  congr 1
  funext j
  show va_rf (f j.val) = va_rf (f' j.val)
  rw [h j.val j.isLt]
section ZM
variable {p : Program} {l : Launch} {e : Env} {R : Room} {s : State} {m : MethodId} {args : Array Value} {below : List Frame} {meth : Method} {c : Code} {H : Heap} {locs : List Loc} {cells slots : Nat} {Q : State → Prop}
variable {cc : ByteArray} {pc : Nat} {ls : Array Slot} {rest : List Value} {D : va_G} {cl : List vw_C} {A : Nat → Prop} {a : Nat} {tys : List (ClassId × FieldType)} {ws : va_W} {H0 : Heap} {cI cW : ClassId} {h : Nat}
theorem zz_newq (hexec : p.tables.exec = Jvm.exec) (hb : c.code = cc) {own C : String} {index : Nat} (hown : s.vm.findClass own = some m.cls) (hclink : (Cond.classLink own index C).before args s = true) (hAO : va_AO C s) (hK : va_K D cl tys s) (t0 : Nat) (ht : tys[t0]? = some (cW, .object C)) (hP : va_P D cl ws H) (hD : va_D A ws) (hS : va_S A H0 H locs) (hh : H.size = h) (hA : A h) {N : Nat} (hN : N ≤ 100000) (hcells : cells + 1 ≤ R.cells) (hslots : slots + N ≤ R.slots) (hdg : decode cc pc = .ok (.anewarray index, 3))
    (kk : ∀ H1 : Heap, H1.size = h + 1 → va_P D cl (ws ++ [(h, .inl (cW, N, .inr (.inr (.inr (.inr (fun _ => none))))))]) H1 → va_D A (ws ++ [(h, .inl (cW, N, .inr (.inr (.inr (.inr (fun _ => none))))))]) → va_S A H0 H1 locs → W p l e R s m args below meth c H1 locs (cells + 1) (slots + N) Q (F0 m (pc + 3) ls (.ref h :: rest))) : W p l e R s m args below meth c H locs cells slots Q (F0 m pc ls (.int (zz_I (N : Nat)) :: rest)) := by
  have hcl : (zz_I (N : Nat)).toNatClampNeg = N := by rw [zz_cl (by omega)]; omega
  subst hh
  refine W.anew hexec hb hown hclink (va_AO.use hAO) rfl hdg rfl (fun q => ?_) (by rw [hcl]; omega) hcells (by rw [hcl]; exact hslots) fun cA kA comp f1 f2 f3 f4 => ?_
  · have := (zz_lt (a := (N : Nat)) (b := 0) (by omega)).mp q
    omega
  · rw [hcl]
    obtain ⟨-, -, -, -, -, hc2⟩ := (hK.2 t0 _ ht).2
    have ec : cA = cW := Option.some.inj (f1.symm.trans hc2)
    subst ec
    generalize hH1 : H.push ({ cls := cA, slots := Array.replicate N .null, vm := .none } : Cell) = H1
    have z1 : H1.size = H.size + 1 := by rw [← hH1, Array.size_push]
    have e1 : H1[H.size]? = some (arrV cA N (fun _ => .null)) := by rw [← hH1, Array.getElem?_push_size, ← arrV_new]
    have o1 : ∀ q : Nat, q < H.size → H1[q]? = H[q]? := fun q hq => by rw [← hH1, Array.getElem?_push, if_neg (Nat.ne_of_lt hq)]
    have hk : ∀ (k : Nat) (x : Nat × va_E), ws[k]? = some x → H1[x.1]? = H[x.1]? := fun k x hx => o1 x.1 ((hP k x hx).lt)
    refine kk H1 z1 ((hP.kept hk).app (fun k x hx => ?_)) (hD.push hP rfl hA) ⟨Nat.le_trans hS.1 (by omega), fun x h1 h2 => (o1 x (Nat.lt_of_lt_of_le h1 hS.1)).trans (hS.2.1 x h1 h2), hS.2.2⟩
    have hz : k < 1 := (List.getElem?_eq_some_iff.mp hx).1
    rw [show k = 0 by omega] at hx
    cases hx
    show H1[H.size]? = some (vp_cell _ _)
    rw [vp_cell_q]
    exact e1
theorem zz_aastZ (hexec : p.tables.exec = Jvm.exec) (hb : c.code = cc) (hK : va_K D cl tys s) (hP : va_P D cl ws H) (hD : va_D A ws) (hS : va_S A H0 H locs) (q0 t0 ci : Nat) {cA : ClassId} {r : vw_C} {n v : Nat} {vs : List Value} {f f' : Nat → Option Nat} (ha : ws[q0]? = some (a, .inl (cA, n, .inr (.inr (.inr (.inr f)))))) (ht : tys[t0]? = some (cA, .object r.1)) (hv : va_at D cl (v, .inr (ci, vs)) H) (hc : cl[ci]? = some r) {i : Int} (hi : 0 ≤ i ∧ i < n ∧ i ≤ 2147483647) (hf : va_up f i.toNat (some v) = f') (hdg : decode cc pc = .ok (.aastore, 1))
    (kk : ∀ (H1 : Heap) (locs1 : List Loc), H1.size = H.size → va_P D cl (ws.set q0 (a, .inl (cA, n, .inr (.inr (.inr (.inr f')))))) H1 → va_D A (ws.set q0 (a, .inl (cA, n, .inr (.inr (.inr (.inr f')))))) → va_S A H0 H1 locs1 → W p l e R s m args below meth c H1 locs1 cells slots Q (F0 m (pc + 1) ls rest)) : W p l e R s m args below meth c H locs cells slots Q (F0 m pc ls (.ref v :: .int (zz_I i) :: .ref a :: rest)) := by
  subst hf
  have hin := zz_in hi
  have ec : (zz_I i).toNatClampNeg = i.toNat := zz_cl (by omega)
  have hlt : (zz_I i).toNatClampNeg < n := Nat.not_le.mp fun q => hin (Or.inr q)
  have h0 : ¬ zz_I i < 0 := fun q => hin (Or.inl q)
  obtain ⟨r', hr', cellV, g1, g2, g3, -⟩ := hv
  have hcls := (hK.1 ci r hc).2
  obtain ⟨kA, comp, k1, k2, k3, -⟩ := (hK.2 t0 _ ht).2
  have hcomp : comp = D.1 ci := Option.some.inj (k3.symm.trans hcls.1)
  subst hcomp
  obtain ⟨kC, hkC, -⟩ := hcls.2
  refine W.aast hexec hb (hP q0 _ ha) (fun q h => by cases h) (fun h => by cases h) k1 k2 rfl hkC ⟨h0, by show _ < (arrV _ _ _).slots.size; rw [arrV_size]; exact hlt⟩ g1 (fun q h => by rw [g3] at h; cases h) (by rw [g2]; exact hkC) (by rw [g2]; exact va_assign hcls) rfl rfl hdg fun H1 e z oq => ?_
  refine kk H1 _ z (hP.set hD ha ?_ oq) (hD.set ha) (hS.put z oq (hD.2 q0 _ ha))
  show H1[a]? = some (vp_cell _ _)
  rw [e]
  rw [vp_cell_q, vp_cell_q, arrV_store, ec]
  congr 2
  funext q
  by_cases hq : q = i.toNat
  · subst hq
    simp [updV, va_up, va_rf]
  · simp [updV, va_up, hq]
end ZM
def ck_n0 (sz j : Nat) : zz_Wt := (sz + 1 + 5 * j, sz + 1 + 5 * j + 1, sz + 1 + 5 * j + 1 + 1, 0, ck_z, sz + 1 + 5 * j + 1 + 2, sz + 1 + 5 * j + 1 + 3, 0, ck_z)
def ck_nl (cI : ClassId) (sz : Nat) : Nat → va_W
  | 0 => []
  | i + 1 => ck_nl cI sz i ++ zz_wr cI (ck_n0 sz i)
def ck_f0 (sz i : Nat) : Nat → Option Nat := fun j => if j < i then some (ck_n0 sz j).1 else none
theorem ck_f0_s {sz i : Nat} : va_up (ck_f0 sz i) i (some (sz + 1 + 5 * i)) = ck_f0 sz (i + 1) := by
  funext j
  unfold va_up ck_f0
  by_cases e : j = i
  · subst e
    rw [if_pos rfl, if_pos (by omega)]
    rfl
  · rw [if_neg e]
    by_cases e2 : j < i
    · rw [if_pos e2, if_pos (by omega)]
    · rw [if_neg e2, if_neg (by omega)]
theorem ck_nl_in {D : va_G} {cI : ClassId} {sz : Nat} {H : Heap} : ∀ i, va_P D kcl (ck_nl cI sz i) H → ∀ j, j < i → va_P D kcl (zz_wr cI (ck_n0 sz j)) H
  | 0, _, j, hj => absurd hj (Nat.not_lt_zero j)
  | i + 1, h, j, hj => by
    have h : va_P D kcl (ck_nl cI sz i ++ zz_wr cI (ck_n0 sz i)) H := h
    rcases Nat.lt_or_eq_of_le (Nat.le_of_lt_succ hj) with q | q
    · exact ck_nl_in i (fun k x hk => h k x (by rw [List.getElem?_append_left (List.getElem?_eq_some_iff.mp hk).1]; exact hk)) j q
    · subst q
      exact fun k x hk => h ((ck_nl cI sz j).length + k) x (by rw [List.getElem?_append_right (by omega), Nat.add_sub_cancel_left]; exact hk)
theorem ck_nl_ad {cI : ClassId} {sz : Nat} : ∀ i, (ck_nl cI sz i).map (fun q => q.1) = (List.range (5 * i)).map (fun j => sz + 1 + j)
  | 0 => rfl
  | i + 1 => by
    show (ck_nl cI sz i ++ zz_wr cI (ck_n0 sz i)).map (fun q => q.1) = _
    rw [List.map_append, ck_nl_ad i, show 5 * (i + 1) = 5 * i + 1 + 1 + 1 + 1 + 1 by omega, List.range_succ, List.range_succ, List.range_succ, List.range_succ, List.range_succ]
    simp [zz_wr, ck_n0]
    omega
theorem ck_nl_D {cI : ClassId} {sz : Nat} {e : va_E} : va_D (fun q => sz ≤ q) ((sz, e) :: ck_nl cI sz 12) := by
  refine zz_Dr (js := 0 :: (List.range 60).map (fun j => j + 1)) (by decide +kernel) ?_
  show sz :: (ck_nl cI sz 12).map (fun q => q.1) = (sz + 0) :: _
  rw [ck_nl_ad 12, List.map_map]
  congr 1
