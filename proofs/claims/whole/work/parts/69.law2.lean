/-! What a call leaves on both sides, and that the answers are the same. -/
def zl_T (n : Nat) (g : Nat → Int) (m : Nat) (h T Sz : Nat → Int) : Prop := n ≤ 48 ∧ ck_ok g n ∧ ck_eq (m, h) (ck_KN g n, ck_KF g n) ∧ Sz 12 = ((n : Nat) : Int) ∧ ∀ q, q < n → T (576 + q) = g q
section LW2
variable {n m k : Nat} {g h T Sz : Nat → Int} {nm : Nat → zz_Wt}
theorem zl_type {x9 : Int64} {t : Int} (hT : zl_T n g m h T Sz) (hk : k ≤ 12) (hR : ck_R nm k T Sz) {u : Int × Nat × (Nat → Int) × Nat × (Nat → Int) × Nat × (Nat → Int) × (Nat → Int64)} {v : Int × Int × (Nat → Int) × (Nat → Int)} (hu : (¬ (1 ≤ t ∧ t ≤ 8 ∧ ck_bad x9 t.toNat = false) ∧ u.1 = 1 ∧ u.2.1 = n ∧ u.2.2.1 = g ∧ u.2.2.2.1 = m ∧ u.2.2.2.2.1 = h) ∨ ((1 ≤ t ∧ t ≤ 8 ∧ ck_bad x9 t.toNat = false) ∧ 48 < ((n : Nat) : Int) + t ∧ u.1 = 2 ∧ u.2.1 = n ∧ u.2.2.1 = g ∧ u.2.2.2.1 = m ∧ u.2.2.2.2.1 = h) ∨ ((1 ≤ t ∧ t ≤ 8 ∧ ck_bad x9 t.toNat = false) ∧ ((n : Nat) : Int) + t ≤ 48 ∧ u.1 = 0 ∧ u.2.1 = n + t.toNat ∧ u.2.2.1 = ck_tb g x9 n t.toNat t.toNat ∧ ck_eq (u.2.2.2.1, u.2.2.2.2.1) (ck_KN (ck_tb g x9 n t.toNat t.toNat) (n + t.toNat), ck_KF (ck_tb g x9 n t.toNat t.toNat) (n + t.toNat)) ∧ u.2.2.2.2.2.2.2 0 = (zz_I ((n + t.toNat : Nat) : Int)).toInt64)) (hv : (¬ (1 ≤ t ∧ t ≤ 8 ∧ ck_bad x9 t.toNat = false) ∧ v = (1, 0, T, Sz)) ∨ ((1 ≤ t ∧ t ≤ 8 ∧ ck_bad x9 t.toNat = false) ∧ 48 < ((n : Nat) : Int) + t ∧ v = (2, 0, T, Sz)) ∨ ((1 ≤ t ∧ t ≤ 8 ∧ ck_bad x9 t.toNat = false) ∧ ((n : Nat) : Int) + t ≤ 48 ∧ v = (0, ((n + t.toNat : Nat) : Int), ck_ty T x9 n t.toNat t.toNat, zz_u Sz 12 ((n + t.toNat : Nat) : Int)))) : v.1 = u.1 ∧ (0 ≤ u.1 ∧ u.1 ≤ 2) ∧ (u.1 = 0 → u.2.2.2.2.2.2.2 0 = (zz_I v.2.1).toInt64) ∧ zl_T u.2.1 u.2.2.1 u.2.2.2.1 u.2.2.2.2.1 v.2.2.1 v.2.2.2 ∧ ck_R nm k v.2.2.1 v.2.2.2 := by
  obtain ⟨t1, t2, t3, t4, t5⟩ := hT
  rcases hu with ⟨a, b, c1, c2, c3, c4⟩ | ⟨a, a2, b, c1, c2, c3, c4⟩ | ⟨a, a2, b, c1, c2, c3, c4⟩
  · rcases hv with ⟨a', e⟩ | ⟨a', b', e⟩ | ⟨a', b', e⟩
    · rw [e, b, c1, c2, c3, c4]
      exact ⟨rfl, ⟨by decide, by decide⟩, fun q => absurd q (by decide), ⟨t1, t2, t3, t4, t5⟩, hR⟩
    · exact absurd a' a
    · exact absurd a' a
  · rcases hv with ⟨a', e⟩ | ⟨a', b', e⟩ | ⟨a', b', e⟩
    · exact absurd a a'
    · rw [e, b, c1, c2, c3, c4]
      exact ⟨rfl, ⟨by decide, by decide⟩, fun q => absurd q (by decide), ⟨t1, t2, t3, t4, t5⟩, hR⟩
    · exact absurd b' (by omega)
  · rcases hv with ⟨a', e⟩ | ⟨a', b', e⟩ | ⟨a', b', e⟩
    · exact absurd a a'
    · exact absurd b' (by omega)
    · rw [e, b, c1, c2]
      refine ⟨rfl, ⟨by decide, by decide⟩, fun _ => c4, ⟨by omega, ck_tb_ok t2 a.2.2, c3, (show zz_u Sz 12 _ 12 = _ from zz_us), ck_ty_tb t5⟩, ck_R_mono hR hk (fun q hq => ck_ty_lo hq) (fun j hj => zz_un (by omega))⟩
theorem zl_ranked {p : Int} (hR : ck_R nm k T Sz) {u : Int × (Nat → Int64)} {v : Int × Int × (Nat → Int) × (Nat → Int) × (Nat → Int)} (hu : ((0 ≤ p ∧ p < ((k : Nat) : Int)) ∧ u.1 = 0 ∧ u.2 0 = (zz_I (ck_fst (fun j => decide (((ck_plc nm j k : Nat) : Int) = p)) 0 k)).toInt64) ∨ (¬ (0 ≤ p ∧ p < ((k : Nat) : Int)) ∧ u.1 = 1)) (hv : (ck_fst (fun j => decide (((ck_rk T (ck_nn nm) j k : Nat) : Int) = p)) 0 k = -1 ∧ v.1 = 1 ∧ v.2.1 = 0) ∨ (¬ ck_fst (fun j => decide (((ck_rk T (ck_nn nm) j k : Nat) : Int) = p)) 0 k = -1 ∧ v.1 = 0 ∧ v.2.1 = ck_fst (fun j => decide (((ck_rk T (ck_nn nm) j k : Nat) : Int) = p)) 0 k)) : v.1 = u.1 ∧ (0 ≤ u.1 ∧ u.1 ≤ 1) ∧ (u.1 = 0 → u.2 0 = (zz_I (v.2.1)).toInt64) := by
  rcases hu with ⟨a, b, c⟩ | ⟨a, b⟩
  · rcases hv with ⟨a', b', c'⟩ | ⟨a', b', c'⟩
    · exact absurd a' (ck_R_ranked_yes hR a)
    · rw [b, b', c']
      exact ⟨rfl, ⟨by decide, by decide⟩, fun _ => by rw [c, ck_R_ranked hR]⟩
  · rcases hv with ⟨a', b', c'⟩ | ⟨a', b', c'⟩
    · rw [b, b']
      exact ⟨rfl, ⟨by decide, by decide⟩, fun q => absurd q (by decide)⟩
    · exact absurd (ck_R_ranked_no hR a) a'
theorem zl_nameAt {p : Int} {i : Int} (hR : ck_R nm k T Sz) {u : Int × (Nat → Int64)} {v : Int × Int} (hu : ((0 ≤ p ∧ p < ((k : Nat) : Int)) ∧ u.1 = 0 ∧ u.2 0 = (zz_I (ck_ri ((nm p.toNat).2.2.2.2.1) ((nm p.toNat).2.2.2.1) i)).toInt64) ∨ (¬ (0 ≤ p ∧ p < ((k : Nat) : Int)) ∧ u.1 = 1)) (hv : (¬ (0 ≤ p ∧ p < ((k : Nat) : Int)) ∧ v.1 = 1 ∧ v.2 = 0) ∨ ((0 ≤ p ∧ p < ((k : Nat) : Int)) ∧ v.1 = 0 ∧ v.2 = ck_ri (ck_tx T p.toNat) ((ck_nn nm) p.toNat) i)) : v.1 = u.1 ∧ (0 ≤ u.1 ∧ u.1 ≤ 1) ∧ (u.1 = 0 → u.2 0 = (zz_I (v.2)).toInt64) := by
  rcases hu with ⟨a, b, c⟩ | ⟨a, b⟩
  · rcases hv with ⟨a', b', c'⟩ | ⟨a', b', c'⟩
    · exact absurd a a'
    · rw [b, b', c']
      exact ⟨rfl, ⟨by decide, by decide⟩, fun _ => by rw [c, ck_ri_cong (ck_R_tx hR (j := p.toNat) (by omega))]⟩
  · rcases hv with ⟨a', b', c'⟩ | ⟨a', b', c'⟩
    · rw [b, b']
      exact ⟨rfl, ⟨by decide, by decide⟩, fun q => absurd q (by decide)⟩
    · exact absurd a' a
theorem zl_alike {p : Int} (hT : zl_T n g m h T Sz) (hR : ck_R nm k T Sz) {u : Int × (Nat → Int64)} {v : Int × Int × (Nat → Int) × (Nat → Int) × (Nat → Int)} (hu : ((0 ≤ p ∧ p < ((k : Nat) : Int)) ∧ u.1 = 0 ∧ u.2 0 = (zz_I (ck_lkn g n h m ((nm p.toNat).2.2.2.2.1) ((nm p.toNat).2.2.2.1) ((nm p.toNat).2.2.2.2.2.2.2.2) ((nm p.toNat).2.2.2.2.2.2.2.1))).toInt64) ∨ (¬ (0 ≤ p ∧ p < ((k : Nat) : Int)) ∧ u.1 = 1)) (hv : (¬ (0 ≤ p ∧ p < ((k : Nat) : Int)) ∧ v.1 = 1 ∧ v.2.1 = 0) ∨ ((0 ≤ p ∧ p < ((k : Nat) : Int)) ∧ v.1 = 0 ∧ v.2.1 = ck_alk g n (ck_tx T p.toNat) ((ck_nn nm) p.toNat))) : v.1 = u.1 ∧ (0 ≤ u.1 ∧ u.1 ≤ 1) ∧ (u.1 = 0 → u.2 0 = (zz_I (v.2.1)).toInt64) := by
  rcases hu with ⟨a, b, c⟩ | ⟨a, b⟩
  · rcases hv with ⟨a', b', c'⟩ | ⟨a', b', c'⟩
    · exact absurd a a'
    · rw [b, b', c']
      exact ⟨rfl, ⟨by decide, by decide⟩, fun _ => by rw [c, ck_R_alike hR hT.2.1 hT.2.2.1 (p := p.toNat) (by omega)]⟩
  · rcases hv with ⟨a', b', c'⟩ | ⟨a', b', c'⟩
    · rw [b, b']
      exact ⟨rfl, ⟨by decide, by decide⟩, fun q => absurd q (by decide)⟩
    · exact absurd a' a
theorem zl_word {i c : Int} (hT : zl_T n g m h T Sz) (hk : k ≤ 12) (hR : ck_R nm k T Sz) {u : Int × Nat × (Nat → Int) × (Nat → Int) × Nat × (Nat → Int) × Nat × (Nat → Int) × Nat × (Nat → Int) × Nat × (Nat → Int) × Nat × (Nat → Int) × (Nat → Int64)} {v : Int × Int × (Nat → Int) × (Nat → Int) × (Nat → Int) × (Nat → Int) × (Nat → Int) × Nat} (hu : ((0 ≤ i ∧ i < ((ck_wc g n : Nat) : Int) ∧ 0 ≤ c ∧ c ≤ 3) ∧ u.1 = 0 ∧ u.2.2.2.2.2.2.2.2.2.2.2.2.2.2 0 = (zz_I (ck_wvc g n nm k i.toNat c)).toInt64) ∨ (¬ (0 ≤ i ∧ i < ((ck_wc g n : Nat) : Int) ∧ 0 ≤ c ∧ c ≤ 3) ∧ u.1 = 1)) (hv : (∀ q, q < 624 → v.2.2.1 q = T q) ∧ (∀ j, j < 13 → v.2.2.2.1 j = Sz j) ∧ ((¬ (0 ≤ i ∧ i < ((ck_wc g n : Nat) : Int) ∧ 0 ≤ c ∧ c ≤ 3) ∧ v.1 = 1 ∧ v.2.1 = 0) ∨ ((0 ≤ i ∧ i < ((ck_wc g n : Nat) : Int) ∧ 0 ≤ c ∧ c ≤ 3) ∧ v.1 = 0 ∧ v.2.1 = ck_wv g n T (ck_nn nm) k i.toNat c))) : v.1 = u.1 ∧ (0 ≤ u.1 ∧ u.1 ≤ 1) ∧ (u.1 = 0 → u.2.2.2.2.2.2.2.2.2.2.2.2.2.2 0 = (zz_I v.2.1).toInt64) ∧ zl_T n g m h v.2.2.1 v.2.2.2.1 ∧ ck_R nm k v.2.2.1 v.2.2.2.1 := by
  obtain ⟨t1, t2, t3, t4, t5⟩ := hT
  obtain ⟨q1, q2, hv⟩ := hv
  have r1 : zl_T n g m h v.2.2.1 v.2.2.2.1 := ⟨t1, t2, t3, (q2 12 (by omega)).trans t4, fun q hq => (q1 (576 + q) (by omega)).trans (t5 q hq)⟩
  have r2 : ck_R nm k v.2.2.1 v.2.2.2.1 := ck_R_mono hR hk (fun q hq => q1 q (by omega)) (fun j hj => q2 j (by omega))
  rcases hu with ⟨a, b, d⟩ | ⟨a, b⟩
  · rcases hv with ⟨a', b', c'⟩ | ⟨a', b', c'⟩
    · exact absurd a a'
    · rw [b, b', c']
      exact ⟨rfl, ⟨by decide, by decide⟩, fun _ => by rw [d, ck_R_word hR t2 (i := i.toNat) (ck_wl_in (by omega)).2], r1, r2⟩
  · rcases hv with ⟨a', b', c'⟩ | ⟨a', b', c'⟩
    · rw [b, b']
      exact ⟨rfl, ⟨by decide, by decide⟩, fun q => absurd q (by decide), r1, r2⟩
    · exact absurd a' a
theorem zl_withdraw {p : Int} (hT : zl_T n g m h T Sz) (hk : k ≤ 12) (hR : ck_R nm k T Sz) {u : Int × Nat × (Nat → zz_Wt) × (Nat → Int64)} {v : Int × Int × Nat × (Nat → Int) × (Nat → Int)} (hu : ((0 ≤ p ∧ p < ((k : Nat) : Int)) ∧ u.1 = 0 ∧ u.2.1 = k - 1 ∧ u.2.2.1 = ck_drp nm p.toNat k ∧ u.2.2.2 0 = (zz_I ((k - 1 : Nat) : Int)).toInt64) ∨ (¬ (0 ≤ p ∧ p < ((k : Nat) : Int)) ∧ u.1 = 1 ∧ u.2.1 = k ∧ u.2.2.1 = nm)) (hv : (¬ (0 ≤ p ∧ p < ((k : Nat) : Int)) ∧ v = (1, 0, k, T, Sz)) ∨ ((0 ≤ p ∧ p < ((k : Nat) : Int)) ∧ v = (0, ((k - 1 : Nat) : Int), k - 1, ck_sh T (48 * p.toNat) (48 * (k - 1)), ck_s1 Sz p.toNat (k - 1)))) : v.1 = u.1 ∧ (0 ≤ u.1 ∧ u.1 ≤ 1) ∧ (u.1 = 0 → u.2.2.2 0 = (zz_I v.2.1).toInt64) ∧ v.2.2.1 = u.2.1 ∧ u.2.1 ≤ 12 ∧ zl_T n g m h v.2.2.2.1 v.2.2.2.2 ∧ ck_R u.2.2.1 u.2.1 v.2.2.2.1 v.2.2.2.2 ∧ (u.2.2.1 = nm ∨ ∃ q, q < k ∧ u.2.2.1 = ck_drp nm q k) := by
  obtain ⟨t1, t2, t3, t4, t5⟩ := hT
  rcases hu with ⟨a, b, d1, d2, d3⟩ | ⟨a, b, d1, d2⟩
  · rcases hv with ⟨a', e⟩ | ⟨a', e⟩
    · exact absurd a a'
    · rw [e, b, d1, d2]
      refine ⟨rfl, ⟨by decide, by decide⟩, fun _ => d3, rfl, by omega, ⟨t1, t2, t3, ?_, fun q hq => ?_⟩, ck_R_drop hR (by omega), Or.inr ⟨p.toNat, by omega, rfl⟩⟩
      · exact (ck_s1_hi (by omega)).trans t4
      · exact (ck_sh_hi (by omega)).trans (t5 q hq)
  · rcases hv with ⟨a', e⟩ | ⟨a', e⟩
    · rw [e, b, d1, d2]
      exact ⟨rfl, ⟨by decide, by decide⟩, fun q => absurd q (by decide), rfl, hk, ⟨t1, t2, t3, t4, t5⟩, hR, Or.inl rfl⟩
    · exact absurd a' a
theorem zl_reg1 (hid : ck_id g n = false) {v : Int × Int × Nat × (Nat → Int) × (Nat → Int)} (hv : (ck_id g n = false ∧ v = (1, 0, k, T, Sz)) ∨ (ck_id g n = true ∧ (k = 12 ∨ ck_anyN (fun j => ck_sm n ((ck_nn nm) j) g (ck_tx T j) n) k = true) ∧ v = (2, 0, k, T, Sz)) ∨ (ck_id g n = true ∧ k < 12 ∧ ck_anyN (fun j => ck_sm n ((ck_nn nm) j) g (ck_tx T j) n) k = false ∧ v = (0, ((k + 1 : Nat) : Int), k + 1, ck_tc T 0 k n, zz_u Sz k ((n : Nat) : Int)))) : v = (1, 0, k, T, Sz) := by
  rcases hv with ⟨a, e⟩ | ⟨a, -, e⟩ | ⟨a, -, -, e⟩
  · exact e
  · rw [hid] at a; exact Bool.noConfusion a
  · rw [hid] at a; exact Bool.noConfusion a
theorem zl_reg2 {w r x q z : Nat} (hR : ck_R nm k T Sz) (hid : ck_id g n = true) (hno : k = 12 ∨ ck_anyN (fun j => ck_nsm (nm j) (w, r, x, n, g, q, z, m, h)) k = true) {v : Int × Int × Nat × (Nat → Int) × (Nat → Int)} (hv : (ck_id g n = false ∧ v = (1, 0, k, T, Sz)) ∨ (ck_id g n = true ∧ (k = 12 ∨ ck_anyN (fun j => ck_sm n ((ck_nn nm) j) g (ck_tx T j) n) k = true) ∧ v = (2, 0, k, T, Sz)) ∨ (ck_id g n = true ∧ k < 12 ∧ ck_anyN (fun j => ck_sm n ((ck_nn nm) j) g (ck_tx T j) n) k = false ∧ v = (0, ((k + 1 : Nat) : Int), k + 1, ck_tc T 0 k n, zz_u Sz k ((n : Nat) : Int)))) : v = (2, 0, k, T, Sz) := by
  rw [ck_R_holds hR] at hno
  rcases hv with ⟨a, e⟩ | ⟨a, -, e⟩ | ⟨a, b, d, e⟩
  · rw [hid] at a; exact Bool.noConfusion a
  · exact e
  · rcases hno with h9 | h9
    · omega
    · rw [d] at h9; exact Bool.noConfusion h9
theorem zl_reg0 {w r x q z : Nat} (hR : ck_R nm k T Sz) (hid : ck_id g n = true) (hk : k < 12) (hnh : ck_anyN (fun j => ck_nsm (nm j) (w, r, x, n, g, q, z, m, h)) k = false) {v : Int × Int × Nat × (Nat → Int) × (Nat → Int)} (hv : (ck_id g n = false ∧ v = (1, 0, k, T, Sz)) ∨ (ck_id g n = true ∧ (k = 12 ∨ ck_anyN (fun j => ck_sm n ((ck_nn nm) j) g (ck_tx T j) n) k = true) ∧ v = (2, 0, k, T, Sz)) ∨ (ck_id g n = true ∧ k < 12 ∧ ck_anyN (fun j => ck_sm n ((ck_nn nm) j) g (ck_tx T j) n) k = false ∧ v = (0, ((k + 1 : Nat) : Int), k + 1, ck_tc T 0 k n, zz_u Sz k ((n : Nat) : Int)))) : v = (0, ((k + 1 : Nat) : Int), k + 1, ck_tc T 0 k n, zz_u Sz k ((n : Nat) : Int)) := by
  rw [ck_R_holds hR] at hnh
  rcases hv with ⟨a, e⟩ | ⟨a, b, e⟩ | ⟨a, b, d, e⟩
  · rw [hid] at a; exact Bool.noConfusion a
  · rcases b with h9 | h9
    · omega
    · rw [hnh] at h9; exact Bool.noConfusion h9
  · exact e
theorem zl_regT (hT : zl_T n g m h T Sz) (hk : k < 12) : zl_T n g m h (ck_tc T 0 k n) (zz_u Sz k ((n : Nat) : Int)) :=
  ⟨hT.1, hT.2.1, hT.2.2.1, (zz_un (by omega)).trans hT.2.2.2.1, fun q hq => (ck_tc_hi (by have := hT.1; omega)).trans (hT.2.2.2.2 q hq)⟩
theorem zl_T_h (hT : zl_T n g m h T Sz) : m ≤ 144 ∧ ck_ok h m := by
  have e : m = ck_KN g n := hT.2.2.1.1
  have := ck_KN_le hT.2.1
  exact ⟨by have := hT.1; omega, ck_eq_ok (n := 0) hT.2.2.1 (ck_ok_K hT.2.1)⟩
end LW2
