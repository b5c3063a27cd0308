/-! One skeleton for a text, whatever lay in the rows before; comparing rows. -/
def ck_z : Nat → Int := fun _ => 0
def ck_KN (G : Nat → Int) (n : Nat) : Nat := (ck_bv (ck_av G ck_z n).2 ck_z (ck_av G ck_z n).1).1
def ck_KF (G : Nat → Int) (n : Nat) : Nat → Int := (ck_bv (ck_av G ck_z n).2 ck_z (ck_av G ck_z n).1).2
theorem ck_k_K {G f : Nat → Int} {n : Nat} (hg : ck_ok G n) : ck_eq (ck_kN G f n, ck_kF G f n) (ck_KN G n, ck_KF G n) := ck_kF_eq hg
theorem ck_av_eq {G a b : Nat → Int} : ∀ n, ck_eq (ck_av G a n) (ck_av G b n)
  | 0 => ⟨rfl, fun j hj => absurd hj (Nat.not_lt_zero j)⟩
  | n + 1 => by
    unfold ck_av
    split
    · exact ck_av_eq n
    · exact ck_ap_eq (ck_av_eq n)
theorem ck_b_K {G a b : Nat → Int} {n : Nat} : ck_eq (ck_bv (ck_av G a n).2 b (ck_av G a n).1) (ck_KN G n, ck_KF G n) := by
  have h := ck_av_eq (G := G) (a := a) (b := ck_z) n
  refine ck_eq_tr (ck_bv_eq2 (d := ck_z) _) ?_
  rw [ck_bv_eq (h := (ck_av G ck_z n).2) _ (fun j hj => h.2 j hj), h.1]
  exact ck_eq_rf _
theorem ck_ri_eq {g g' : Nat → Int} {n : Nat} (h : ∀ j, j < n → g j = g' j) (i : Int) : ck_ri g n i = ck_ri g' n i := by
  unfold ck_ri
  split
  · exact h i.toNat (by omega)
  · rfl
theorem ck_sp_eq {g g' h h' : Nat → Int} {n m : Nat} (e1 : ∀ j, j < n → g j = g' j) (e2 : ∀ j, j < m → h j = h' j) : ∀ r i, i + r ≤ n → ck_sp g n h m i r = ck_sp g' n h' m i r
  | 0, i, _ => rfl
  | r + 1, i, hr => by
    unfold ck_sp
    by_cases q : i < m
    · rw [e1 i (by omega), e2 i q, ck_sp_eq e1 e2 r (i + 1) (by omega)]
    · rw [if_neg (fun z => q z.1), if_neg (fun z => q z.1)]
theorem ck_cd_eq {g g' h h' : Nat → Int} {n n' m m' : Nat} (e1 : ck_eq (n, g) (n', g')) (e2 : ck_eq (m, h) (m', h')) : ck_cd g n h m = ck_cd g' n' h' m' := by
  obtain ⟨a1, a2⟩ := e1
  obtain ⟨b1, b2⟩ := e2
  dsimp only at a1 a2 b1 b2
  subst a1
  subst b1
  unfold ck_cd ck_df
  rw [ck_sp_eq a2 b2 n 0 (by omega), ck_ri_eq a2, ck_ri_eq b2]
def ck_cc (G : Nat → Int) (n : Nat) (G2 : Nat → Int) (n2 : Nat) : Int := ck_cd (ck_KF G n) (ck_KN G n) (ck_KF G2 n2) (ck_KN G2 n2)
theorem ck_cc_of {G f G2 f2 : Nat → Int} {n n2 i : Nat} (hg : ck_ok G n) (hg2 : ck_ok G2 n2) (hs : ck_sp (ck_kF G f n) (ck_kN G f n) (ck_kF G2 f2 n2) (ck_kN G2 f2 n2) 0 (ck_kN G f n) = i) : ck_ri (ck_kF G f n) (ck_kN G f n) ((i : Nat) : Int) - ck_ri (ck_kF G2 f2 n2) (ck_kN G2 f2 n2) ((i : Nat) : Int) = ck_cc G n G2 n2 := by
  have h := ck_cd_eq (ck_k_K (f := f) hg) (ck_k_K (f := f2) hg2)
  unfold ck_cc
  rw [← h]
  unfold ck_cd ck_df
  rw [hs]
theorem ck_ok_K {G : Nat → Int} {n : Nat} (hg : ck_ok G n) : ck_ok (ck_KF G n) (ck_KN G n) := by
  have h := ck_k_K (f := ck_z) hg
  have h2 := ck_kF_ok (f := ck_z) hg
  intro k hk
  rw [← show ck_kF G ck_z n k = ck_KF G n k from h.2 k (by show k < ck_kN G ck_z n; rw [show ck_kN G ck_z n = ck_KN G n from h.1]; exact hk)]
  exact h2 k (by rw [show ck_kN G ck_z n = ck_KN G n from h.1]; exact hk)
theorem ck_cc_rg {G G2 : Nat → Int} {n n2 : Nat} (hg : ck_ok G n) (hg2 : ck_ok G2 n2) : -128 ≤ ck_cc G n G2 n2 ∧ ck_cc G n G2 n2 ≤ 128 := by
  unfold ck_cc ck_cd ck_df
  have h1 := ck_ri_rg (ck_ok_K hg) ((ck_sp (ck_KF G n) (ck_KN G n) (ck_KF G2 n2) (ck_KN G2 n2) 0 (ck_KN G n) : Nat) : Int)
  have h2 := ck_ri_rg (ck_ok_K hg2) ((ck_sp (ck_KF G n) (ck_KN G n) (ck_KF G2 n2) (ck_KN G2 n2) 0 (ck_KN G n) : Nat) : Int)
  omega
def ck_tx (T : Nat → Int) (x : Nat) : Nat → Int := fun q => T (48 * x + q)
def ck_ml (G : Nat → Int) (n : Nat) (G2 : Nat → Int) (n2 : Nat) : Bool := !ck_sm n n2 G G2 n && decide (ck_cc G n G2 n2 = 0)
theorem ck_ml_y {G G2 : Nat → Int} {n n2 : Nat} (a : ck_sm n n2 G G2 n = false) (b : ck_cc G n G2 n2 = 0) : ck_ml G n G2 n2 = true := by
  unfold ck_ml
  rw [a, decide_eq_true b]
  rfl
theorem ck_ml_n1 {G G2 : Nat → Int} {n n2 : Nat} (a : ck_sm n n2 G G2 n = true) : ck_ml G n G2 n2 = false := by
  unfold ck_ml
  rw [a]
  rfl
theorem ck_ml_n2 {G G2 : Nat → Int} {n n2 : Nat} (b : ¬ ck_cc G n G2 n2 = 0) : ck_ml G n G2 n2 = false := by
  unfold ck_ml
  rw [decide_eq_false b, Bool.and_false]
-- counting against looking
theorem ck_cnt_any {lo hi : Int} {P : Int → Bool} {g : Nat → Int} (hP : ∀ c, P c = decide (lo ≤ c ∧ c ≤ hi)) : ∀ n, (0 < ck_cnt lo hi g n) ↔ ck_any P g n = true
  | 0 => by
    unfold ck_cnt ck_any
    exact ⟨fun h => absurd h (Nat.lt_irrefl 0), fun h => Bool.noConfusion h⟩
  | n + 1 => by
    have ih := ck_cnt_any (g := g) hP n
    unfold ck_cnt ck_any
    rw [Bool.or_eq_true, ← ih, hP, decide_eq_true_iff]
    split
    · rename_i h
      exact ⟨fun _ => Or.inr h, fun _ => by omega⟩
    · rename_i h
      exact ⟨fun h1 => Or.inl (by omega), fun h1 => h1.elim (fun h2 => by omega) (fun h2 => absurd h2 h)⟩
theorem ck_cnt_le (lo hi : Int) (g : Nat → Int) : ∀ n, ck_cnt lo hi g n ≤ n
  | 0 => Nat.le_refl _
  | n + 1 => by
    have ih := ck_cnt_le lo hi g n
    unfold ck_cnt
    split <;> omega
theorem ck_cnt_plain {g : Nat → Int} : ∀ n, ck_cnt 0 15 g n + ck_cnt 96 99 g n + ck_cnt 112 114 g n ≤ n ∧ (ck_cnt 0 15 g n + ck_cnt 96 99 g n + ck_cnt 112 114 g n = n ↔ ck_any ck_npl g n = false)
  | 0 => ⟨Nat.le_refl _, by unfold ck_cnt ck_any; exact ⟨fun _ => rfl, fun _ => rfl⟩⟩
  | n + 1 => by
    obtain ⟨h1, h2⟩ := ck_cnt_plain (g := g) n
    by_cases h : (0 ≤ g n ∧ g n ≤ 15) ∨ (96 ≤ g n ∧ g n ≤ 99) ∨ (112 ≤ g n ∧ g n ≤ 114)
    · have e : (if 0 ≤ g n ∧ g n ≤ 15 then 1 else 0) + (if 96 ≤ g n ∧ g n ≤ 99 then 1 else 0) + (if 112 ≤ g n ∧ g n ≤ 114 then 1 else 0) = (1 : Nat) := by
        repeat' split
        all_goals omega
      have e2 : ck_npl (g n) = false := by unfold ck_npl; rw [show ck_plain (g n) = true from decide_eq_true h]; rfl
      unfold ck_cnt ck_any
      rw [e2, Bool.or_false, ← h2]
      omega
    · have e : (if 0 ≤ g n ∧ g n ≤ 15 then 1 else 0) + (if 96 ≤ g n ∧ g n ≤ 99 then 1 else 0) + (if 112 ≤ g n ∧ g n ≤ 114 then 1 else 0) = (0 : Nat) := by
        repeat' split
        all_goals omega
      have e2 : ck_npl (g n) = true := by unfold ck_npl; rw [show ck_plain (g n) = false from decide_eq_false h]; rfl
      unfold ck_cnt ck_any
      rw [e2, Bool.or_true]
      refine ⟨by omega, fun q => absurd q (by omega), fun q => Bool.noConfusion q⟩
section LV2
variable {g : Nat → Int} {n : Nat}
theorem ck_le_f (h : ¬ 0 < ck_cnt 115 123 g n) : ck_any ck_forb g n = false := by
  have := ck_cnt_any (g := g) (P := ck_forb) (lo := 115) (hi := 123) (fun c => rfl) n
  cases e : ck_any ck_forb g n with
  | false => rfl
  | true => exact absurd (this.mpr e) h
theorem ck_le_t (h : 0 < ck_cnt 115 123 g n) : ck_any ck_forb g n = true := (ck_cnt_any (g := g) (P := ck_forb) (lo := 115) (hi := 123) (fun c => rfl) n).mp h
theorem ck_le_p (h : ck_cnt 0 15 g n + ck_cnt 96 99 g n + ck_cnt 112 114 g n = n) : (!ck_any ck_npl g n) = true := by
  rw [(ck_cnt_plain n).2.mp h]
  rfl
theorem ck_le_q (h : ¬ ck_cnt 0 15 g n + ck_cnt 96 99 g n + ck_cnt 112 114 g n = n) : (!ck_any ck_npl g n) = false := by
  cases e : ck_any ck_npl g n with
  | true => rfl
  | false => exact absurd ((ck_cnt_plain n).2.mpr e) h
end LV2
-- where an identifier ends, as the reference finds it
theorem ck_pc_out {g : Nat → Int} {n p : Nat} (h : n ≤ p) : ck_pc g n p = 0 := by
  unfold ck_pc
  rw [ck_ri_out (by omega), if_neg (by decide), if_neg (fun q => absurd q.1 (by decide))]
theorem ck_ge_nil {g : Nat → Int} {n f e : Nat} (h : ck_pc g n e = 0) : ck_ge g n f e = e := ck_ge_out (by omega)
-- what a skeleton's making leaves alone
theorem ck_rw_out {iv : Bool} {G f : Nat → Int} : ∀ n j, (ck_rw iv G f n).1 ≤ j → (ck_rw iv G f n).2 j = f j
  | 0, j, _ => rfl
  | n + 1, j, h => by
    have ih := ck_rw_out (iv := iv) (G := G) (f := f) n j
    unfold ck_rw at h ⊢
    split at h
    · rename_i h1
      rw [if_pos h1]
      have h : (ck_rw iv G f n).1 + 1 + 1 ≤ j := h
      show zz_u (zz_u (ck_rw iv G f n).2 (ck_rw iv G f n).1 _) ((ck_rw iv G f n).1 + 1) _ j = f j
      rw [zz_un (by omega), zz_un (by omega), ih (by omega)]
    · rename_i h1
      rw [if_neg h1]
      split at h
      · rename_i h2
        rw [if_pos h2]
        exact ih h
      · rename_i h2
        rw [if_neg h2]
        have h : (ck_rw iv G f n).1 + 1 ≤ j := h
        show zz_u (ck_rw iv G f n).2 (ck_rw iv G f n).1 _ j = f j
        rw [zz_un (by omega), ih (by omega)]
theorem ck_pw_out {g a : Nat → Int} : ∀ n j, (ck_pw g a n).1 ≤ j → (ck_pw g a n).2 j = a j
  | 0, j, _ => rfl
  | n + 1, j, h => by
    have ih := ck_pw_out (g := g) (a := a) n j
    by_cases h1 : ck_p2 (g n) = -1
    · rw [ck_pw_1 h1] at h ⊢
      have h : (ck_pw g a n).1 + 1 ≤ j := h
      show zz_u (ck_pw g a n).2 (ck_pw g a n).1 _ j = a j
      rw [zz_un (by omega), ih (by omega)]
    · rw [ck_pw_2 h1] at h ⊢
      have h : (ck_pw g a n).1 + 1 + 1 ≤ j := h
      show zz_u (zz_u (ck_pw g a n).2 (ck_pw g a n).1 _) ((ck_pw g a n).1 + 1) _ j = a j
      rw [zz_un (by omega), zz_un (by omega), ih (by omega)]
theorem ck_kF_out {G f : Nat → Int} {n j : Nat} (h1 : ck_kN G f n ≤ j) (h2 : ck_aN false G f n ≤ j) : ck_kF G f n j = f j := by
  have e1 : ck_kF G f n j = (ck_pw (ck_aF false G f n) (ck_aF false G f n) (ck_aN false G f n)).2 j := ck_st_out _ _ j h1
  have e2 : (ck_pw (ck_aF false G f n) (ck_aF false G f n) (ck_aN false G f n)).2 j = ck_aF false G f n j := ck_pw_out _ j h1
  have e3 : ck_aF false G f n j = (ck_rw false G f n).2 j := ck_st_out _ _ j h2
  rw [e1, e2, e3, ck_rw_out n j h2]
def ck_mp (Rw Ln G : Nat → Int) (n r : Nat) (u : (Nat → Int) × (Nat → Int) × (Nat → Int)) : Prop :=
  (∀ q, q < 160 * r ∨ 160 * r + 160 ≤ q → u.1 q = Rw q) ∧ (∀ q, q < ck_KN G n → u.1 (160 * r + q) = ck_KF G n q) ∧ u.2.1 r = ((ck_KN G n : Nat) : Int) ∧ ∀ q, ¬ q = r → u.2.1 q = Ln q
theorem ck_mp_of {Rw Ln Od G f : Nat → Int} {n r : Nat} (hf : f = fun q => Rw (160 * r + q)) (hn : n ≤ 48) (hg : ck_ok G n) : ck_mp Rw Ln G n r (ck_bs (160 * r) Rw (ck_kF G f n), zz_u Ln r ((ck_kN G f n : Nat) : Int), Od) := by
  have h := ck_k_K (f := f) hg
  have e : ck_kN G f n = ck_KN G n := h.1
  have hk := ck_kN_le (G := G) (f := f) (n := n)
  have ha := ck_aN_le false G f n
  refine ⟨fun q hq => ?_, fun q hq => ?_, ?_, fun q hq => zz_un hq⟩
  · rcases hq with hq | hq
    · exact ck_bs_lo hq
    · show ck_bs (160 * r) Rw (ck_kF G f n) q = Rw q
      unfold ck_bs
      rw [if_pos (by omega), ck_kF_out (by omega) (by omega), hf]
      show Rw (160 * r + (q - 160 * r)) = Rw q
      rw [show 160 * r + (q - 160 * r) = q by omega]
  · show ck_bs (160 * r) Rw (ck_kF G f n) (160 * r + q) = ck_KF G n q
    rw [ck_bs_at]
    exact h.2 q (by show q < ck_kN G f n; rw [e]; exact hq)
  · show zz_u Ln r ((ck_kN G f n : Nat) : Int) r = _
    rw [zz_us, e]
theorem ck_KN_le {G : Nat → Int} {n : Nat} (hg : ck_ok G n) : ck_KN G n ≤ 3 * n := by
  have h := ck_k_K (f := ck_z) hg
  have hk := ck_kN_le (G := G) (f := ck_z) (n := n)
  have e : ck_kN G ck_z n = ck_KN G n := h.1
  omega
theorem ck_cc_of2 {G G2 : Nat → Int} {n n2 i : Nat} (hs : ck_sp (ck_KF G n) (ck_KN G n) (ck_KF G2 n2) (ck_KN G2 n2) 0 (ck_KN G n) = i) : ck_ri (ck_KF G n) (ck_KN G n) ((i : Nat) : Int) - ck_ri (ck_KF G2 n2) (ck_KN G2 n2) ((i : Nat) : Int) = ck_cc G n G2 n2 := by
  unfold ck_cc ck_cd ck_df
  rw [hs]
