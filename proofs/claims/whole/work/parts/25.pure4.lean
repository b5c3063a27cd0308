/-! A text's skeleton as the reference makes it, and that it is the class's. -/
theorem zz_uu {g : Nat → Int} {k : Nat} {a b : Int} : zz_u (zz_u g k a) k b = zz_u g k b := by
  funext j
  unfold zz_u
  by_cases h : j = k
  · rw [if_pos h, if_pos h]
  · rw [if_neg h, if_neg h, if_neg h]
section RW
variable {iv : Bool} {G f : Nat → Int} {i : Nat}
theorem ck_rw_c (h : ck_comp (G i) = true) : ck_rw iv G f (i + 1) = ((ck_rw iv G f i).1 + 1 + 1, zz_u (zz_u (ck_rw iv G f i).2 (ck_rw iv G f i).1 (4 * (G i - 124))) ((ck_rw iv G f i).1 + 1) (104 + G i - 124)) := by
  show (if ck_comp (G i) = true then ck_ad (ck_ad (ck_rw iv G f i) (4 * (G i - 124))) (104 + G i - 124) else _) = _
  rw [if_pos h]
  rfl
theorem ck_rw_a (h : ck_comp (G i) = false) (h2 : ¬ (iv = false ∧ ck_inv (G i) = true)) : ck_rw iv G f (i + 1) = ((ck_rw iv G f i).1 + 1, zz_u (ck_rw iv G f i).2 (ck_rw iv G f i).1 (G i)) := by
  show (if ck_comp (G i) = true then _ else if iv = false ∧ ck_inv (G i) = true then ck_rw iv G f i else ck_ad (ck_rw iv G f i) (G i)) = _
  rw [if_neg (by rw [h]; exact Bool.false_ne_true), if_neg h2]
  rfl
theorem ck_rw_k (h : ck_comp (G i) = false) (h2 : iv = false) (h3 : ck_inv (G i) = true) : ck_rw iv G f (i + 1) = ck_rw iv G f i := by
  show (if ck_comp (G i) = true then _ else if iv = false ∧ ck_inv (G i) = true then ck_rw iv G f i else ck_ad (ck_rw iv G f i) (G i)) = _
  rw [if_neg (by rw [h]; exact Bool.false_ne_true), if_pos ⟨h2, h3⟩]
end RW
theorem ck_rw_le (iv : Bool) (G f : Nat → Int) : ∀ n, (ck_rw iv G f n).1 ≤ 2 * n
  | 0 => Nat.le_refl _
  | n + 1 => by
    have ih := ck_rw_le iv G f n
    unfold ck_rw
    split
    · show (ck_rw iv G f n).1 + 1 + 1 ≤ _
      omega
    · split
      · omega
      · show (ck_rw iv G f n).1 + 1 ≤ _
        omega
theorem ck_ad_ok {r : Nat × (Nat → Int)} {x : Int} (h : ck_ok r.2 r.1) (hx : 0 ≤ x ∧ x ≤ 127) : ck_ok (ck_ad r x).2 (ck_ad r x).1 := ck_ok_u h hx
theorem ck_rw_ok {iv : Bool} {G f : Nat → Int} : ∀ n, ck_ok G n → ck_ok (ck_rw iv G f n).2 (ck_rw iv G f n).1
  | 0, _ => fun k hk => absurd hk (Nat.not_lt_zero k)
  | n + 1, h => by
    have ih := ck_rw_ok (iv := iv) (f := f) n (fun k hk => h k (Nat.lt_succ_of_lt hk))
    have hc := h n (Nat.lt_succ_self n)
    unfold ck_rw
    split
    · rename_i h1
      have h1 : 124 ≤ G n ∧ G n ≤ 127 := of_decide_eq_true h1
      exact ck_ad_ok (ck_ad_ok ih (by omega)) (by omega)
    · split
      · exact ih
      · exact ck_ad_ok ih hc
/-- apart and in order: how long, what -/
def ck_aN (iv : Bool) (G f : Nat → Int) (n : Nat) : Nat := (ck_rw iv G f n).1
def ck_aF (iv : Bool) (G f : Nat → Int) (n : Nat) : Nat → Int := (ck_st (ck_rw iv G f n).2 (ck_rw iv G f n).1).2
/-- the skeleton: how long, what -/
def ck_kN (G f : Nat → Int) (n : Nat) : Nat := (ck_pw (ck_aF false G f n) (ck_aF false G f n) (ck_aN false G f n)).1
def ck_kF (G f : Nat → Int) (n : Nat) : Nat → Int := (ck_st (ck_pw (ck_aF false G f n) (ck_aF false G f n) (ck_aN false G f n)).2 (ck_pw (ck_aF false G f n) (ck_aF false G f n) (ck_aN false G f n)).1).2
theorem ck_aF_eq {iv : Bool} {G f b : Nat → Int} (n : Nat) : ck_eq (ck_aN iv G f n, ck_aF iv G f n) (ck_ai iv G b n) := by
  have h := ck_rw_st (iv := iv) (g := G) (a := f) (b := b) n
  refine ⟨?_, fun j hj => h.2 j (by rw [ck_st_fst]; exact hj)⟩
  rw [← h.1, ck_st_fst]
  rfl
theorem ck_aF_av {G f b : Nat → Int} (n : Nat) : ck_eq (ck_aN false G f n, ck_aF false G f n) (ck_av G b n) := by
  rw [← ck_ai_av]
  exact ck_aF_eq n
theorem ck_aF_nc {G f : Nat → Int} {n : Nat} (h : ck_ok G n) : ck_nc (ck_aF false G f n) (ck_aN false G f n) := by
  have h1 := ck_aF_av (G := G) (f := f) (b := f) n
  have h2 := ck_av_nc (a := f) n h
  intro k hk
  rw [show ck_aF false G f n k = (ck_av G f n).2 k from h1.2 k hk]
  exact h2 k (by rw [← h1.1]; exact hk)
theorem ck_aN_le (iv : Bool) (G f : Nat → Int) (n : Nat) : ck_aN iv G f n ≤ 2 * n := ck_rw_le iv G f n
theorem ck_pw_len {g a : Nat → Int} : ∀ n, (ck_pw g a n).1 = ck_sum ck_wt g n
  | 0 => rfl
  | n + 1 => by
    have ih := ck_pw_len (g := g) (a := a) n
    unfold ck_pw ck_sum ck_wt
    split
    · show (ck_pw g a n).1 + 1 = _
      rw [ih]
      rfl
    · show (ck_pw g a n).1 + 1 + 1 = _
      rw [ih]
      rfl
theorem ck_aF_sum {G f : Nat → Int} (n : Nat) : ck_sum ck_wt (ck_aF false G f n) (ck_aN false G f n) ≤ 3 * n := by
  have h1 := ck_aF_av (G := G) (f := f) (b := f) n
  have h2 := ck_av_sum G f n
  rw [ck_sum_eq (h := (ck_av G f n).2) (ck_aN false G f n) (fun j hj => h1.2 j hj), show ck_aN false G f n = (ck_av G f n).1 from h1.1]
  exact h2
theorem ck_pw_le {G f a : Nat → Int} {n k : Nat} (hk : k ≤ ck_aN false G f n) : (ck_pw (ck_aF false G f n) a k).1 ≤ 3 * n := by
  rw [ck_pw_len]
  exact Nat.le_trans (ck_sum_le ck_wt _ _ hk) (ck_aF_sum n)
theorem ck_pw_ok {g a : Nat → Int} : ∀ n, ck_nc g n → ck_ok (ck_pw g a n).2 (ck_pw g a n).1
  | 0, _ => fun k hk => absurd hk (Nat.not_lt_zero k)
  | n + 1, h => by
    have ih := ck_pw_ok (a := a) n (fun k hk => h k (Nat.lt_succ_of_lt hk))
    have h1 := ck_p1_nc (h n (Nat.lt_succ_self n))
    have h2 := ck_p2_nc (c := g n)
    unfold ck_pw
    split
    · exact ck_ad_ok ih (by omega)
    · exact ck_ad_ok (ck_ad_ok ih (by omega)) (by omega)
theorem ck_kF_eq {G f a b : Nat → Int} {n : Nat} (hg : ck_ok G n) : ck_eq (ck_kN G f n, ck_kF G f n) (ck_bv (ck_av G a n).2 b (ck_av G a n).1) := by
  have h1 := ck_aF_av (G := G) (f := f) (b := a) n
  have h2 := ck_pw_st (g := ck_aF false G f n) (a := ck_aF false G f n) (b := b) (ck_aN false G f n) (ck_aF_nc hg)
  have h3 : ck_bv (ck_aF false G f n) b (ck_aN false G f n) = ck_bv (ck_av G a n).2 b (ck_av G a n).1 := by
    rw [ck_bv_eq (h := (ck_av G a n).2) (ck_aN false G f n) (fun j hj => h1.2 j hj), show ck_aN false G f n = (ck_av G a n).1 from h1.1]
  rw [← h3]
  refine ⟨?_, fun j hj => h2.2 j (by rw [ck_st_fst]; exact hj)⟩
  rw [← h2.1, ck_st_fst]
  rfl
theorem ck_kN_le {G f : Nat → Int} {n : Nat} : ck_kN G f n ≤ 3 * n := ck_pw_le (Nat.le_refl _)
theorem ck_kF_ok {G f : Nat → Int} {n : Nat} (hg : ck_ok G n) : ck_ok (ck_kF G f n) (ck_kN G f n) := ck_st_ok _ (ck_pw_ok _ (ck_aF_nc hg))
theorem ck_aF_ok {iv : Bool} {G f : Nat → Int} {n : Nat} (hg : ck_ok G n) : ck_ok (ck_aF iv G f n) (ck_aN iv G f n) := ck_st_ok _ (ck_rw_ok n hg)
-- prototypes as one number
def ck_r2 (c : Int) : Int := if ck_p2 c = -1 then 0 else ck_p2 c + 1
theorem ck_pt_div {c : Int} (h : 0 ≤ c ∧ c ≤ 123) : ck_pt c / 1000 = ck_p1 c := by
  have h1 := ck_p1_nc h
  have h2 := ck_p2_nc (c := c)
  unfold ck_pt
  split <;> omega
theorem ck_pt_mod {c : Int} (h : 0 ≤ c ∧ c ≤ 123) : ck_pt c % 1000 = ck_r2 c := by
  have h1 := ck_p1_nc h
  have h2 := ck_p2_nc (c := c)
  unfold ck_pt ck_r2
  split <;> omega
theorem ck_pt_rg {c : Int} (h : 0 ≤ c ∧ c ≤ 123) : 0 ≤ ck_pt c ∧ ck_pt c ≤ 200000 := by
  have h1 := ck_p1_nc h
  have h2 := ck_p2_nc (c := c)
  unfold ck_pt
  split <;> omega
theorem ck_r2_p2 {c : Int} (h : 0 < ck_r2 c) : ck_r2 c - 1 = ck_p2 c ∧ ¬ ck_p2 c = -1 := by
  unfold ck_r2 at h ⊢
  split at h
  · omega
  · rename_i h1
    rw [if_neg h1]
    exact ⟨by omega, h1⟩
theorem ck_r2_no {c : Int} (h : ck_r2 c ≤ 0) : ck_p2 c = -1 := by
  have h2 := ck_p2_nc (c := c)
  unfold ck_r2 at h
  split at h
  · assumption
  · omega
theorem ck_r2_rg (c : Int) : 0 ≤ ck_r2 c ∧ ck_r2 c ≤ 200 := by
  have h2 := ck_p2_nc (c := c)
  unfold ck_r2
  split <;> omega
section PW
variable {g a : Nat → Int} {i : Nat}
theorem ck_pw_1 (h : ck_p2 (g i) = -1) : ck_pw g a (i + 1) = ((ck_pw g a i).1 + 1, zz_u (ck_pw g a i).2 (ck_pw g a i).1 (ck_p1 (g i))) := by
  show (if ck_p2 (g i) = -1 then ck_ad (ck_pw g a i) (ck_p1 (g i)) else _) = _
  rw [if_pos h]
  rfl
theorem ck_pw_2 (h : ¬ ck_p2 (g i) = -1) : ck_pw g a (i + 1) = ((ck_pw g a i).1 + 1 + 1, zz_u (zz_u (ck_pw g a i).2 (ck_pw g a i).1 (ck_p1 (g i))) ((ck_pw g a i).1 + 1) (ck_p2 (g i))) := by
  show (if ck_p2 (g i) = -1 then _ else ck_ad (ck_ad (ck_pw g a i) (ck_p1 (g i))) (ck_p2 (g i))) = _
  rw [if_neg h]
  rfl
end PW
theorem ck_pw_up {g a : Nat → Int} {i : Nat} : (ck_pw g a i).1 + 1 ≤ (ck_pw g a (i + 1)).1 := by
  rw [ck_pw_len, ck_pw_len]
  have := ck_wt_le (g i)
  show ck_sum ck_wt g i + 1 ≤ ck_sum ck_wt g i + ck_wt (g i)
  omega
theorem ck_pw_up2 {g a : Nat → Int} {i : Nat} (h : ¬ ck_p2 (g i) = -1) : (ck_pw g a i).1 + 2 = (ck_pw g a (i + 1)).1 := by
  rw [ck_pw_2 h]
theorem ck_cp_in {g h : Nat → Int} {k j : Nat} (hj : j < k) : ck_cp g h k j = h j := by
  unfold ck_cp
  rw [if_pos hj]
-- two rows of 160, side by side
theorem ck_bs_lo {B : Nat} {w f : Nat → Int} {q : Nat} (h : q < B) : ck_bs B w f q = w q := by
  unfold ck_bs
  rw [if_neg (by omega)]
theorem ck_bs_0 {w f : Nat → Int} {q : Nat} : ck_bs (160 * 0) w f q = f q := by
  unfold ck_bs
  rw [if_pos (Nat.zero_le _)]
  rfl
/-- the first place where two rows differ, or one ends -/
def ck_sp (g : Nat → Int) (n : Nat) (h : Nat → Int) (m : Nat) : Nat → Nat → Nat
  | i, 0 => i
  | i, r + 1 => if i < m ∧ g i = h i then ck_sp g n h m (i + 1) r else i
def ck_df (g : Nat → Int) (n : Nat) (h : Nat → Int) (m : Nat) (i : Nat) : Int := ck_ri g n (i : Nat) - ck_ri h m (i : Nat)
def ck_cd (g : Nat → Int) (n : Nat) (h : Nat → Int) (m : Nat) : Int := ck_df g n h m (ck_sp g n h m 0 n)
theorem ck_sp_go {g h : Nat → Int} {n m i : Nat} (h1 : i < n) (h2 : i < m) (he : g i = h i) : ck_sp g n h m (i + 1) (n - (i + 1)) = ck_sp g n h m i (n - i) := by
  obtain ⟨r, hr⟩ : ∃ r, n - i = r + 1 := ⟨n - i - 1, by omega⟩
  rw [hr, show n - (i + 1) = r by omega]
  rw [show ck_sp g n h m i (r + 1) = if i < m ∧ g i = h i then ck_sp g n h m (i + 1) r else i from rfl, if_pos ⟨h2, he⟩]
theorem ck_sp_no {g h : Nat → Int} {n m i : Nat} (h1 : ¬ (i < m ∧ g i = h i)) : ck_sp g n h m i (n - i) = i := by
  cases hr : n - i with
  | zero => rfl
  | succ r =>
    unfold ck_sp
    rw [if_neg h1]
theorem ck_sp_end {g h : Nat → Int} {n m i : Nat} (h1 : n ≤ i) : ck_sp g n h m i (n - i) = i := by
  rw [show n - i = 0 by omega]
  rfl
