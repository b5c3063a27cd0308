/-! The pure picture of the reference: it fills a row and then brings its marks into order; that is the same row as inserting one by one. -/
theorem ck_eq_rf (r : Nat × (Nat → Int)) : ck_eq r r := ⟨rfl, fun _ _ => rfl⟩
theorem ck_eq_sy {r t : Nat × (Nat → Int)} (h : ck_eq r t) : ck_eq t r := ⟨h.1.symm, fun j hj => (h.2 j (by rw [h.1]; exact hj)).symm⟩
theorem ck_eq_tr {r t u : Nat × (Nat → Int)} (h : ck_eq r t) (k : ck_eq t u) : ck_eq r u := ⟨h.1.trans k.1, fun j hj => (h.2 j hj).trans (k.2 j (by rw [← h.1]; exact hj))⟩
def ck_st (f : Nat → Int) : Nat → Nat × (Nat → Int)
  | 0 => (0, f)
  | k + 1 => ck_in (ck_st f k) (f k)
theorem ck_st_fst (f : Nat → Int) : ∀ k, (ck_st f k).1 = k
  | 0 => rfl
  | k + 1 => by
    show (ck_st f k).1 + 1 = k + 1
    rw [ck_st_fst f k]
theorem ck_in_out {r : Nat × (Nat → Int)} {x : Int} {j : Nat} (h : r.1 < j) : (ck_in r x).2 j = r.2 j := by
  have hp := ck_ps_le r.2 x r.1
  show zz_u (ck_mv r.2 (ck_ps r.2 x r.1) r.1) (ck_ps r.2 x r.1) x j = r.2 j
  rw [zz_un (by omega)]
  unfold ck_mv
  rw [if_neg (by omega)]
theorem ck_st_out (f : Nat → Int) : ∀ k j, k ≤ j → (ck_st f k).2 j = f j
  | 0, j, _ => rfl
  | k + 1, j, h => by
    show (ck_in (ck_st f k) (f k)).2 j = f j
    rw [ck_in_out (by rw [ck_st_fst]; omega), ck_st_out f k j (by omega)]
theorem ck_st_eq {f g : Nat → Int} : ∀ k, (∀ j, j < k → f j = g j) → ck_eq (ck_st f k) (ck_st g k)
  | 0, _ => ⟨rfl, fun j hj => absurd hj (Nat.not_lt_zero j)⟩
  | k + 1, h => by
    show ck_eq (ck_in (ck_st f k) (f k)) (ck_in (ck_st g k) (g k))
    rw [h k (Nat.lt_succ_self k)]
    exact ck_in_eq (ck_st_eq k (fun j hj => h j (Nat.lt_succ_of_lt hj)))
def ck_ad (r : Nat × (Nat → Int)) (x : Int) : Nat × (Nat → Int) := (r.1 + 1, zz_u r.2 r.1 x)
/-- a text taken apart, not yet in order; iv: with the invisible ones -/
def ck_rw (iv : Bool) (g a : Nat → Int) : Nat → Nat × (Nat → Int)
  | 0 => (0, a)
  | k + 1 => if ck_comp (g k) = true then ck_ad (ck_ad (ck_rw iv g a k) (4 * (g k - 124))) (104 + g k - 124) else if iv = false ∧ ck_inv (g k) = true then ck_rw iv g a k else ck_ad (ck_rw iv g a k) (g k)
def ck_ai (iv : Bool) (g a : Nat → Int) : Nat → Nat × (Nat → Int)
  | 0 => (0, a)
  | k + 1 => if iv = false ∧ ck_inv (g k) = true then ck_ai iv g a k else ck_ap (ck_ai iv g a k) (g k)
theorem ck_ai_av (g a : Nat → Int) : ∀ n, ck_ai false g a n = ck_av g a n
  | 0 => rfl
  | n + 1 => by
    unfold ck_ai ck_av
    rw [ck_ai_av g a n]
    by_cases h : ck_inv (g n) = true
    · rw [if_pos ⟨rfl, h⟩, if_pos h]
    · rw [if_neg (fun q => h q.2), if_neg h]
theorem ck_ai_ao (g a : Nat → Int) : ∀ n, ck_ai true g a n = ck_ao g a n
  | 0 => rfl
  | n + 1 => by
    unfold ck_ai ck_ao
    rw [ck_ai_ao g a n, if_neg (fun q => Bool.noConfusion q.1)]
theorem ck_st_ad {r : Nat × (Nat → Int)} {x : Int} : ck_eq (ck_st (ck_ad r x).2 (ck_ad r x).1) (ck_in (ck_st r.2 r.1) x) := by
  have e : (ck_ad r x).2 r.1 = x := zz_us
  show ck_eq (ck_in (ck_st (ck_ad r x).2 r.1) ((ck_ad r x).2 r.1)) (ck_in (ck_st r.2 r.1) x)
  rw [e]
  exact ck_in_eq (ck_st_eq r.1 (fun j hj => zz_un (by omega)))
theorem ck_rw_st {iv : Bool} {g a b : Nat → Int} : ∀ n, ck_eq (ck_st (ck_rw iv g a n).2 (ck_rw iv g a n).1) (ck_ai iv g b n)
  | 0 => ⟨rfl, fun j hj => absurd hj (Nat.not_lt_zero j)⟩
  | n + 1 => by
    have ih := ck_rw_st (iv := iv) (g := g) (a := a) (b := b) n
    unfold ck_rw ck_ai
    by_cases h1 : ck_comp (g n) = true
    · have h2 : 124 ≤ g n ∧ g n ≤ 127 := of_decide_eq_true h1
      have h3 : ¬ (iv = false ∧ ck_inv (g n) = true) := fun q => absurd (of_decide_eq_true q.2) (by omega)
      rw [if_pos h1, if_neg h3]
      unfold ck_ap
      rw [if_pos h1]
      exact ck_eq_tr ck_st_ad (ck_in_eq (ck_eq_tr ck_st_ad (ck_in_eq ih)))
    · rw [if_neg h1]
      by_cases h3 : iv = false ∧ ck_inv (g n) = true
      · rw [if_pos h3, if_pos h3]
        exact ih
      · rw [if_neg h3, if_neg h3]
        unfold ck_ap
        rw [if_neg h1]
        exact ck_eq_tr ck_st_ad (ck_in_eq ih)
/-- prototypes of a row, not yet in order -/
def ck_pw (g a : Nat → Int) : Nat → Nat × (Nat → Int)
  | 0 => (0, a)
  | k + 1 => if ck_p2 (g k) = -1 then ck_ad (ck_pw g a k) (ck_p1 (g k)) else ck_ad (ck_ad (ck_pw g a k) (ck_p1 (g k))) (ck_p2 (g k))
theorem ck_ap_in {r : Nat × (Nat → Int)} {c : Int} (h : c ≤ 123) : ck_ap r c = ck_in r c := by
  unfold ck_ap
  rw [if_neg (show ¬ ck_comp c = true from fun q => absurd (of_decide_eq_true q) (by omega))]
theorem ck_pw_st {g a b : Nat → Int} : ∀ n, ck_nc g n → ck_eq (ck_st (ck_pw g a n).2 (ck_pw g a n).1) (ck_bv g b n)
  | 0, _ => ⟨rfl, fun j hj => absurd hj (Nat.not_lt_zero j)⟩
  | n + 1, hg => by
    have ih := ck_pw_st (g := g) (a := a) (b := b) n (fun k hk => hg k (Nat.lt_succ_of_lt hk))
    have h1 := ck_p1_nc (hg n (Nat.lt_succ_self n))
    have h2 := ck_p2_nc (c := g n)
    unfold ck_pw ck_bv ck_pr
    by_cases h : ck_p2 (g n) = -1
    · rw [if_pos h, if_pos h, ck_ap_in h1.2]
      exact ck_eq_tr ck_st_ad (ck_in_eq ih)
    · rw [if_neg h, if_neg h, ck_ap_in (by omega), ck_ap_in h1.2]
      exact ck_eq_tr ck_st_ad (ck_in_eq (ck_eq_tr ck_st_ad (ck_in_eq ih)))
theorem ck_bv_eq {g h b : Nat → Int} : ∀ n, (∀ j, j < n → g j = h j) → ck_bv g b n = ck_bv h b n
  | 0, _ => rfl
  | n + 1, e => by
    unfold ck_bv
    rw [e n (Nat.lt_succ_self n), ck_bv_eq n (fun j hj => e j (Nat.lt_succ_of_lt hj))]
theorem ck_pr_eq {r t : Nat × (Nat → Int)} {c : Int} (h : ck_eq r t) : ck_eq (ck_pr r c) (ck_pr t c) := by
  unfold ck_pr
  split
  · exact ck_ap_eq h
  · exact ck_ap_eq (ck_ap_eq h)
theorem ck_bv_eq2 {g b d : Nat → Int} : ∀ n, ck_eq (ck_bv g b n) (ck_bv g d n)
  | 0 => ⟨rfl, fun j hj => absurd hj (Nat.not_lt_zero j)⟩
  | n + 1 => ck_pr_eq (ck_bv_eq2 n)
/-- a part of a row: from place B on it is f -/
def ck_bs (B : Nat) (w f : Nat → Int) : Nat → Int := fun q => if B ≤ q then f (q - B) else w q
theorem ck_bs_at {B : Nat} {w f : Nat → Int} {q : Nat} : ck_bs B w f (B + q) = f q := by
  unfold ck_bs
  rw [if_pos (Nat.le_add_right B q), Nat.add_sub_cancel_left]
theorem ck_bs_id (B : Nat) (w : Nat → Int) : ck_bs B w (fun q => w (B + q)) = w := by
  funext q
  unfold ck_bs
  split
  · show w (B + (q - B)) = w q
    rw [show B + (q - B) = q by omega]
  · rfl
theorem ck_bs_u {B : Nat} {w f : Nat → Int} {p : Nat} {x : Int} : zz_u (ck_bs B w f) (B + p) x = ck_bs B w (zz_u f p x) := by
  funext q
  by_cases h : q = B + p
  · subst h
    rw [zz_us, ck_bs_at, zz_us]
  · rw [zz_un h]
    unfold ck_bs
    by_cases h2 : B ≤ q
    · rw [if_pos h2, if_pos h2, zz_un (by omega)]
    · rw [if_neg h2, if_neg h2]
/-- two neighbours change places while x goes down -/
theorem ck_swap {F : Nat → Int} {x : Int} {p k : Nat} (h : p + 1 ≤ k) : zz_u (zz_u (zz_u (ck_mv F (p + 1) k) (p + 1) x) (p + 1) (zz_u (ck_mv F (p + 1) k) (p + 1) x p)) p x = zz_u (ck_mv F p k) p x := by
  funext j
  unfold zz_u ck_mv
  by_cases h1 : j = p
  · rw [if_pos h1, if_pos h1]
  · rw [if_neg h1, if_neg h1]
    by_cases h2 : j = p + 1
    · subst h2
      rw [if_pos rfl, if_neg (by omega), if_neg (by omega), if_pos (by omega)]
      rfl
    · rw [if_neg h2, if_neg h2]
      by_cases h3 : p + 1 < j ∧ j ≤ k
      · rw [if_pos h3, if_pos (by omega)]
      · rw [if_neg h3, if_neg (by omega)]
