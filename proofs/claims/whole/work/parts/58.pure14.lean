/-! A text with typed bytes behind it. -/
def ck_tb (g : Nat → Int) (x : Int64) (n t j : Nat) : Nat → Int := fun q => if n ≤ q ∧ q < n + j then ((ck_by x (t - 1 - (q - n)) : Nat) : Int) else g q
theorem ck_tb_0 {g : Nat → Int} {x : Int64} {n t : Nat} : ck_tb g x n t 0 = g := by
  funext q
  unfold ck_tb
  rw [if_neg (by omega)]
theorem ck_tb_s {g : Nat → Int} {x : Int64} {n t j : Nat} : zz_u (ck_tb g x n t j) (n + j) ((ck_by x (t - 1 - j) : Nat) : Int) = ck_tb g x n t (j + 1) := by
  funext q
  unfold zz_u ck_tb
  by_cases e : q = n + j
  · rw [if_pos e, if_pos (by omega), show q - n = j by omega]
  · rw [if_neg e]
    by_cases e2 : n ≤ q ∧ q < n + j
    · rw [if_pos e2, if_pos (by omega)]
    · rw [if_neg e2, if_neg (by omega)]
theorem ck_bad_le {x : Int64} {t j : Nat} (h : ck_bad x t = false) (hj : j < t) : ck_by x j ≤ 127 := by
  rcases Nat.lt_or_ge 127 (ck_by x j) with q | q
  · have := ck_anyN_up (P := fun j => decide (127 < ck_by x j)) (k := j) (decide_eq_true q) t hj
    unfold ck_bad at h
    rw [this] at h
    exact Bool.noConfusion h
  · exact q
theorem ck_tb_ok {g : Nat → Int} {x : Int64} {n t : Nat} (hg : ck_ok g n) (hb : ck_bad x t = false) : ck_ok (ck_tb g x n t t) (n + t) := by
  intro q hq
  unfold ck_tb
  by_cases e : n ≤ q ∧ q < n + t
  · rw [if_pos e]
    have := ck_bad_le hb (j := t - 1 - (q - n)) (by omega)
    omega
  · rw [if_neg e]
    exact hg q (by omega)
