/-! What the desk tells of two writings; a word copied. -/
def ck_lkn (g : Nat → Int) (n : Nat) (h : Nat → Int) (m : Nat) (g2 : Nat → Int) (n2 : Nat) (h2 : Nat → Int) (m2 : Nat) : Int := if ck_ord g n g2 n2 = 0 then 0 else if ck_lk g n h m g2 n2 h2 m2 = false then -1 else ck_al g n g2 n2
def ck_dp (G : Nat → Int) (p : Nat) : Nat → Int := fun q => G (p + q)
theorem ck_dp_ok {G : Nat → Int} {n p m : Nat} (h : ck_ok G n) (hp : p + m ≤ n) : ck_ok (ck_dp G p) m := fun k hk => h (p + k) (by omega)
theorem ck_lkn_v {g h g2 h2 : Nat → Int} {n m n2 m2 : Nat} (a : ¬ ck_ord g n g2 n2 = 0) (b : ck_lk g n h m g2 n2 h2 m2 = true) : ck_lkn g n h m g2 n2 h2 m2 = ck_al g n g2 n2 := by
  unfold ck_lkn
  rw [if_neg a, if_neg (by rw [b]; exact Bool.noConfusion)]
