/-! A word's answers, by what is asked. -/
theorem ck_wl_pos {g : Nat → Int} {n l : Nat} (h : ¬ ck_wl g n l = 0) : l < ck_wc g n := by
  rcases Nat.lt_or_ge l (ck_wc g n) with q | q
  · exact q
  · exact absurd (ck_wl_out q) h
def ck_wv (G : Nat → Int) (n : Nat) (T : Nat → Int) (nn : Nat → Nat) (k i : Nat) (c : Int) : Int := if c = 0 then ((ck_wb G n i : Nat) : Int) else if c = 1 then ((ck_wl G n i : Nat) : Int) else if c = 2 then ck_fst (fun j => ck_lp (ck_dp G (ck_wb G n j)) (ck_wl G n j) (ck_dp G (ck_wb G n i)) (ck_wl G n i)) 0 i else ck_fst (fun j => ck_ml (ck_dp G (ck_wb G n i)) (ck_wl G n i) (ck_tx T j) (nn j)) 0 k
section WV
variable {G T : Nat → Int} {n k i : Nat} {nn : Nat → Nat} {c : Int}
theorem ck_wv_0 (h : c = 0) : ck_wv G n T nn k i c = ((ck_wb G n i : Nat) : Int) := by
  unfold ck_wv
  rw [if_pos h]
theorem ck_wv_1 (h : c = 1) : ck_wv G n T nn k i c = ((ck_wl G n i : Nat) : Int) := by
  unfold ck_wv
  rw [if_neg (by omega), if_pos h]
theorem ck_wv_2 (h : c = 2) : ck_wv G n T nn k i c = ck_fst (fun j => ck_lp (ck_dp G (ck_wb G n j)) (ck_wl G n j) (ck_dp G (ck_wb G n i)) (ck_wl G n i)) 0 i := by
  unfold ck_wv
  rw [if_neg (by omega), if_neg (by omega), if_pos h]
theorem ck_wv_3 (h : c = 3) : ck_wv G n T nn k i c = ck_fst (fun j => ck_ml (ck_dp G (ck_wb G n i)) (ck_wl G n i) (ck_tx T j) (nn j)) 0 k := by
  unfold ck_wv
  rw [if_neg (by omega), if_neg (by omega), if_neg (by omega)]
end WV
