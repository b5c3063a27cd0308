/-! The reference's copies and ranks. -/
def ck_tc (T : Nat → Int) (s to k : Nat) : Nat → Int := fun q => if 48 * to ≤ q ∧ q < 48 * to + k then T (576 + s + (q - 48 * to)) else T q
theorem ck_tc_0 {T : Nat → Int} {s to : Nat} : ck_tc T s to 0 = T := by
  funext q
  unfold ck_tc
  rw [if_neg (by omega)]
theorem ck_tc_s {T : Nat → Int} {s to k : Nat} : zz_u (ck_tc T s to k) (48 * to + k) (T (576 + s + k)) = ck_tc T s to (k + 1) := by
  funext q
  unfold zz_u ck_tc
  by_cases h : q = 48 * to + k
  · subst h
    rw [if_pos rfl, if_pos (by omega), show 48 * to + k - 48 * to = k by omega]
  · rw [if_neg h]
    by_cases h2 : 48 * to ≤ q ∧ q < 48 * to + k
    · rw [if_pos h2, if_pos (by omega)]
    · rw [if_neg h2, if_neg (by omega)]
theorem ck_tc_rd {T : Nat → Int} {s to k : Nat} (h : ¬ to = 12) (hs : s + k < 48) : ck_tc T s to k (576 + s + k) = T (576 + s + k) := by
  unfold ck_tc
  rw [if_neg (by omega)]
def ck_mb (T : Nat → Int) (nn : Nat → Nat) (y j : Nat) : Bool := decide (¬ j = y ∧ (ck_cc (ck_tx T j) (nn j) (ck_tx T y) (nn y) < 0 ∨ (ck_cc (ck_tx T j) (nn j) (ck_tx T y) (nn y) = 0 ∧ j < y)))
def ck_rk (T : Nat → Int) (nn : Nat → Nat) (y : Nat) : Nat → Nat
  | 0 => 0
  | k + 1 => ck_rk T nn y k + (if ck_mb T nn y k = true then 1 else 0)
theorem ck_rk_le (T : Nat → Int) (nn : Nat → Nat) (y : Nat) : ∀ k, ck_rk T nn y k ≤ k
  | 0 => Nat.le_refl _
  | k + 1 => by
    unfold ck_rk
    have := ck_rk_le T nn y k
    split <;> omega
theorem ck_rk_s {T : Nat → Int} {nn : Nat → Nat} {y j : Nat} (h : ck_mb T nn y j = true) : ((ck_rk T nn y j : Nat) : Int) + 1 = ((ck_rk T nn y (j + 1) : Nat) : Int) := by
  rw [show ck_rk T nn y (j + 1) = ck_rk T nn y j + (if ck_mb T nn y j = true then 1 else 0) from rfl, if_pos h]
  omega
theorem ck_rk_n {T : Nat → Int} {nn : Nat → Nat} {y j : Nat} (h : ck_mb T nn y j = false) : ck_rk T nn y (j + 1) = ck_rk T nn y j := by
  rw [show ck_rk T nn y (j + 1) = ck_rk T nn y j + (if ck_mb T nn y j = true then 1 else 0) from rfl, if_neg (by rw [h]; exact Bool.false_ne_true), Nat.add_zero]
theorem ck_fst_rg (P : Nat → Bool) : ∀ r i, ck_fst P i r = -1 ∨ ((i : Nat) : Int) ≤ ck_fst P i r ∧ ck_fst P i r < ((i + r : Nat) : Int)
  | 0, i => Or.inl rfl
  | r + 1, i => by
    unfold ck_fst
    split
    · exact Or.inr (by omega)
    · rcases ck_fst_rg P r (i + 1) with h | h
      · exact Or.inl h
      · exact Or.inr (by omega)
def ck_al (G : Nat → Int) (n : Nat) (G2 : Nat → Int) (n2 : Nat) : Int := if ¬ ck_com G n &&& ck_com G2 n2 = 0 then 1 else if ck_com G n = 0 ∨ ck_com G2 n2 = 0 then 2 else 3
def ck_alk (G : Nat → Int) (n : Nat) (G2 : Nat → Int) (n2 : Nat) : Int := if ck_sm n n2 G G2 n = true then 0 else if ¬ ck_cc G n G2 n2 = 0 then -1 else ck_al G n G2 n2
section ZH
variable {p : Program} {l : Launch} {e : Env} {R : Room} {s : State} {m : MethodId} {args : Array Value} {below : List Frame} {meth : Method} {c : Code} {H : Heap} {locs : List Loc} {cells slots : Nat} {Q : State → Prop}
variable {pc : Nat} {ls : Array Slot} {rest : List Value}
theorem zz_cast {x y : Int} (h : x = y) (k : W p l e R s m args below meth c H locs cells slots Q (F0 m pc ls (.int (zz_I y) :: rest))) : W p l e R s m args below meth c H locs cells slots Q (F0 m pc ls (.int (zz_I x) :: rest)) := by
  subst h
  exact k
end ZH
