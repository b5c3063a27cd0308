/-! What the reference tells of words hangs on their characters alone. -/
theorem ck_sm_cong {n n2 : Nat} {g g' h h' : Nat → Int} : ∀ k, (∀ j, j < k → g j = g' j) → (∀ j, j < k → h j = h' j) → ck_sm n n2 g h k = ck_sm n n2 g' h' k
  | 0, _, _ => rfl
  | k + 1, e1, e2 => by
    unfold ck_sm
    rw [e1 k (Nat.lt_succ_self k), e2 k (Nat.lt_succ_self k), ck_sm_cong k (fun j hj => e1 j (Nat.lt_succ_of_lt hj)) (fun j hj => e2 j (Nat.lt_succ_of_lt hj))]
theorem ck_sm_cong2 {n n2 : Nat} {g h h' : Nat → Int} (e : ∀ j, j < n2 → h j = h' j) : ck_sm n n2 g h n = ck_sm n n2 g h' n := by
  by_cases q : n = n2
  · subst q
    exact ck_sm_cong n (fun _ _ => rfl) e
  · have a : ∀ h : Nat → Int, ck_sm n n2 g h n = false := fun h => ck_sm_dn (i := 0) (decide_eq_false q) n (Nat.zero_le n)
    rw [a h, a h']
def ck_lp (A : Nat → Int) (m : Nat) (B : Nat → Int) (n2 : Nat) : Bool := !ck_sm m n2 A B m && ck_sm (ck_KN B n2) (ck_KN A m) (ck_KF B n2) (ck_KF A m) (ck_KN B n2)
theorem ck_lp_cong {A B B' : Nat → Int} {m n2 : Nat} (e : ∀ j, j < n2 → B j = B' j) : ck_lp A m B n2 = ck_lp A m B' n2 := by
  unfold ck_lp
  rw [ck_sm_cong2 e, ck_KN_cong e, ck_KF_cong e]
theorem ck_lp_0 {A B : Nat → Int} {m n2 : Nat} (h : ck_sm m n2 A B m = true) : ck_lp A m B n2 = false := by
  unfold ck_lp
  rw [h]
  rfl
theorem ck_lp_1 {A B : Nat → Int} {m n2 : Nat} (h : ck_sm m n2 A B m = false) : ck_lp A m B n2 = ck_sm (ck_KN B n2) (ck_KN A m) (ck_KF B n2) (ck_KF A m) (ck_KN B n2) := by
  unfold ck_lp
  rw [h]
  rfl
theorem ck_cc_cong {A A' B B' : Nat → Int} {m n2 : Nat} (e1 : ∀ j, j < m → A j = A' j) (e : ∀ j, j < n2 → B j = B' j) : ck_cc A m B n2 = ck_cc A' m B' n2 := by
  unfold ck_cc
  rw [ck_KN_cong e, ck_KF_cong e, ck_KN_cong e1, ck_KF_cong e1]
theorem ck_ml_cong {A A' B B' : Nat → Int} {m n2 : Nat} (e1 : ∀ j, j < m → A j = A' j) (e : ∀ j, j < n2 → B j = B' j) : ck_ml A m B n2 = ck_ml A' m B' n2 := by
  unfold ck_ml
  rw [ck_cc_cong e1 e, ck_sm_cong2 e, ck_sm_cong m e1 (fun _ _ => rfl)]
theorem ck_fst_cong {P P' : Nat → Bool} : ∀ r i, (∀ j, i ≤ j → j < i + r → P j = P' j) → ck_fst P i r = ck_fst P' i r
  | 0, i, _ => rfl
  | r + 1, i, e => by
    unfold ck_fst
    rw [e i (Nat.le_refl i) (by omega), ck_fst_cong r (i + 1) (fun j h1 h2 => e j (by omega) (by omega))]
theorem ck_tc_lo {T : Nat → Int} {s to k q : Nat} (h : q < 48 * to) : ck_tc T s to k q = T q := by
  unfold ck_tc
  rw [if_neg (by omega)]
theorem ck_tc_in {T : Nat → Int} {s to k q : Nat} (h : q < k) : ck_tc T s to k (48 * to + q) = T (576 + s + q) := by
  unfold ck_tc
  rw [if_pos (by omega), show 48 * to + q - 48 * to = q by omega]
theorem ck_sz12 {Z : Nat → Int} {a b : Int} {q : Nat} (h : Z 12 = b) (hq : q < 13) : zz_u (zz_u Z 13 a) 12 b q = Z q := by
  by_cases e : q = 12
  · subst e; rw [zz_us, h]
  · rw [zz_un e, zz_un (by omega)]
