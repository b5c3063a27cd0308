/-! Names: their order, their places, likeness, said of both sides. tt j: the text of name j, its length nn j. -/
def ck_bo (tt : Nat → Nat → Int) (nn : Nat → Nat) (y j : Nat) : Prop := ck_ord (ck_KF (tt j) (nn j)) (ck_KN (tt j) (nn j)) (ck_KF (tt y) (nn y)) (ck_KN (tt y) (nn y)) < 0 ∨ (ck_ord (ck_KF (tt j) (nn j)) (ck_KN (tt j) (nn j)) (ck_KF (tt y) (nn y)) (ck_KN (tt y) (nn y)) = 0 ∧ j < y)
section BO
variable {tt : Nat → Nat → Int} {nn : Nat → Nat} {k : Nat}
theorem ck_bo_ir {y : Nat} : ¬ ck_bo tt nn y y := by
  intro q
  have e : ck_ord (ck_KF (tt y) (nn y)) (ck_KN (tt y) (nn y)) (ck_KF (tt y) (nn y)) (ck_KN (tt y) (nn y)) = 0 := ck_ord_0.mpr ⟨rfl, fun _ _ => rfl⟩
  rcases q with q | q
  · omega
  · omega
theorem ck_bo_tot (hok : ∀ j, j < k → ck_ok (tt j) (nn j)) {x y : Nat} (hx : x < k) (hy : y < k) (h : ¬ x = y) : ck_bo tt nn y x ∨ ck_bo tt nn x y := by
  have ox := ck_ok_K (hok x hx)
  have oy := ck_ok_K (hok y hy)
  rcases Int.lt_trichotomy (ck_ord (ck_KF (tt x) (nn x)) (ck_KN (tt x) (nn x)) (ck_KF (tt y) (nn y)) (ck_KN (tt y) (nn y))) 0 with c | c | c
  · exact Or.inl (Or.inl c)
  · have c2 : ck_ord (ck_KF (tt y) (nn y)) (ck_KN (tt y) (nn y)) (ck_KF (tt x) (nn x)) (ck_KN (tt x) (nn x)) = 0 := by
      obtain ⟨e1, e2⟩ := ck_ord_0.mp c
      exact ck_ord_0.mpr ⟨e1.symm, fun j hj => (e2 j (by omega)).symm⟩
    rcases Nat.lt_or_ge x y with q | q
    · exact Or.inl (Or.inr ⟨c, q⟩)
    · exact Or.inr (Or.inr ⟨c2, by omega⟩)
  · exact Or.inr (Or.inl (ck_ord_sw ox oy c))
theorem ck_bo_tr (hok : ∀ j, j < k → ck_ok (tt j) (nn j)) {x y z : Nat} (hx : x < k) (hy : y < k) (hz : z < k) (a : ck_bo tt nn y x) (b : ck_bo tt nn z y) : ck_bo tt nn z x := by
  have h := ck_ord_tr (ck_ok_K (hok x hx)) (ck_ok_K (hok y hy)) (ck_ok_K (hok z hz)) (by rcases a with a | a <;> omega) (by rcases b with b | b <;> omega)
  rcases a with a | a
  · exact Or.inl (h.2 (Or.inl a))
  · rcases b with b | b
    · exact Or.inl (h.2 (Or.inr b))
    · by_cases c : ck_ord (ck_KF (tt x) (nn x)) (ck_KN (tt x) (nn x)) (ck_KF (tt z) (nn z)) (ck_KN (tt z) (nn z)) < 0
      · exact Or.inl c
      · exact Or.inr ⟨by omega, by omega⟩
end BO
/-- how many of the first k meet B -/
def ck_ct (B : Nat → Bool) : Nat → Nat
  | 0 => 0
  | k + 1 => ck_ct B k + (if B k = true then 1 else 0)
theorem ck_ct_le (B : Nat → Bool) : ∀ k, ck_ct B k ≤ k
  | 0 => Nat.le_refl _
  | k + 1 => by
    unfold ck_ct
    have := ck_ct_le B k
    split <;> omega
theorem ck_ct_mo {B C : Nat → Bool} : ∀ k, (∀ j, j < k → B j = true → C j = true) → ck_ct B k ≤ ck_ct C k
  | 0, _ => Nat.le_refl _
  | k + 1, h => by
    have ih := ck_ct_mo k (fun j hj => h j (by omega))
    unfold ck_ct
    by_cases q : B k = true
    · rw [if_pos q, if_pos (h k (by omega) q)]; omega
    · rw [if_neg q]; omega
theorem ck_ct_lt {B C : Nat → Bool} {x : Nat} (hb : B x = false) (hc : C x = true) : ∀ k, x < k → (∀ j, j < k → B j = true → C j = true) → ck_ct B k < ck_ct C k
  | 0, h, _ => absurd h (Nat.not_lt_zero x)
  | k + 1, h, hi => by
    unfold ck_ct
    rcases Nat.lt_or_eq_of_le (Nat.le_of_lt_succ h) with q | q
    · have ih := ck_ct_lt hb hc k q (fun j hj => hi j (by omega))
      by_cases z : B k = true
      · rw [if_pos z, if_pos (hi k (by omega) z)]; omega
      · rw [if_neg z]; omega
    · subst q
      have := ck_ct_mo x (fun j hj => hi j (by omega))
      rw [if_neg (by rw [hb]; exact Bool.false_ne_true), if_pos hc]
      omega
theorem ck_ct_eq {B C : Nat → Bool} : ∀ k, (∀ j, j < k → B j = C j) → ck_ct B k = ck_ct C k
  | 0, _ => rfl
  | k + 1, h => by
    unfold ck_ct
    rw [h k (by omega), ck_ct_eq k (fun j hj => h j (by omega))]
theorem ck_plc_ct (nm : Nat → zz_Wt) (y : Nat) : ∀ k, ck_plc nm y k = ck_ct (ck_bef nm y) k
  | 0 => rfl
  | k + 1 => by
    unfold ck_plc ck_ct
    rw [ck_plc_ct nm y k]
theorem ck_rk_ct (T : Nat → Int) (nn : Nat → Nat) (y : Nat) : ∀ k, ck_rk T nn y k = ck_ct (ck_mb T nn y) k
  | 0 => rfl
  | k + 1 => by
    unfold ck_rk ck_ct
    rw [ck_rk_ct T nn y k]
/-- places of a strict order are all different, and none is left out -/
theorem ck_places {B : Nat → Nat → Bool} {k : Nat} (ir : ∀ y, B y y = false) (tot : ∀ x y, x < k → y < k → ¬ x = y → B y x = true ∨ B x y = true) (tr : ∀ x y z, x < k → y < k → z < k → B y x = true → B z y = true → B z x = true) : (∀ y, y < k → ck_ct (B y) k < k) ∧ ∀ i, i < k → ∃ y, y < k ∧ ck_ct (B y) k = i := by
  have mono : ∀ x y, x < k → y < k → B y x = true → ck_ct (B x) k < ck_ct (B y) k := fun x y hx hy h => ck_ct_lt (ir x) h k hx (fun j hj q => tr j x y hj hx hy q h)
  have small : ∀ y, y < k → ck_ct (B y) k < k := fun y hy => by
    have h1 : ck_ct (B y) k < ck_ct (fun _ => true) k := ck_ct_lt (ir y) rfl k hy (fun _ _ _ => rfl)
    have h2 := ck_ct_le (fun _ => true) k
    omega
  refine ⟨small, fun i hi => ck_onto k (fun y => ck_ct (B y) k) small (fun x y hx hy e => ?_) i hi⟩
  have e : ck_ct (B x) k = ck_ct (B y) k := e
  by_cases q : x = y
  · exact q
  · rcases tot x y hx hy q with c | c
    · have := mono x y hx hy c
      omega
    · have := mono y x hy hx c
      omega
