/-! Words as the class notes them; odd as the class tells it. -/
def ck_wk (g : Nat → Int) (n : Nat) : Nat → Nat → Nat × (Nat → Int) × (Nat → Int) → Nat × (Nat → Int) × (Nat → Int)
  | 0, _, st => st
  | f + 1, p, st => if p < n then ck_wk g n f (max (ck_ie g n p) (p + 1)) (if p < ck_ie g n p then (st.1 + 1, zz_u st.2.1 st.1 ((p : Nat) : Int), zz_u st.2.2 st.1 ((ck_ie g n p : Nat) : Int)) else st) else st
theorem ck_wk_out {g : Nat → Int} {n f p : Nat} {st : Nat × (Nat → Int) × (Nat → Int)} (h : n ≤ p) : ck_wk g n f p st = st := by
  cases f with
  | zero => rfl
  | succ f =>
    unfold ck_wk
    rw [if_neg (by omega)]
theorem ck_wk_fix {g : Nat → Int} {n : Nat} : ∀ (f f' p : Nat) (st : Nat × (Nat → Int) × (Nat → Int)), n - p ≤ f → n - p ≤ f' → ck_wk g n f p st = ck_wk g n f' p st
  | 0, f', p, st, h, _ => by rw [ck_wk_out (by omega), ck_wk_out (by omega)]
  | f + 1, 0, p, st, _, h => by rw [ck_wk_out (by omega), ck_wk_out (by omega)]
  | f + 1, f' + 1, p, st, h1, h2 => by
    unfold ck_wk
    by_cases h : p < n
    · rw [if_pos h, if_pos h]
      exact ck_wk_fix f f' _ _ (by omega) (by omega)
    · rw [if_neg h, if_neg h]
theorem ck_wk_y {g : Nat → Int} {n f p c : Nat} {B E : Nat → Int} (h : p < n) (hw : p < ck_ie g n p) (hf : n - max (ck_ie g n p) (p + 1) ≤ f) : ck_wk g n f (max (ck_ie g n p) (p + 1)) (c + 1, zz_u B c ((p : Nat) : Int), zz_u E c ((ck_ie g n p : Nat) : Int)) = ck_wk g n n p (c, B, E) := by
  obtain ⟨m, hm⟩ : ∃ m, n = m + 1 := ⟨n - 1, by omega⟩
  have e : ck_wk g n n p (c, B, E) = ck_wk g n (m + 1) p (c, B, E) := by rw [← hm]
  rw [e]
  rw [show ck_wk g n (m + 1) p (c, B, E) = if p < n then ck_wk g n m (max (ck_ie g n p) (p + 1)) (if p < ck_ie g n p then (c + 1, zz_u B c ((p : Nat) : Int), zz_u E c ((ck_ie g n p : Nat) : Int)) else (c, B, E)) else (c, B, E) from rfl, if_pos h, if_pos hw]
  exact ck_wk_fix f m _ _ hf (by omega)
theorem ck_wk_n {g : Nat → Int} {n f p c : Nat} {B E : Nat → Int} (h : p < n) (hw : ¬ p < ck_ie g n p) (hf : n - max (ck_ie g n p) (p + 1) ≤ f) : ck_wk g n f (max (ck_ie g n p) (p + 1)) (c, B, E) = ck_wk g n n p (c, B, E) := by
  obtain ⟨m, hm⟩ : ∃ m, n = m + 1 := ⟨n - 1, by omega⟩
  have e : ck_wk g n n p (c, B, E) = ck_wk g n (m + 1) p (c, B, E) := by rw [← hm]
  rw [e]
  rw [show ck_wk g n (m + 1) p (c, B, E) = if p < n then ck_wk g n m (max (ck_ie g n p) (p + 1)) (if p < ck_ie g n p then (c + 1, zz_u B c ((p : Nat) : Int), zz_u E c ((ck_ie g n p : Nat) : Int)) else (c, B, E)) else (c, B, E) from rfl, if_pos h, if_neg hw]
  exact ck_wk_fix f m _ _ hf (by omega)
theorem ck_any_mo {P : Int → Bool} {g : Nat → Int} {k : Nat} (h : ck_any P g k = true) : ck_any P g (k + 1) = true := by
  unfold ck_any
  rw [h]
  rfl
theorem ck_any_hit {P : Int → Bool} {g : Nat → Int} {k : Nat} (h : P (g k) = true) : ck_any P g (k + 1) = true := ck_any_up h (k + 1) (Nat.lt_succ_self k)
theorem ck_ao_le (G f : Nat → Int) : ∀ n, (ck_ao G f n).1 ≤ 2 * n
  | 0 => Nat.le_refl _
  | n + 1 => by
    have ih := ck_ao_le G f n
    have := ck_ap_le (ck_ao G f n) (G n)
    unfold ck_ao
    omega
theorem ck_ao_ok {G f : Nat → Int} : ∀ n, ck_ok G n → ck_ok (ck_ao G f n).2 (ck_ao G f n).1
  | 0, _ => fun k hk => absurd hk (Nat.not_lt_zero k)
  | n + 1, h => ck_ap_ok (ck_ao_ok n (fun k hk => h k (Nat.lt_succ_of_lt hk))) (h n (Nat.lt_succ_self n))
theorem ck_ao_eq {G a b : Nat → Int} : ∀ n, ck_eq (ck_ao G a n) (ck_ao G b n)
  | 0 => ⟨rfl, fun j hj => absurd hj (Nat.not_lt_zero j)⟩
  | n + 1 => ck_ap_eq (ck_ao_eq n)
theorem ck_odd_O {G f : Nat → Int} {n : Nat} : ck_odd G n (ck_ao G f n).2 (ck_ao G f n).1 = ck_odd G n (ck_AF G n) (ck_AN G n) := ck_odd_eq (ck_ao_eq n)
