/-! Words as the reference finds them, one by one; that they are the class's. -/
def ck_fd (g : Nat → Int) (n : Nat) : Nat → Nat → Int → Nat × Nat
  | 0, p, _ => (0, p)
  | f + 1, p, l => if p < n then (if p < ck_ie g n p ∧ l = 0 then (ck_ie g n p - p, p) else ck_fd g n f (max (ck_ie g n p) (p + 1)) (if p < ck_ie g n p then l - 1 else l)) else (0, p)
theorem ck_fd_out {g : Nat → Int} {n f p : Nat} {l : Int} (h : n ≤ p) : ck_fd g n f p l = (0, p) := by
  cases f with
  | zero => rfl
  | succ f =>
    unfold ck_fd
    rw [if_neg (by omega)]
theorem ck_fd_fix {g : Nat → Int} {n : Nat} : ∀ (f f' p : Nat) (l : Int), n - p ≤ f → n - p ≤ f' → ck_fd g n f p l = ck_fd g n f' p l
  | 0, f', p, l, h, _ => by rw [ck_fd_out (by omega), ck_fd_out (by omega)]
  | f + 1, 0, p, l, _, h => by rw [ck_fd_out (by omega), ck_fd_out (by omega)]
  | f + 1, f' + 1, p, l, h1, h2 => by
    unfold ck_fd
    by_cases h : p < n
    · rw [if_pos h, if_pos h]
      by_cases h3 : p < ck_ie g n p ∧ l = 0
      · rw [if_pos h3, if_pos h3]
      · rw [if_neg h3, if_neg h3]
        exact ck_fd_fix f f' _ _ (by omega) (by omega)
    · rw [if_neg h, if_neg h]
theorem ck_fd_go {g : Nat → Int} {n f p : Nat} {l : Int} (h : p < n) (hn : ¬ (p < ck_ie g n p ∧ l = 0)) (hf : n - max (ck_ie g n p) (p + 1) ≤ f) : ck_fd g n f (max (ck_ie g n p) (p + 1)) (if p < ck_ie g n p then l - 1 else l) = ck_fd g n n p l := by
  obtain ⟨m, hm⟩ : ∃ m, n = m + 1 := ⟨n - 1, by omega⟩
  have e : ck_fd g n n p l = ck_fd g n (m + 1) p l := by rw [← hm]
  rw [e]
  rw [show ck_fd g n (m + 1) p l = if p < n then (if p < ck_ie g n p ∧ l = 0 then (ck_ie g n p - p, p) else ck_fd g n m (max (ck_ie g n p) (p + 1)) (if p < ck_ie g n p then l - 1 else l)) else (0, p) from rfl, if_pos h, if_neg hn]
  exact ck_fd_fix f m _ _ hf (by omega)
theorem ck_fd_hit {g : Nat → Int} {n p : Nat} {l : Int} (h : p < n) (hn : p < ck_ie g n p ∧ l = 0) : ck_fd g n n p l = (ck_ie g n p - p, p) := by
  obtain ⟨m, hm⟩ : ∃ m, n = m + 1 := ⟨n - 1, by omega⟩
  have e : ck_fd g n n p l = ck_fd g n (m + 1) p l := by rw [← hm]
  rw [e]
  rw [show ck_fd g n (m + 1) p l = if p < n then (if p < ck_ie g n p ∧ l = 0 then (ck_ie g n p - p, p) else ck_fd g n m (max (ck_ie g n p) (p + 1)) (if p < ck_ie g n p then l - 1 else l)) else (0, p) from rfl, if_pos h, if_pos hn]
/-- what the class notes from place p on, beginning at number c -/
theorem ck_wk_fd {g : Nat → Int} {n : Nat} : ∀ (f p c : Nat) (B E : Nat → Int), c ≤ (ck_wk g n f p (c, B, E)).1 ∧ (∀ j, j < c → (ck_wk g n f p (c, B, E)).2.1 j = B j ∧ (ck_wk g n f p (c, B, E)).2.2 j = E j) ∧
    ∀ l : Nat, (c + l < (ck_wk g n f p (c, B, E)).1 → ∃ b e : Nat, (ck_wk g n f p (c, B, E)).2.1 (c + l) = ((b : Nat) : Int) ∧ (ck_wk g n f p (c, B, E)).2.2 (c + l) = ((e : Nat) : Int) ∧ p ≤ b ∧ b < e ∧ e ≤ n ∧ ck_fd g n f p (l : Nat) = (e - b, b)) ∧ ((ck_wk g n f p (c, B, E)).1 ≤ c + l → (ck_fd g n f p (l : Nat)).1 = 0)
  | 0, p, c, B, E => ⟨Nat.le_refl _, fun j _ => ⟨rfl, rfl⟩, fun l => ⟨fun h => absurd h (by show ¬ c + l < c; omega), fun _ => rfl⟩⟩
  | f + 1, p, c, B, E => by
    by_cases h : p < n
    · by_cases hw : p < ck_ie g n p
      · have e1 : ck_wk g n (f + 1) p (c, B, E) = ck_wk g n f (max (ck_ie g n p) (p + 1)) (c + 1, zz_u B c ((p : Nat) : Int), zz_u E c ((ck_ie g n p : Nat) : Int)) := by
          rw [show ck_wk g n (f + 1) p (c, B, E) = if p < n then ck_wk g n f (max (ck_ie g n p) (p + 1)) (if p < ck_ie g n p then (c + 1, zz_u B c ((p : Nat) : Int), zz_u E c ((ck_ie g n p : Nat) : Int)) else (c, B, E)) else (c, B, E) from rfl, if_pos h, if_pos hw]
        have e2 : ∀ l : Int, ck_fd g n (f + 1) p l = if p < ck_ie g n p ∧ l = 0 then (ck_ie g n p - p, p) else ck_fd g n f (max (ck_ie g n p) (p + 1)) (if p < ck_ie g n p then l - 1 else l) := by
          intro l
          rw [show ck_fd g n (f + 1) p l = if p < n then (if p < ck_ie g n p ∧ l = 0 then (ck_ie g n p - p, p) else ck_fd g n f (max (ck_ie g n p) (p + 1)) (if p < ck_ie g n p then l - 1 else l)) else (0, p) from rfl, if_pos h]
        obtain ⟨a1, a2, a3⟩ := ck_wk_fd (g := g) (n := n) f (max (ck_ie g n p) (p + 1)) (c + 1) (zz_u B c ((p : Nat) : Int)) (zz_u E c ((ck_ie g n p : Nat) : Int))
        rw [e1]
        refine ⟨by omega, fun j hj => ?_, fun l => ?_⟩
        · obtain ⟨b1, b2⟩ := a2 j (by omega)
          rw [b1, b2, zz_un (by omega), zz_un (by omega)]
          exact ⟨rfl, rfl⟩
        · rw [e2]
          cases l with
          | zero =>
            rw [if_pos ⟨hw, rfl⟩]
            refine ⟨fun _ => ⟨p, ck_ie g n p, ?_, ?_, Nat.le_refl _, hw, by have := ck_ie_le (g := g) (n := n) (p := p); omega, rfl⟩, fun h2 => absurd h2 (by omega)⟩
            · exact ((a2 c (by omega)).1).trans zz_us
            · exact ((a2 c (by omega)).2).trans zz_us
          | succ l =>
            obtain ⟨d1, d2⟩ := a3 l
            have en : ¬ (p < ck_ie g n p ∧ ((l + 1 : Nat) : Int) = 0) := by omega
            have el : ((l + 1 : Nat) : Int) - 1 = ((l : Nat) : Int) := by omega
            rw [if_neg en, if_pos hw, el]
            refine ⟨fun h2 => ?_, fun h2 => d2 (by omega)⟩
            obtain ⟨b, e, q1, q2, q3, q4, q5, q6⟩ := d1 (by omega)
            refine ⟨b, e, ?_, ?_, by omega, q4, q5, q6⟩
            · rw [show c + (l + 1) = c + 1 + l by omega]; exact q1
            · rw [show c + (l + 1) = c + 1 + l by omega]; exact q2
      · have e1 : ck_wk g n (f + 1) p (c, B, E) = ck_wk g n f (max (ck_ie g n p) (p + 1)) (c, B, E) := by
          rw [show ck_wk g n (f + 1) p (c, B, E) = if p < n then ck_wk g n f (max (ck_ie g n p) (p + 1)) (if p < ck_ie g n p then (c + 1, zz_u B c ((p : Nat) : Int), zz_u E c ((ck_ie g n p : Nat) : Int)) else (c, B, E)) else (c, B, E) from rfl, if_pos h, if_neg hw]
        have e2 : ∀ l : Int, ck_fd g n (f + 1) p l = ck_fd g n f (max (ck_ie g n p) (p + 1)) l := by
          intro l
          rw [show ck_fd g n (f + 1) p l = if p < n then (if p < ck_ie g n p ∧ l = 0 then (ck_ie g n p - p, p) else ck_fd g n f (max (ck_ie g n p) (p + 1)) (if p < ck_ie g n p then l - 1 else l)) else (0, p) from rfl, if_pos h, if_neg (fun q => hw q.1), if_neg hw]
        obtain ⟨a1, a2, a3⟩ := ck_wk_fd (g := g) (n := n) f (max (ck_ie g n p) (p + 1)) c B E
        rw [e1]
        refine ⟨a1, a2, fun l => ?_⟩
        rw [e2]
        obtain ⟨d1, d2⟩ := a3 l
        refine ⟨fun h2 => ?_, d2⟩
        obtain ⟨b, e, q1, q2, q3, q4, q5, q6⟩ := d1 h2
        exact ⟨b, e, q1, q2, by omega, q4, q5, q6⟩
    · rw [ck_wk_out (by omega)]
      refine ⟨Nat.le_refl _, fun j _ => ⟨rfl, rfl⟩, fun l => ⟨fun h2 => absurd h2 (by show ¬ c + l < c; omega), fun _ => ?_⟩⟩
      rw [ck_fd_out (by omega)]
/-- how many words; where the l-th begins, how long it is -/
def ck_wc (g : Nat → Int) (n : Nat) : Nat := (ck_wk g n n 0 (0, ck_z, ck_z)).1
def ck_wl (g : Nat → Int) (n : Nat) (l : Nat) : Nat := (ck_fd g n n 0 (l : Nat)).1
def ck_wb (g : Nat → Int) (n : Nat) (l : Nat) : Nat := (ck_fd g n n 0 (l : Nat)).2
theorem ck_wl_in {g : Nat → Int} {n l : Nat} (h : l < ck_wc g n) : 0 < ck_wl g n l ∧ ck_wb g n l + ck_wl g n l ≤ n := by
  obtain ⟨-, -, a3⟩ := ck_wk_fd (g := g) (n := n) n 0 0 ck_z ck_z
  obtain ⟨b, e, q1, q2, q3, q4, q5, q6⟩ := (a3 l).1 (by rw [Nat.zero_add]; exact h)
  unfold ck_wl ck_wb
  rw [q6]
  dsimp only
  omega
theorem ck_wl_out {g : Nat → Int} {n l : Nat} (h : ck_wc g n ≤ l) : ck_wl g n l = 0 := by
  obtain ⟨-, -, a3⟩ := ck_wk_fd (g := g) (n := n) n 0 0 ck_z ck_z
  exact (a3 l).2 (by rw [Nat.zero_add]; exact h)
theorem ck_wc_eq {g : Nat → Int} {n : Nat} {B E : Nat → Int} : (ck_wk g n n 0 (0, B, E)).1 = ck_wc g n := by
  obtain ⟨-, -, a3⟩ := ck_wk_fd (g := g) (n := n) n 0 0 B E
  rcases Nat.lt_trichotomy (ck_wk g n n 0 (0, B, E)).1 (ck_wc g n) with h | h | h
  · have h1 := (a3 (ck_wk g n n 0 (0, B, E)).1).2 (by omega)
    have h2 := (ck_wl_in h).1
    unfold ck_wl at h2
    omega
  · exact h
  · obtain ⟨b, e, q1, q2, q3, q4, q5, q6⟩ := (a3 (ck_wc g n)).1 (by omega)
    have h2 := ck_wl_out (g := g) (n := n) (l := ck_wc g n) (Nat.le_refl _)
    unfold ck_wl at h2
    rw [q6] at h2
    dsimp only at h2
    omega
theorem ck_wk_at {g : Nat → Int} {n l : Nat} {B E : Nat → Int} (h : l < ck_wc g n) : (ck_wk g n n 0 (0, B, E)).2.1 l = ((ck_wb g n l : Nat) : Int) ∧ (ck_wk g n n 0 (0, B, E)).2.2 l = ((ck_wb g n l + ck_wl g n l : Nat) : Int) := by
  obtain ⟨-, -, a3⟩ := ck_wk_fd (g := g) (n := n) n 0 0 B E
  obtain ⟨b, e, q1, q2, q3, q4, q5, q6⟩ := (a3 l).1 (by rw [Nat.zero_add, ck_wc_eq]; exact h)
  rw [Nat.zero_add] at q1 q2
  unfold ck_wb ck_wl
  rw [q1, q2, q6]
  dsimp only
  refine ⟨rfl, ?_⟩
  congr 1
  omega
theorem ck_wc_le {g : Nat → Int} {n : Nat} : ∀ (f p c : Nat) (B E : Nat → Int), c ≤ p → (ck_wk g n f p (c, B, E)).1 ≤ max n p
  | 0, p, c, B, E, h => by show c ≤ _; omega
  | f + 1, p, c, B, E, h => by
    have hi := ck_ie_le (g := g) (n := n) (p := p)
    have e1 : ck_wk g n (f + 1) p (c, B, E) = if p < n then ck_wk g n f (max (ck_ie g n p) (p + 1)) (if p < ck_ie g n p then (c + 1, zz_u B c ((p : Nat) : Int), zz_u E c ((ck_ie g n p : Nat) : Int)) else (c, B, E)) else (c, B, E) := rfl
    rw [e1]
    by_cases h1 : p < n
    · rw [if_pos h1]
      by_cases h2 : p < ck_ie g n p
      · rw [if_pos h2]
        have := ck_wc_le (g := g) (n := n) f (max (ck_ie g n p) (p + 1)) (c + 1) (zz_u B c ((p : Nat) : Int)) (zz_u E c ((ck_ie g n p : Nat) : Int)) (by omega)
        omega
      · rw [if_neg h2]
        have := ck_wc_le (g := g) (n := n) f (max (ck_ie g n p) (p + 1)) c B E (by omega)
        omega
    · rw [if_neg h1]
      show c ≤ _
      omega
theorem ck_wc_48 {g : Nat → Int} {n : Nat} : ck_wc g n ≤ n := by
  have := ck_wc_le (g := g) (n := n) n 0 0 ck_z ck_z (Nat.le_refl _)
  unfold ck_wc
  omega
