/-! The class's words and the reference's are the same. -/
theorem ck_c3_0 {x y : Int} : ck_c3 x y = 0 ↔ x = y := by
  unfold ck_c3
  repeat' split
  all_goals omega
theorem ck_c3_n {x y : Int} : ck_c3 x y < 0 ↔ x < y := by
  unfold ck_c3
  repeat' split
  all_goals omega
/-- the sign of an order against the difference at the first place where the rows part -/
theorem ck_ord_df {g h : Nat → Int} {n m : Nat} (hg : ck_ok g n) (hh : ck_ok h m) : ∀ d i, i + d = min n m → ((ck_lex g h (ck_c3 n m) i (min n m - i) < 0 ↔ ck_df g n h m (ck_sp g n h m i (n - i)) < 0) ∧ (ck_lex g h (ck_c3 n m) i (min n m - i) = 0 ↔ ck_df g n h m (ck_sp g n h m i (n - i)) = 0))
  | 0, i, hi => by
    have e : min n m - i = 0 := by omega
    rw [e]
    show (ck_c3 n m < 0 ↔ _) ∧ (ck_c3 n m = 0 ↔ _)
    rw [ck_c3_n, ck_c3_0]
    rcases Nat.lt_or_ge m n with q | q
    · rw [ck_sp_no (by omega)]
      unfold ck_df
      rw [ck_ri_in (by omega), ck_ri_out (n := m) (by omega)]
      have := hg i (by omega)
      omega
    · rw [ck_sp_end (by omega)]
      unfold ck_df
      rw [ck_ri_out (n := n) (by omega)]
      rcases Nat.lt_or_ge n m with q2 | q2
      · rw [ck_ri_in (by omega)]
        have := hh i (by omega)
        omega
      · rw [ck_ri_out (by omega)]
        omega
  | d + 1, i, hi => by
    by_cases e : g i = h i
    · have h1 := ck_lex_go (g := g) (h := h) (z := ck_c3 n m) (i := i) (m := min n m) (by omega) e
      have h2 := ck_sp_go (g := g) (h := h) (n := n) (m := m) (i := i) (by omega) (by omega) e
      rw [← h1, ← h2]
      exact ck_ord_df hg hh d (i + 1) (by omega)
    · rw [ck_lex_no (by omega) e, ck_sp_no (fun q => e q.2)]
      unfold ck_df
      rw [ck_ri_in (by omega), ck_ri_in (by omega), ck_c3_n, ck_c3_0]
      omega
theorem ck_ord_cd {g h : Nat → Int} {n m : Nat} (hg : ck_ok g n) (hh : ck_ok h m) : (ck_ord g n h m < 0 ↔ ck_cd g n h m < 0) ∧ (ck_ord g n h m = 0 ↔ ck_cd g n h m = 0) := ck_ord_df hg hh (min n m) 0 (by omega)
theorem ck_lex_0 {g h : Nat → Int} {z : Int} : ∀ r i, ck_lex g h z i r = 0 ↔ ((∀ j, i ≤ j → j < i + r → g j = h j) ∧ z = 0)
  | 0, i => by
    show z = 0 ↔ _
    exact ⟨fun q => ⟨fun j h1 h2 => absurd h2 (by omega), q⟩, fun q => q.2⟩
  | r + 1, i => by
    have ih := ck_lex_0 (g := g) (h := h) (z := z) r (i + 1)
    rw [show ck_lex g h z i (r + 1) = if g i = h i then ck_lex g h z (i + 1) r else ck_c3 (g i) (h i) from rfl]
    by_cases e : g i = h i
    · rw [if_pos e, ih]
      refine ⟨fun q => ⟨fun j h1 h2 => ?_, q.2⟩, fun q => ⟨fun j h1 h2 => q.1 j (by omega) (by omega), q.2⟩⟩
      rcases Nat.lt_or_eq_of_le h1 with h3 | h3
      · exact q.1 j (by omega) (by omega)
      · rw [← h3]; exact e
    · rw [if_neg e, ck_c3_0]
      exact ⟨fun q => absurd q e, fun q => q.1 i (Nat.le_refl i) (by omega)⟩
theorem ck_ord_0 {g h : Nat → Int} {n m : Nat} : ck_ord g n h m = 0 ↔ (n = m ∧ ∀ j, j < n → g j = h j) := by
  unfold ck_ord
  rw [ck_lex_0, ck_c3_0]
  refine ⟨fun q => ⟨by omega, fun j hj => q.1 j (by omega) (by omega)⟩, fun q => ⟨fun j _ hj => q.2 j (by omega), by omega⟩⟩
theorem ck_ord_sm {g h : Nat → Int} {n m : Nat} : ck_ord g n h m = 0 ↔ ck_sm n m g h n = true := by
  rw [ck_ord_0, ck_sm_iff]
theorem ck_sm_sym {g h : Nat → Int} {n m : Nat} : ck_sm n m g h n = ck_sm m n h g m := by
  have e : ck_sm n m g h n = true ↔ ck_sm m n h g m = true := by
    rw [ck_sm_iff, ck_sm_iff]
    exact ⟨fun q => ⟨q.1.symm, fun j hj => (q.2 j (by omega)).symm⟩, fun q => ⟨q.1.symm, fun j hj => (q.2 j (by omega)).symm⟩⟩
  cases h1 : ck_sm n m g h n with
  | true => exact (e.mp h1).symm
  | false =>
    cases h2 : ck_sm m n h g m with
    | true => rw [e.mpr h2] at h1; exact Bool.noConfusion h1
    | false => rfl
theorem ck_dec_sm {g h : Nat → Int} {n m : Nat} : decide (ck_ord g n h m = 0) = ck_sm n m g h n := by
  cases h1 : ck_sm n m g h n with
  | true => exact decide_eq_true (ck_ord_sm.mpr h1)
  | false => exact decide_eq_false (fun q => by rw [ck_ord_sm.mp q] at h1; exact Bool.noConfusion h1)
theorem ck_cc_ord {G G2 : Nat → Int} {n n2 : Nat} (hg : ck_ok G n) (hg2 : ck_ok G2 n2) : (ck_ord (ck_KF G n) (ck_KN G n) (ck_KF G2 n2) (ck_KN G2 n2) < 0 ↔ ck_cc G n G2 n2 < 0) ∧ (ck_ord (ck_KF G n) (ck_KN G n) (ck_KF G2 n2) (ck_KN G2 n2) = 0 ↔ ck_cc G n G2 n2 = 0) := ck_ord_cd (ck_ok_K hg) (ck_ok_K hg2)
theorem ck_lt_ml {G G2 : Nat → Int} {n n2 : Nat} (hg : ck_ok G n) (hg2 : ck_ok G2 n2) : ck_lt G n G2 n2 = ck_ml G n G2 n2 := by
  unfold ck_lt ck_ml
  rw [ck_dec_sm]
  congr 1
  exact decide_eq_decide.mpr (ck_cc_ord hg hg2).2
theorem ck_lt_sym {G G2 : Nat → Int} {n n2 : Nat} : ck_lt G n G2 n2 = ck_lt G2 n2 G n := by
  unfold ck_lt
  rw [ck_dec_sm, ck_dec_sm, ck_dec_sm, ck_dec_sm, ck_sm_sym, ck_sm_sym (g := ck_KF G n)]
theorem ck_lt_lp {A B : Nat → Int} {m n2 : Nat} : ck_lt B n2 A m = ck_lp A m B n2 := by
  unfold ck_lt ck_lp
  rw [ck_dec_sm, ck_dec_sm, ck_sm_sym]
/-- rows as sequences that end in -1: the less one -/
theorem ck_ord_lt {g h : Nat → Int} {n m : Nat} (hg : ck_ok g n) (hh : ck_ok h m) : ck_ord g n h m < 0 ↔ ∃ s : Nat, (∀ t : Nat, t < s → ck_ri g n (t : Nat) = ck_ri h m (t : Nat)) ∧ ck_ri g n (s : Nat) < ck_ri h m (s : Nat) := by
  have key : ∀ d i, i + d = n → (∀ t : Nat, t < i → ck_ri g n (t : Nat) = ck_ri h m (t : Nat)) → ∀ t : Nat, t < ck_sp g n h m i (n - i) → ck_ri g n (t : Nat) = ck_ri h m (t : Nat) := by
    intro d
    induction d with
    | zero =>
      intro i hi ha t ht
      rw [ck_sp_end (by omega)] at ht
      exact ha t ht
    | succ d ih =>
      intro i hi ha t ht
      by_cases e : i < m ∧ g i = h i
      · rw [← ck_sp_go (by omega) e.1 e.2] at ht
        refine ih (i + 1) (by omega) (fun q hq => ?_) t ht
        rcases Nat.lt_or_eq_of_le (Nat.le_of_lt_succ hq) with h3 | h3
        · exact ha q h3
        · rw [h3, ck_ri_in (by omega), ck_ri_in e.1, e.2]
      · rw [ck_sp_no e] at ht
        exact ha t ht
  have k0 : ∀ t : Nat, t < ck_sp g n h m 0 n → ck_ri g n (t : Nat) = ck_ri h m (t : Nat) := key n 0 (by omega) (fun t ht => absurd ht (Nat.not_lt_zero t))
  rw [(ck_ord_cd hg hh).1]
  unfold ck_cd ck_df
  refine ⟨fun q => ⟨ck_sp g n h m 0 n, k0, by omega⟩, fun q => ?_⟩
  obtain ⟨s, hs1, hs2⟩ := q
  rcases Nat.lt_trichotomy s (ck_sp g n h m 0 n) with c | c | c
  · have := k0 s c
    omega
  · rw [← c]; omega
  · have h1 := hs1 _ c
    have h2 := (ck_ord_cd hg hh).2
    have h3 : ck_ord g n h m = 0 := h2.mpr (by unfold ck_cd ck_df; omega)
    obtain ⟨e1, e2⟩ := ck_ord_0.mp h3
    subst e1
    rw [ck_ri_eq e2] at hs2
    omega
theorem ck_ord_tr {g h f : Nat → Int} {n m k : Nat} (hg : ck_ok g n) (hh : ck_ok h m) (hf : ck_ok f k) (a : ck_ord g n h m ≤ 0) (b : ck_ord h m f k ≤ 0) : ck_ord g n f k ≤ 0 ∧ (ck_ord g n h m < 0 ∨ ck_ord h m f k < 0 → ck_ord g n f k < 0) := by
  by_cases a0 : ck_ord g n h m = 0
  · obtain ⟨e1, e2⟩ := ck_ord_0.mp a0
    have e : ck_ord g n f k = ck_ord h m f k := ck_ord_eq (e1 ▸ ⟨rfl, e2⟩ : ck_eq (n, g) (m, h)) (ck_eq_rf _)
    rw [e]
    exact ⟨b, fun q => by omega⟩
  · by_cases b0 : ck_ord h m f k = 0
    · obtain ⟨e1, e2⟩ := ck_ord_0.mp b0
      have e : ck_ord g n h m = ck_ord g n f k := ck_ord_eq (ck_eq_rf _) (e1 ▸ ⟨rfl, e2⟩ : ck_eq (m, h) (k, f))
      rw [← e]
      exact ⟨a, fun q => by omega⟩
    · obtain ⟨s, s1, s2⟩ := (ck_ord_lt hg hh).mp (by omega)
      obtain ⟨t, t1, t2⟩ := (ck_ord_lt hh hf).mp (by omega)
      have : ck_ord g n f k < 0 := by
        refine (ck_ord_lt hg hf).mpr ⟨min s t, fun q hq => (s1 q (by omega)).trans (t1 q (by omega)), ?_⟩
        rcases Nat.lt_trichotomy s t with c | c | c
        · rw [show min s t = s by omega, ← t1 s c]; exact s2
        · subst c; rw [show min s s = s by omega]; omega
        · rw [show min s t = t by omega, s1 t c]; exact t2
      exact ⟨by omega, fun _ => this⟩
theorem ck_pad {g h : Nat → Int} {n m : Nat} (hg : ck_ok g n) (hh : ck_ok h m) : ck_ord g n h m = 0 ∨ ∃ s : Nat, (∀ t : Nat, t < s → ck_ri g n (t : Nat) = ck_ri h m (t : Nat)) ∧ ¬ ck_ri g n (s : Nat) = ck_ri h m (s : Nat) := by
  by_cases e : ck_ord g n h m = 0
  · exact Or.inl e
  · right
    by_cases e2 : ∃ s : Nat, ¬ ck_ri g n (s : Nat) = ck_ri h m (s : Nat)
    · obtain ⟨s, hs⟩ := e2
      have key : ∀ k, ∀ s : Nat, s ≤ k → ¬ ck_ri g n (s : Nat) = ck_ri h m (s : Nat) → ∃ s : Nat, (∀ t : Nat, t < s → ck_ri g n (t : Nat) = ck_ri h m (t : Nat)) ∧ ¬ ck_ri g n (s : Nat) = ck_ri h m (s : Nat) := by
        intro k
        induction k with
        | zero =>
          intro s h1 h2
          have : s = 0 := by omega
          subst this
          exact ⟨0, fun t ht => absurd ht (Nat.not_lt_zero t), h2⟩
        | succ k ih =>
          intro s h1 h2
          by_cases c : ∃ t : Nat, t < s ∧ ¬ ck_ri g n (t : Nat) = ck_ri h m (t : Nat)
          · obtain ⟨t, t1, t2⟩ := c
            exact ih t (by omega) t2
          · exact ⟨s, fun t ht => Classical.byContradiction (fun q => c ⟨t, ht, q⟩), h2⟩
      exact key s s (Nat.le_refl s) hs
    · have all : ∀ s : Nat, ck_ri g n (s : Nat) = ck_ri h m (s : Nat) := fun s => Classical.byContradiction (fun q => e2 ⟨s, q⟩)
      exact absurd ((ck_ord_cd hg hh).2.mpr (by unfold ck_cd ck_df; have := all (ck_sp g n h m 0 n); omega)) e
theorem ck_ord_sw {g h : Nat → Int} {n m : Nat} (hg : ck_ok g n) (hh : ck_ok h m) (a : 0 < ck_ord g n h m) : ck_ord h m g n < 0 := by
  rcases ck_pad hg hh with e | ⟨s, s1, s2⟩
  · omega
  · by_cases c : ck_ri g n (s : Nat) < ck_ri h m (s : Nat)
    · have := (ck_ord_lt hg hh).mpr ⟨s, s1, c⟩
      omega
    · exact (ck_ord_lt hh hg).mpr ⟨s, fun t ht => (s1 t ht).symm, by omega⟩
/-- a map of k places into themselves that never meets itself meets every place -/
theorem ck_onto : ∀ (k : Nat) (f : Nat → Nat), (∀ i, i < k → f i < k) → (∀ i j, i < k → j < k → f i = f j → i = j) → ∀ y, y < k → ∃ i, i < k ∧ f i = y
  | 0, _, _, _, y, hy => absurd hy (Nat.not_lt_zero y)
  | k + 1, f, h1, h2, y, hy => by
    have ih := ck_onto k (fun i => if f i = k then f k else f i) (fun i hi => by
      show (if f i = k then f k else f i) < k
      have a := h1 i (by omega)
      have b := h1 k (by omega)
      split
      · rename_i q
        have : ¬ f k = k := fun z => by have := h2 i k (by omega) (by omega) (q.trans z.symm); omega
        omega
      · omega) (fun i j hi hj e => by
      have e : (if f i = k then f k else f i) = (if f j = k then f k else f j) := e
      by_cases q : f i = k
      · by_cases q2 : f j = k
        · exact h2 i j (by omega) (by omega) (q.trans q2.symm)
        · rw [if_pos q, if_neg q2] at e
          have := h2 k j (by omega) (by omega) e
          omega
      · by_cases q2 : f j = k
        · rw [if_neg q, if_pos q2] at e
          have := h2 i k (by omega) (by omega) e
          omega
        · rw [if_neg q, if_neg q2] at e
          exact h2 i j (by omega) (by omega) e)
    by_cases hk : y = k
    · subst hk
      by_cases q : f y = y
      · exact ⟨y, by omega, q⟩
      · obtain ⟨i, hi, e⟩ := ih (f y) (by have := h1 y (by omega); omega)
        have e : (if f i = y then f y else f i) = f y := e
        by_cases q2 : f i = y
        · exact ⟨i, by omega, q2⟩
        · rw [if_neg q2] at e
          have := h2 i y (by omega) (by omega) e
          omega
    · obtain ⟨i, hi, e⟩ := ih y (by omega)
      have e : (if f i = k then f k else f i) = y := e
      by_cases q2 : f i = k
      · rw [if_pos q2] at e
        exact ⟨k, by omega, e⟩
      · rw [if_neg q2] at e
        exact ⟨i, by omega, e⟩
