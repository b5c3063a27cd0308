/-! The reference's withdraw, alike, odd. -/
def ck_sh (T : Nat → Int) (a b : Nat) : Nat → Int := fun q => if a ≤ q ∧ q < b then T (q + 48) else T q
def ck_s1 (Z : Nat → Int) (a b : Nat) : Nat → Int := fun q => if a ≤ q ∧ q < b then Z (q + 1) else Z q
theorem ck_sh_0 {T : Nat → Int} {a : Nat} : ck_sh T a a = T := by
  funext q
  unfold ck_sh
  rw [if_neg (by omega)]
theorem ck_s1_0 {T : Nat → Int} {a : Nat} : ck_s1 T a a = T := by
  funext q
  unfold ck_s1
  rw [if_neg (by omega)]
theorem ck_sh_hi {T : Nat → Int} {a b q : Nat} (h : b ≤ q) : ck_sh T a b q = T q := by
  unfold ck_sh
  rw [if_neg (by omega)]
theorem ck_s1_hi {T : Nat → Int} {a b q : Nat} (h : b ≤ q) : ck_s1 T a b q = T q := by
  unfold ck_s1
  rw [if_neg (by omega)]
theorem ck_sh_s {T : Nat → Int} {a b : Nat} (h : a ≤ b) : zz_u (ck_sh T a b) b (T (b + 48)) = ck_sh T a (b + 1) := by
  funext q
  unfold zz_u ck_sh
  by_cases e : q = b
  · subst e; rw [if_pos rfl, if_pos (by omega)]
  · rw [if_neg e]
    by_cases e2 : a ≤ q ∧ q < b
    · rw [if_pos e2, if_pos (by omega)]
    · rw [if_neg e2, if_neg (by omega)]
theorem ck_s1_s {T : Nat → Int} {a b : Nat} (h : a ≤ b) : zz_u (ck_s1 T a b) b (T (b + 1)) = ck_s1 T a (b + 1) := by
  funext q
  unfold zz_u ck_s1
  by_cases e : q = b
  · subst e; rw [if_pos rfl, if_pos (by omega)]
  · rw [if_neg e]
    by_cases e2 : a ≤ q ∧ q < b
    · rw [if_pos e2, if_pos (by omega)]
    · rw [if_neg e2, if_neg (by omega)]
section ALK
variable {G G2 : Nat → Int} {n n2 : Nat}
theorem ck_alk_0 (h : ck_sm n n2 G G2 n = true) : (0 : Int) = ck_alk G n G2 n2 := by
  unfold ck_alk
  rw [if_pos h]
theorem ck_alk_m (h : ck_sm n n2 G G2 n = false) (h2 : ¬ ck_cc G n G2 n2 = 0) : (-1 : Int) = ck_alk G n G2 n2 := by
  unfold ck_alk
  rw [if_neg (by rw [h]; exact Bool.false_ne_true), if_pos h2]
theorem ck_alk_v (h : ck_sm n n2 G G2 n = false) (h2 : ck_cc G n G2 n2 = 0) : ck_alk G n G2 n2 = ck_al G n G2 n2 := by
  unfold ck_alk
  rw [if_neg (by rw [h]; exact Bool.false_ne_true), if_neg (by omega)]
end ALK
-- odd
theorem ck_tw_mo {g : Nat → Int} {i : Nat} (h : ck_tw g i = true) : ck_tw g (i + 1) = true := by
  unfold ck_tw
  rw [h]
  rfl
theorem ck_tw_hit {g : Nat → Int} {i : Nat} (h : 1 ≤ i) (hm : 104 ≤ g i ∧ g i ≤ 111) (he : g i = g (i - 1)) : ck_tw g (i + 1) = true := ck_tw_up h (decide_eq_true hm) he (i + 1) (Nat.lt_succ_self i)
theorem ck_tw_first {g : Nat → Int} : ck_tw g (0 + 1) = false := rfl
theorem ck_lo_mo {g : Nat → Int} {i : Nat} (h : ck_lo g i = true) : ck_lo g (i + 1) = true := by
  unfold ck_lo
  rw [h]
  rfl
/-- b is what the reference takes for the character before place i -/
def ck_rb (g : Nat → Int) (i : Nat) (b : Int) : Prop := (i = 0 ∧ b = 112) ∨ (0 < i ∧ b = g (i - 1))
theorem ck_rb_let {g : Nat → Int} {i : Nat} {b : Int} (h : ck_rb g i b) : ck_letter (ck_bf g i) = ck_letter b ∧ ck_mark (ck_bf g i) = ck_mark b := by
  unfold ck_bf
  rcases h with ⟨h, rfl⟩ | ⟨h, rfl⟩
  · rw [if_pos h]
    exact ⟨rfl, rfl⟩
  · rw [if_neg (by omega)]
    exact ⟨rfl, rfl⟩
theorem ck_lo_hit {g : Nat → Int} {i : Nat} {b : Int} (h : ck_rb g i b) (h1 : ck_mark (g i) = true) (h2 : ck_letter b = false) (h3 : ck_mark b = false) : ck_lo g (i + 1) = true := by
  obtain ⟨e1, e2⟩ := ck_rb_let h
  unfold ck_lo ck_l1
  rw [h1, e1, e2, h2, h3, Bool.or_eq_true]
  exact Or.inr rfl
theorem ck_lo_mis {g : Nat → Int} {i : Nat} {b : Int} (h : ck_rb g i b) (h0 : ck_lo g i = false) (h1 : ck_mark (g i) = false ∨ ck_letter b = true ∨ ck_mark b = true) : ck_lo g (i + 1) = false := by
  obtain ⟨e1, e2⟩ := ck_rb_let h
  unfold ck_lo ck_l1
  rw [h0, e1, e2]
  rcases h1 with h1 | h1 | h1
  · rw [h1]; rfl
  · rw [h1, Bool.not_true, Bool.and_false]; rfl
  · rw [h1, Bool.not_true, Bool.and_false]; rfl
theorem ck_tw_h2 {g : Nat → Int} {i : Nat} {b : Int} (h : ck_rb g i b) (hm : ck_mark (g i) = true) (he : g i = b) : ck_tw g (i + 1) = true := by
  have h1 : 104 ≤ g i ∧ g i ≤ 111 := of_decide_eq_true hm
  rcases h with ⟨h, rfl⟩ | ⟨h, rfl⟩
  · omega
  · exact ck_tw_hit h h1 he
theorem ck_tw_m2 {g : Nat → Int} {i : Nat} {b : Int} (h : ck_rb g i b) (h0 : ck_tw g i = false) (h1 : ck_mark (g i) = false ∨ ¬ g i = b) : ck_tw g (i + 1) = false := by
  rcases h with ⟨h, rfl⟩ | ⟨h, rfl⟩
  · subst h; rfl
  · refine ck_tw_no h0 ?_
    rcases h1 with h1 | h1
    · exact Or.inl (of_decide_eq_false h1)
    · exact Or.inr h1
def ck_odd (G : Nat → Int) (n : Nat) (A : Nat → Int) (m : Nat) : Int := zz_b (ck_any ck_west G n && ck_any ck_east G n) + 2 * zz_b (ck_tw A m) + 4 * zz_b (ck_any ck_inv G n) + 8 * zz_b (ck_lo A m)
theorem ck_tw_eq {g h : Nat → Int} : ∀ n, (∀ j, j < n → g j = h j) → ck_tw g n = ck_tw h n
  | 0, _ => rfl
  | n + 1, e => by
    unfold ck_tw ck_t1
    rw [ck_tw_eq n (fun j hj => e j (Nat.lt_succ_of_lt hj)), e n (Nat.lt_succ_self n)]
    by_cases h1 : 1 ≤ n
    · rw [e (n - 1) (by omega)]
    · rw [decide_eq_false h1, Bool.false_and, Bool.false_and]
theorem ck_lo_eq {g h : Nat → Int} : ∀ n, (∀ j, j < n → g j = h j) → ck_lo g n = ck_lo h n
  | 0, _ => rfl
  | n + 1, e => by
    have e2 : ck_bf g n = ck_bf h n := by
      unfold ck_bf
      split
      · rfl
      · exact e (n - 1) (by omega)
    unfold ck_lo ck_l1
    rw [ck_lo_eq n (fun j hj => e j (Nat.lt_succ_of_lt hj)), e n (Nat.lt_succ_self n), e2]
theorem ck_odd_eq {G g h : Nat → Int} {n m m' : Nat} (e : ck_eq (m, g) (m', h)) : ck_odd G n g m = ck_odd G n h m' := by
  obtain ⟨e1, e2⟩ := e
  dsimp only at e1 e2
  subst e1
  unfold ck_odd
  rw [ck_tw_eq m e2, ck_lo_eq m e2]
def ck_AN (G : Nat → Int) (n : Nat) : Nat := (ck_ao G ck_z n).1
def ck_AF (G : Nat → Int) (n : Nat) : Nat → Int := (ck_ao G ck_z n).2
theorem ck_odd_A {G f : Nat → Int} {n : Nat} : ck_odd G n (ck_aF true G f n) (ck_aN true G f n) = ck_odd G n (ck_AF G n) (ck_AN G n) := by
  refine ck_odd_eq ?_
  have h := ck_aF_eq (iv := true) (G := G) (f := f) (b := ck_z) n
  rw [ck_ai_ao] at h
  exact h
theorem ck_two {b : Bool} (h : b = true) : (2 : Int) = 2 * zz_b b := by subst h; rfl
theorem ck_four {b : Bool} (h : b = true) : (4 : Int) = 4 * zz_b b := by subst h; rfl
theorem ck_eight {b : Bool} (h : b = true) : (8 : Int) = 8 * zz_b b := by subst h; rfl
theorem ck_nil {b : Bool} {k : Int} (h : b = false) : (0 : Int) = k * zz_b b := by subst h; show (0 : Int) = k * 0; omega
theorem ck_cnt_no {lo hi : Int} {P : Int → Bool} {g : Nat → Int} {n : Nat} (hP : ∀ c, P c = decide (lo ≤ c ∧ c ≤ hi)) (h : ¬ 0 < ck_cnt lo hi g n) : ck_any P g n = false := by
  cases e : ck_any P g n with
  | false => rfl
  | true => exact absurd ((ck_cnt_any hP n).mpr e) h
theorem ck_anyN_mo {P : Nat → Bool} {k : Nat} (h : ck_anyN P k = true) : ck_anyN P (k + 1) = true := by
  unfold ck_anyN
  rw [h]
  rfl
