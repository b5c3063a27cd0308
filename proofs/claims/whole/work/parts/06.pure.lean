/-! The pure picture: a row is g from 0 on and its length n. Both sides, the class and the reference, are tied to the functions of this part. -/
-- single characters
def ck_letter (c : Int) : Bool := decide ((0 ≤ c ∧ c ≤ 95) ∨ (124 ≤ c ∧ c ≤ 127))
def ck_mark (c : Int) : Bool := decide (104 ≤ c ∧ c ≤ 111)
def ck_comp (c : Int) : Bool := decide (124 ≤ c ∧ c ≤ 127)
def ck_inv (c : Int) : Bool := decide (120 ≤ c ∧ c ≤ 123)
def ck_west (c : Int) : Bool := decide (96 ≤ c ∧ c ≤ 99)
def ck_east (c : Int) : Bool := decide (100 ≤ c ∧ c ≤ 103)
def ck_joint (c : Int) : Bool := decide (c = 113 ∨ c = 114)
def ck_alone (c : Int) : Bool := decide ((0 ≤ c ∧ c ≤ 112) ∨ (124 ≤ c ∧ c ≤ 127))
def ck_forb (c : Int) : Bool := decide (115 ≤ c ∧ c ≤ 123)
def ck_plain (c : Int) : Bool := decide ((0 ≤ c ∧ c ≤ 15) ∨ (96 ≤ c ∧ c ≤ 99) ∨ (112 ≤ c ∧ c ≤ 114))
def ck_cls (c : Int) : Int := if c < 104 ∨ 111 < c then 0 else if c ≤ 107 then 1 else if c ≤ 109 then 2 else 3
def ck_lat (c : Int) : Int := if 16 ≤ c ∧ c ≤ 31 ∧ (c - 16) % 2 = 0 then c - 16 else if 32 ≤ c ∧ c ≤ 47 ∧ (c - 32) % 3 = 0 then c - 32 else c
def ck_q1 (b : Int) : Int := if b = 12 then 13 else if b = 72 ∨ b = 73 ∨ b = 74 then b - 24 else if b = 55 then 49 else if b = 96 ∨ b = 100 then 14 else if b = 97 ∨ b = 101 then 11 else if b = 109 then 105 else if b = 118 then 114 else b
def ck_q2 (b : Int) : Int := if b = 12 then 15 else if b = 55 then 49 else if b = 118 then 114 else -1
def ck_p1 (c : Int) : Int := ck_q1 (ck_lat c)
def ck_p2 (c : Int) : Int := ck_q2 (ck_lat c)
def ck_set (c : Int) : Nat := if c < 16 ∨ 123 < c then 1 else if c < 32 then 2 else if c < 48 then 4 else if c < 64 then 3592 else if c < 72 then 1040 else if c < 80 then 1056 else if c < 88 then 2112 else if c < 96 then 640 else if 100 ≤ c ∧ c ≤ 103 then 256 else 4095
theorem ck_lat_rg {c : Int} (h : 0 ≤ c ∧ c ≤ 127) : 0 ≤ ck_lat c ∧ ck_lat c ≤ 127 := by
  unfold ck_lat
  repeat' split
  all_goals omega
theorem ck_p1_rg {c : Int} (h : 0 ≤ c ∧ c ≤ 127) : 0 ≤ ck_p1 c ∧ ck_p1 c ≤ 127 := by
  have := ck_lat_rg h
  unfold ck_p1 ck_q1
  repeat' split
  all_goals omega
theorem ck_p2_rg (c : Int) : -1 ≤ ck_p2 c ∧ ck_p2 c ≤ 127 := by
  unfold ck_p2 ck_q2
  repeat' split
  all_goals omega
theorem ck_set_lt (c : Int) : ck_set c < 4096 := by
  unfold ck_set
  repeat' split
  all_goals omega
theorem ck_cls_rg (c : Int) : 0 ≤ ck_cls c ∧ ck_cls c ≤ 3 := by
  unfold ck_cls
  repeat' split
  all_goals omega
-- rows
def ck_ri (g : Nat → Int) (n : Nat) (i : Int) : Int := if 0 ≤ i ∧ i < n then g i.toNat else -1
theorem ck_ri_in {g : Nat → Int} {n k : Nat} (h : k < n) : ck_ri g n (k : Nat) = g k := by
  unfold ck_ri
  rw [if_pos (by omega), Int.toNat_natCast]
theorem ck_ri_out {g : Nat → Int} {n : Nat} {i : Int} (h : ¬ (0 ≤ i ∧ i < n)) : ck_ri g n i = -1 := by
  unfold ck_ri
  rw [if_neg h]
/-- every character of a row is one -/
def ck_ok (g : Nat → Int) (n : Nat) : Prop := ∀ k, k < n → 0 ≤ g k ∧ g k ≤ 127
theorem ck_ri_rg {g : Nat → Int} {n : Nat} (h : ck_ok g n) (i : Int) : -1 ≤ ck_ri g n i ∧ ck_ri g n i ≤ 127 := by
  unfold ck_ri
  split
  · have := h i.toNat (by omega)
    omega
  · omega
def ck_any (P : Int → Bool) (g : Nat → Int) : Nat → Bool
  | 0 => false
  | k + 1 => ck_any P g k || P (g k)
theorem ck_any_up {P : Int → Bool} {g : Nat → Int} {k : Nat} (hk : P (g k) = true) : ∀ n, k < n → ck_any P g n = true
  | 0, h => absurd h (Nat.not_lt_zero _)
  | n + 1, h => by
    unfold ck_any
    rcases Nat.lt_or_eq_of_le (Nat.le_of_lt_succ h) with h1 | h1
    · rw [ck_any_up hk n h1]; rfl
    · subst h1; rw [hk, Bool.or_true]
theorem ck_any_no {P : Int → Bool} {g : Nat → Int} {k : Nat} (h : ck_any P g k = false) (hk : P (g k) = false) : ck_any P g (k + 1) = false := by
  unfold ck_any
  rw [h, hk]
  rfl
def ck_com (g : Nat → Int) : Nat → Nat
  | 0 => 4095
  | k + 1 => ck_com g k &&& ck_set (g k)
theorem ck_com_lt (g : Nat → Int) : ∀ n, ck_com g n < 4096
  | 0 => by unfold ck_com; omega
  | n + 1 => by
    unfold ck_com
    exact Nat.lt_of_le_of_lt Nat.and_le_left (ck_com_lt g n)
def ck_off (k : Nat) (c : Int) : Bool := decide (ck_set c &&& (1 ||| k) = 0)
-- a row is filled: r is its length and what it holds
def ck_mv (g : Nat → Int) (k n : Nat) : Nat → Int := fun j => if k < j ∧ j ≤ n then g (j - 1) else g j
def ck_pos (g : Nat → Int) (x : Int) : Nat → Nat
  | 0 => 0
  | n + 1 => if ck_cls x < ck_cls (g n) then ck_pos g x n else n + 1
def ck_ps (g : Nat → Int) (x : Int) (n : Nat) : Nat := if ck_mark x = true then ck_pos g x n else n
def ck_in (r : Nat × (Nat → Int)) (x : Int) : Nat × (Nat → Int) := (r.1 + 1, zz_u (ck_mv r.2 (ck_ps r.2 x r.1) r.1) (ck_ps r.2 x r.1) x)
def ck_ap (r : Nat × (Nat → Int)) (c : Int) : Nat × (Nat → Int) := if ck_comp c = true then ck_in (ck_in r (4 * (c - 124))) (104 + c - 124) else ck_in r c
theorem ck_mv_n (g : Nat → Int) (n : Nat) : ck_mv g n n = g := by
  funext j
  unfold ck_mv
  rw [if_neg (by omega)]
theorem ck_pos_le (g : Nat → Int) (x : Int) : ∀ n, ck_pos g x n ≤ n
  | 0 => Nat.le_refl _
  | n + 1 => by
    unfold ck_pos
    split
    · exact Nat.le_trans (ck_pos_le g x n) (Nat.le_succ n)
    · exact Nat.le_refl _
theorem ck_ps_le (g : Nat → Int) (x : Int) (n : Nat) : ck_ps g x n ≤ n := by
  unfold ck_ps
  split
  · exact ck_pos_le g x n
  · exact Nat.le_refl _
theorem ck_in_no {r : Nat × (Nat → Int)} {x : Int} (h : ck_mark x = false) : ck_in r x = (r.1 + 1, zz_u r.2 r.1 x) := by
  have hp : ck_ps r.2 x r.1 = r.1 := by
    unfold ck_ps
    rw [if_neg (by rw [h]; exact Bool.false_ne_true)]
  unfold ck_in
  rw [hp, ck_mv_n]
theorem ck_mv_step {g : Nat → Int} {k n : Nat} (hk : k < n) : zz_u (ck_mv g (k + 1) n) (k + 1) (ck_mv g (k + 1) n k) = ck_mv g k n := by
  funext j
  unfold zz_u ck_mv
  by_cases h : j = k + 1
  · subst h
    rw [if_pos rfl, if_neg (by omega), if_pos (by omega)]
    rfl
  · rw [if_neg h]
    by_cases h2 : k + 1 < j ∧ j ≤ n
    · rw [if_pos h2, if_pos (by omega)]
    · rw [if_neg h2, if_neg (by omega)]
theorem ck_ap_fst (r : Nat × (Nat → Int)) (c : Int) : (ck_ap r c).1 = if ck_comp c = true then r.1 + 2 else r.1 + 1 := by
  unfold ck_ap
  split <;> rfl
theorem ck_ap_le (r : Nat × (Nat → Int)) (c : Int) : r.1 + 1 ≤ (ck_ap r c).1 ∧ (ck_ap r c).1 ≤ r.1 + 2 := by
  rw [ck_ap_fst]
  split <;> omega
/-- all that a row holds are characters -/
theorem ck_in_ok {r : Nat × (Nat → Int)} {x : Int} (h : ck_ok r.2 r.1) (hx : 0 ≤ x ∧ x ≤ 127) : ck_ok (ck_in r x).2 (ck_in r x).1 := by
  intro k hk
  have hp := ck_ps_le r.2 x r.1
  have hk : k < r.1 + 1 := hk
  show 0 ≤ zz_u (ck_mv r.2 (ck_ps r.2 x r.1) r.1) (ck_ps r.2 x r.1) x k ∧ zz_u (ck_mv r.2 (ck_ps r.2 x r.1) r.1) (ck_ps r.2 x r.1) x k ≤ 127
  generalize ck_ps r.2 x r.1 = q at hp ⊢
  unfold zz_u ck_mv
  by_cases h1 : k = q
  · rw [if_pos h1]; exact hx
  · rw [if_neg h1]
    by_cases h2 : q < k ∧ k ≤ r.1
    · rw [if_pos h2]; exact h (k - 1) (by omega)
    · rw [if_neg h2]; exact h k (by omega)
theorem ck_ap_ok {r : Nat × (Nat → Int)} {c : Int} (h : ck_ok r.2 r.1) (hc : 0 ≤ c ∧ c ≤ 127) : ck_ok (ck_ap r c).2 (ck_ap r c).1 := by
  unfold ck_ap
  split
  · rename_i h1
    have h1 : 124 ≤ c ∧ c ≤ 127 := of_decide_eq_true h1
    exact ck_in_ok (ck_in_ok h (by omega)) (by omega)
  · exact ck_in_ok h hc
/-- the same row: what lies behind the length is nobody's -/
def ck_eq (r t : Nat × (Nat → Int)) : Prop := r.1 = t.1 ∧ ∀ j, j < r.1 → r.2 j = t.2 j
theorem ck_pos_eq {g h : Nat → Int} {x : Int} : ∀ n, (∀ j, j < n → g j = h j) → ck_pos g x n = ck_pos h x n
  | 0, _ => rfl
  | n + 1, e => by
    unfold ck_pos
    rw [e n (Nat.lt_succ_self n), ck_pos_eq n (fun j hj => e j (Nat.lt_succ_of_lt hj))]
theorem ck_in_eq {r t : Nat × (Nat → Int)} {x : Int} (h : ck_eq r t) : ck_eq (ck_in r x) (ck_in t x) := by
  obtain ⟨n, g⟩ := r
  obtain ⟨n', g'⟩ := t
  obtain ⟨h1, h2⟩ := h
  dsimp only at h1 h2
  subst h1
  have hp : ck_ps g' x n = ck_ps g x n := by
    unfold ck_ps
    rw [ck_pos_eq n (fun j hj => (h2 j hj).symm)]
  have hle := ck_ps_le g x n
  refine ⟨rfl, fun j hj => ?_⟩
  have hj : j < n + 1 := hj
  show zz_u (ck_mv g (ck_ps g x n) n) (ck_ps g x n) x j = zz_u (ck_mv g' (ck_ps g' x n) n) (ck_ps g' x n) x j
  rw [hp]
  generalize ck_ps g x n = q at hle ⊢
  unfold zz_u ck_mv
  by_cases e1 : j = q
  · rw [if_pos e1, if_pos e1]
  · rw [if_neg e1, if_neg e1]
    by_cases e2 : q < j ∧ j ≤ n
    · rw [if_pos e2, if_pos e2]; exact h2 (j - 1) (by omega)
    · rw [if_neg e2, if_neg e2]; exact h2 j (by omega)
theorem ck_ap_eq {r t : Nat × (Nat → Int)} {c : Int} (h : ck_eq r t) : ck_eq (ck_ap r c) (ck_ap t c) := by
  unfold ck_ap
  split
  · exact ck_in_eq (ck_in_eq h)
  · exact ck_in_eq h
-- copying, comparing
def ck_cp (g h : Nat → Int) (k : Nat) : Nat → Int := fun j => if j < k then h j else g j
theorem ck_cp_0 (g h : Nat → Int) : ck_cp g h 0 = g := by
  funext j
  unfold ck_cp
  rw [if_neg (by omega)]
theorem ck_cp_s (g h : Nat → Int) (k : Nat) : zz_u (ck_cp g h k) k (h k) = ck_cp g h (k + 1) := by
  funext j
  unfold zz_u ck_cp
  by_cases e : j = k
  · subst e; rw [if_pos rfl, if_pos (by omega)]
  · rw [if_neg e]
    by_cases e2 : j < k
    · rw [if_pos e2, if_pos (by omega)]
    · rw [if_neg e2, if_neg (by omega)]
def ck_c3 (x y : Int) : Int := if x < y then -1 else if x = y then 0 else 1
theorem ck_c3_rg (x y : Int) : -1 ≤ ck_c3 x y ∧ ck_c3 x y ≤ 1 := by
  unfold ck_c3
  repeat' split
  all_goals omega
def ck_lex (g h : Nat → Int) (z : Int) : Nat → Nat → Int
  | _, 0 => z
  | i, r + 1 => if g i = h i then ck_lex g h z (i + 1) r else ck_c3 (g i) (h i)
def ck_ord (g : Nat → Int) (n : Nat) (h : Nat → Int) (m : Nat) : Int := ck_lex g h (ck_c3 n m) 0 (min n m)
theorem ck_lex_rg (g h : Nat → Int) (z : Int) (hz : -1 ≤ z ∧ z ≤ 1) : ∀ r i, -1 ≤ ck_lex g h z i r ∧ ck_lex g h z i r ≤ 1
  | 0, i => by unfold ck_lex; exact hz
  | r + 1, i => by
    unfold ck_lex
    split
    · exact ck_lex_rg g h z hz r (i + 1)
    · exact ck_c3_rg _ _
theorem ck_ord_rg (g : Nat → Int) (n : Nat) (h : Nat → Int) (m : Nat) : -1 ≤ ck_ord g n h m ∧ ck_ord g n h m ≤ 1 := ck_lex_rg g h _ (ck_c3_rg _ _) _ _
-- a text's skeleton: its characters without the invisible ones taken apart, then by prototypes
def ck_av (g a : Nat → Int) : Nat → Nat × (Nat → Int)
  | 0 => (0, a)
  | k + 1 => if ck_inv (g k) = true then ck_av g a k else ck_ap (ck_av g a k) (g k)
def ck_pr (r : Nat × (Nat → Int)) (c : Int) : Nat × (Nat → Int) := if ck_p2 c = -1 then ck_ap r (ck_p1 c) else ck_ap (ck_ap r (ck_p1 c)) (ck_p2 c)
def ck_bv (g b : Nat → Int) : Nat → Nat × (Nat → Int)
  | 0 => (0, b)
  | k + 1 => ck_pr (ck_bv g b k) (g k)
def ck_ao (g a : Nat → Int) : Nat → Nat × (Nat → Int)
  | 0 => (0, a)
  | k + 1 => ck_ap (ck_ao g a k) (g k)
theorem ck_mv_at {g : Nat → Int} {k n : Nat} (h : 0 < k) : ck_mv g k n (((k : Nat) : Int) - 1).toNat = g (k - 1) := by
  have e : (((k : Nat) : Int) - 1).toNat = k - 1 := by omega
  rw [e]
  unfold ck_mv
  rw [if_neg (by omega)]
theorem ck_mv_down {g : Nat → Int} {k n : Nat} (h : 0 < k ∧ k ≤ n) : zz_u (ck_mv g k n) k (ck_mv g k n (((k : Nat) : Int) - 1).toNat) = ck_mv g (k - 1) n := by
  obtain ⟨j, rfl⟩ : ∃ j, k = j + 1 := ⟨k - 1, by omega⟩
  have e : (((j + 1 : Nat) : Int) - 1).toNat = j := by omega
  rw [e]
  exact ck_mv_step (by omega)
theorem ck_pos_stop {g : Nat → Int} {x : Int} {k n : Nat} (h : 0 < k) (hc : ck_cls (ck_mv g k n (((k : Nat) : Int) - 1).toNat) ≤ ck_cls x) : ck_pos g x k = k := by
  rw [ck_mv_at h] at hc
  obtain ⟨j, rfl⟩ : ∃ j, k = j + 1 := ⟨k - 1, by omega⟩
  have hc : ck_cls (g j) ≤ ck_cls x := hc
  unfold ck_pos
  rw [if_neg (by omega)]
theorem ck_pos_go {g : Nat → Int} {x : Int} {k n : Nat} (h : 0 < k) (hc : ck_cls x < ck_cls (ck_mv g k n (((k : Nat) : Int) - 1).toNat)) : ck_pos g x (k - 1) = ck_pos g x k := by
  rw [ck_mv_at h] at hc
  obtain ⟨j, rfl⟩ : ∃ j, k = j + 1 := ⟨k - 1, by omega⟩
  have hc : ck_cls x < ck_cls (g j) := hc
  show ck_pos g x j = ck_pos g x (j + 1)
  rw [show ck_pos g x (j + 1) = if ck_cls x < ck_cls (g j) then ck_pos g x j else j + 1 from rfl, if_pos hc]
theorem ck_lex_no {g h : Nat → Int} {z : Int} {i m : Nat} (hi : i < m) (hn : ¬ g i = h i) : ck_lex g h z i (m - i) = ck_c3 (g i) (h i) := by
  obtain ⟨r, hr⟩ : ∃ r, m - i = r + 1 := ⟨m - i - 1, by omega⟩
  rw [hr]
  unfold ck_lex
  rw [if_neg hn]
theorem ck_lex_go {g h : Nat → Int} {z : Int} {i m : Nat} (hi : i < m) (he : g i = h i) : ck_lex g h z (i + 1) (m - (i + 1)) = ck_lex g h z i (m - i) := by
  obtain ⟨r, hr⟩ : ∃ r, m - i = r + 1 := ⟨m - i - 1, by omega⟩
  rw [hr, show m - (i + 1) = r by omega]
  rw [show ck_lex g h z i (r + 1) = if g i = h i then ck_lex g h z (i + 1) r else ck_c3 (g i) (h i) from rfl, if_pos he]
theorem ck_ok_u {g : Nat → Int} {n : Nat} {x : Int} (h : ck_ok g n) (hx : 0 ≤ x ∧ x ≤ 127) : ck_ok (zz_u g n x) (n + 1) := by
  intro k hk
  unfold zz_u
  by_cases e : k = n
  · rw [if_pos e]; exact hx
  · rw [if_neg e]; exact h k (by omega)
theorem ck_in_yes {n : Nat} {g : Nat → Int} {x : Int} (h : ck_mark x = true) : ck_in (n, g) x = (n + 1, zz_u (ck_mv g (ck_pos g x n) n) (ck_pos g x n) x) := by
  have hp : ck_ps g x n = ck_pos g x n := by
    unfold ck_ps
    rw [if_pos h]
  show (n + 1, zz_u (ck_mv g (ck_ps g x n) n) (ck_ps g x n) x) = _
  rw [hp]
theorem ck_ap_c {n : Nat} {g : Nat → Int} {c : Int} (h : ck_comp c = true) : ck_ap (n, g) c = (n + 1 + 1, zz_u (ck_mv (zz_u g n (4 * (c - 124))) (ck_pos (zz_u g n (4 * (c - 124))) (104 + c - 124) (n + 1)) (n + 1)) (ck_pos (zz_u g n (4 * (c - 124))) (104 + c - 124) (n + 1)) (104 + c - 124)) := by
  have h1 : 124 ≤ c ∧ c ≤ 127 := of_decide_eq_true h
  unfold ck_ap
  rw [if_pos h, ck_in_no (r := (n, g)) (x := 4 * (c - 124)) (decide_eq_false (by omega))]
  exact ck_in_yes (decide_eq_true (by omega))
theorem ck_ap_m {n : Nat} {g : Nat → Int} {c : Int} (h : ck_mark c = true) : ck_ap (n, g) c = (n + 1, zz_u (ck_mv g (ck_pos g c n) n) (ck_pos g c n) c) := by
  have h1 : 104 ≤ c ∧ c ≤ 111 := of_decide_eq_true h
  unfold ck_ap
  rw [if_neg (show ¬ ck_comp c = true from fun q => absurd (of_decide_eq_true q) (by omega))]
  exact ck_in_yes h
theorem ck_ap_n {n : Nat} {g : Nat → Int} {c : Int} (h1 : ck_comp c = false) (h2 : ck_mark c = false) : ck_ap (n, g) c = (n + 1, zz_u g n c) := by
  unfold ck_ap
  rw [if_neg (by rw [h1]; exact Bool.false_ne_true)]
  exact ck_in_no h2
-- how long a skeleton is
def ck_sum (f : Int → Nat) (g : Nat → Int) : Nat → Nat
  | 0 => 0
  | n + 1 => ck_sum f g n + f (g n)
theorem ck_sum_eq {f : Int → Nat} {g h : Nat → Int} : ∀ n, (∀ j, j < n → g j = h j) → ck_sum f g n = ck_sum f h n
  | 0, _ => rfl
  | n + 1, e => by
    unfold ck_sum
    rw [e n (Nat.lt_succ_self n), ck_sum_eq n (fun j hj => e j (Nat.lt_succ_of_lt hj))]
theorem ck_sum_le (f : Int → Nat) (g : Nat → Int) {k : Nat} : ∀ n, k ≤ n → ck_sum f g k ≤ ck_sum f g n
  | 0, h => by
    have : k = 0 := by omega
    subst this
    exact Nat.le_refl _
  | n + 1, h => by
    rcases Nat.lt_or_eq_of_le h with h1 | h1
    · exact Nat.le_trans (ck_sum_le f g n (by omega)) (Nat.le_add_right _ _)
    · rw [h1]; exact Nat.le_refl _
theorem ck_sum_put (f : Int → Nat) (g : Nat → Int) (x : Int) (p : Nat) : ∀ n, p ≤ n → ck_sum f (zz_u (ck_mv g p n) p x) (n + 1) = ck_sum f g n + f x
  | 0, h => by
    have : p = 0 := by omega
    subst this
    show 0 + f (zz_u (ck_mv g 0 0) 0 x 0) = 0 + f x
    rw [zz_us]
  | n + 1, h => by
    show ck_sum f (zz_u (ck_mv g p (n + 1)) p x) (n + 1) + f (zz_u (ck_mv g p (n + 1)) p x (n + 1)) = ck_sum f g n + f (g n) + f x
    by_cases e : p = n + 1
    · subst e
      rw [zz_us, ck_sum_eq (h := g) (n + 1) (fun j hj => by rw [zz_un (by omega)]; unfold ck_mv; rw [if_neg (by omega)])]
      rfl
    · have e1 : zz_u (ck_mv g p (n + 1)) p x (n + 1) = g n := by
        rw [zz_un (by omega)]
        unfold ck_mv
        rw [if_pos (by omega)]
        rfl
      have e2 : ck_sum f (zz_u (ck_mv g p (n + 1)) p x) (n + 1) = ck_sum f (zz_u (ck_mv g p n) p x) (n + 1) := by
        refine ck_sum_eq (n + 1) (fun j hj => ?_)
        unfold zz_u ck_mv
        by_cases e3 : j = p
        · rw [if_pos e3, if_pos e3]
        · rw [if_neg e3, if_neg e3]
          by_cases e4 : p < j
          · rw [if_pos (by omega), if_pos (by omega)]
          · rw [if_neg (by omega), if_neg (by omega)]
      rw [e1, e2, ck_sum_put f g x p n (by omega)]
      omega
theorem ck_in_sum (f : Int → Nat) (r : Nat × (Nat → Int)) (x : Int) : ck_sum f (ck_in r x).2 (ck_in r x).1 = ck_sum f r.2 r.1 + f x := ck_sum_put f r.2 x (ck_ps r.2 x r.1) r.1 (ck_ps_le r.2 x r.1)
def ck_wt (c : Int) : Nat := if ck_p2 c = -1 then 1 else 2
/-- nothing composed -/
def ck_nc (g : Nat → Int) (n : Nat) : Prop := ∀ k, k < n → 0 ≤ g k ∧ g k ≤ 123
theorem ck_nc_ok {g : Nat → Int} {n : Nat} (h : ck_nc g n) : ck_ok g n := fun k hk => by have := h k hk; omega
theorem ck_in_nc {r : Nat × (Nat → Int)} {x : Int} (h : ck_nc r.2 r.1) (hx : 0 ≤ x ∧ x ≤ 123) : ck_nc (ck_in r x).2 (ck_in r x).1 := by
  intro k hk
  have hp := ck_ps_le r.2 x r.1
  have hk : k < r.1 + 1 := hk
  show 0 ≤ zz_u (ck_mv r.2 (ck_ps r.2 x r.1) r.1) (ck_ps r.2 x r.1) x k ∧ zz_u (ck_mv r.2 (ck_ps r.2 x r.1) r.1) (ck_ps r.2 x r.1) x k ≤ 123
  generalize ck_ps r.2 x r.1 = q at hp ⊢
  unfold zz_u ck_mv
  by_cases h1 : k = q
  · rw [if_pos h1]; exact hx
  · rw [if_neg h1]
    by_cases h2 : q < k ∧ k ≤ r.1
    · rw [if_pos h2]; exact h (k - 1) (by omega)
    · rw [if_neg h2]; exact h k (by omega)
theorem ck_ap_nc {r : Nat × (Nat → Int)} {c : Int} (h : ck_nc r.2 r.1) (hc : 0 ≤ c ∧ c ≤ 127) : ck_nc (ck_ap r c).2 (ck_ap r c).1 := by
  unfold ck_ap
  split
  · rename_i h1
    have h1 : 124 ≤ c ∧ c ≤ 127 := of_decide_eq_true h1
    exact ck_in_nc (ck_in_nc h (by omega)) (by omega)
  · rename_i h1
    have h1 : ¬ (124 ≤ c ∧ c ≤ 127) := fun q => h1 (decide_eq_true q)
    exact ck_in_nc h (by omega)
theorem ck_wt_le (c : Int) : 1 ≤ ck_wt c ∧ ck_wt c ≤ 2 := by
  unfold ck_wt
  split <;> omega
theorem ck_wt_mark {c : Int} (h : 104 ≤ c ∧ c ≤ 107) : ck_wt c = 1 := by
  unfold ck_wt ck_p2 ck_q2 ck_lat
  repeat' split
  all_goals omega
theorem ck_ap_sum {r : Nat × (Nat → Int)} {c : Int} : ck_sum ck_wt (ck_ap r c).2 (ck_ap r c).1 ≤ ck_sum ck_wt r.2 r.1 + 3 := by
  unfold ck_ap
  split
  · rename_i h1
    have h1 : 124 ≤ c ∧ c ≤ 127 := of_decide_eq_true h1
    rw [ck_in_sum, ck_in_sum, ck_wt_mark (c := 104 + c - 124) (by omega)]
    have := ck_wt_le (4 * (c - 124))
    omega
  · rw [ck_in_sum]
    have := ck_wt_le c
    omega
theorem ck_av_nc {g a : Nat → Int} : ∀ n, ck_ok g n → ck_nc (ck_av g a n).2 (ck_av g a n).1
  | 0, _ => fun k hk => absurd hk (Nat.not_lt_zero k)
  | n + 1, h => by
    unfold ck_av
    have ih := ck_av_nc (a := a) n (fun k hk => h k (Nat.lt_succ_of_lt hk))
    split
    · exact ih
    · exact ck_ap_nc ih (h n (Nat.lt_succ_self n))
theorem ck_av_le (g a : Nat → Int) : ∀ n, (ck_av g a n).1 ≤ 2 * n
  | 0 => Nat.le_refl _
  | n + 1 => by
    unfold ck_av
    have ih := ck_av_le g a n
    split
    · omega
    · have := ck_ap_le (ck_av g a n) (g n)
      omega
theorem ck_av_sum (g a : Nat → Int) : ∀ n, ck_sum ck_wt (ck_av g a n).2 (ck_av g a n).1 ≤ 3 * n
  | 0 => Nat.le_refl _
  | n + 1 => by
    unfold ck_av
    have ih := ck_av_sum g a n
    split
    · omega
    · have := ck_ap_sum (r := ck_av g a n) (c := g n)
      omega
theorem ck_ap_one {r : Nat × (Nat → Int)} {c : Int} (h : c ≤ 123) : (ck_ap r c).1 = r.1 + 1 := by
  rw [ck_ap_fst, if_neg (show ¬ ck_comp c = true from fun q => absurd (of_decide_eq_true q) (by omega))]
theorem ck_p1_nc {c : Int} (h : 0 ≤ c ∧ c ≤ 123) : 0 ≤ ck_p1 c ∧ ck_p1 c ≤ 123 := by
  unfold ck_p1 ck_q1 ck_lat
  repeat' split
  all_goals omega
theorem ck_p2_nc {c : Int} : ck_p2 c = -1 ∨ (0 ≤ ck_p2 c ∧ ck_p2 c ≤ 123) := by
  unfold ck_p2 ck_q2
  repeat' split
  all_goals omega
theorem ck_pr_fst {r : Nat × (Nat → Int)} {c : Int} (h : 0 ≤ c ∧ c ≤ 123) : (ck_pr r c).1 = r.1 + ck_wt c := by
  unfold ck_pr ck_wt
  have h1 := ck_p1_nc h
  have h2 := ck_p2_nc (c := c)
  split
  · rw [ck_ap_one h1.2]
  · rw [ck_ap_one (by omega), ck_ap_one h1.2]
theorem ck_bv_len {g b : Nat → Int} : ∀ n, ck_nc g n → (ck_bv g b n).1 = ck_sum ck_wt g n
  | 0, _ => rfl
  | n + 1, h => by
    unfold ck_bv ck_sum
    rw [ck_pr_fst (h n (Nat.lt_succ_self n)), ck_bv_len n (fun k hk => h k (Nat.lt_succ_of_lt hk))]
theorem ck_pr_nc {r : Nat × (Nat → Int)} {c : Int} (h : ck_nc r.2 r.1) (hc : 0 ≤ c ∧ c ≤ 123) : ck_nc (ck_pr r c).2 (ck_pr r c).1 := by
  unfold ck_pr
  have h1 := ck_p1_nc hc
  have h2 := ck_p2_nc (c := c)
  split
  · exact ck_ap_nc h (by omega)
  · exact ck_ap_nc (ck_ap_nc h (by omega)) (by omega)
theorem ck_bv_nc {g b : Nat → Int} : ∀ n, ck_nc g n → ck_nc (ck_bv g b n).2 (ck_bv g b n).1
  | 0, _ => fun k hk => absurd hk (Nat.not_lt_zero k)
  | n + 1, h => by
    unfold ck_bv
    exact ck_pr_nc (ck_bv_nc n (fun k hk => h k (Nat.lt_succ_of_lt hk))) (h n (Nat.lt_succ_self n))
theorem ck_av_add {g a : Nat → Int} {i : Nat} (h : ck_inv (g i) = false) : ck_ap ((ck_av g a i).1, (ck_av g a i).2) (g i) = ck_av g a (i + 1) := by
  show ck_ap (ck_av g a i) (g i) = if ck_inv (g i) = true then ck_av g a i else ck_ap (ck_av g a i) (g i)
  rw [if_neg (by rw [h]; exact Bool.false_ne_true)]
theorem ck_av_skip {g a : Nat → Int} {i : Nat} (h : ck_inv (g i) = true) : ck_av g a (i + 1) = ck_av g a i := by
  show (if ck_inv (g i) = true then ck_av g a i else ck_ap (ck_av g a i) (g i)) = ck_av g a i
  rw [if_pos h]
theorem ck_bv_one {g b : Nat → Int} {j : Nat} (h : ck_p2 (g j) = -1) : ck_ap ((ck_bv g b j).1, (ck_bv g b j).2) (ck_p1 (g j)) = ck_bv g b (j + 1) := by
  show ck_ap (ck_bv g b j) (ck_p1 (g j)) = if ck_p2 (g j) = -1 then ck_ap (ck_bv g b j) (ck_p1 (g j)) else ck_ap (ck_ap (ck_bv g b j) (ck_p1 (g j))) (ck_p2 (g j))
  rw [if_pos h]
theorem ck_bv_two {g b : Nat → Int} {j : Nat} (h : ¬ ck_p2 (g j) = -1) : ck_ap ((ck_ap ((ck_bv g b j).1, (ck_bv g b j).2) (ck_p1 (g j))).1, (ck_ap ((ck_bv g b j).1, (ck_bv g b j).2) (ck_p1 (g j))).2) (ck_p2 (g j)) = ck_bv g b (j + 1) := by
  show ck_ap (ck_ap (ck_bv g b j) (ck_p1 (g j))) (ck_p2 (g j)) = if ck_p2 (g j) = -1 then ck_ap (ck_bv g b j) (ck_p1 (g j)) else ck_ap (ck_ap (ck_bv g b j) (ck_p1 (g j))) (ck_p2 (g j))
  rw [if_neg h]
theorem ck_ap_pr {r : Nat × (Nat → Int)} {c : Int} : (ck_ap r (ck_p1 c)).1 ≤ (ck_pr r c).1 := by
  unfold ck_pr
  split
  · exact Nat.le_refl _
  · have := (ck_ap_le (ck_ap r (ck_p1 c)) (ck_p2 c)).1
    omega
theorem ck_ap_pr2 {r : Nat × (Nat → Int)} {c : Int} (h : ¬ ck_p2 c = -1) : (ck_ap (ck_ap r (ck_p1 c)) (ck_p2 c)).1 = (ck_pr r c).1 := by
  unfold ck_pr
  rw [if_neg h]
theorem ck_bv_room {g a h : Nat → Int} {n j : Nat} (hn : n ≤ 48) (hg : ck_ok g n) (hj : j < (ck_av g a n).1) : (ck_pr (ck_bv (ck_av g a n).2 h j) ((ck_av g a n).2 j)).1 ≤ 144 := by
  have hG := ck_av_nc (a := a) n hg
  have h1 : (ck_bv (ck_av g a n).2 h (j + 1)).1 = ck_sum ck_wt (ck_av g a n).2 (j + 1) := ck_bv_len (j + 1) (fun k hk => hG k (by omega))
  have h2 := ck_sum_le ck_wt (ck_av g a n).2 (k := j + 1) (ck_av g a n).1 hj
  have h3 := ck_av_sum g a n
  have h4 : (ck_bv (ck_av g a n).2 h (j + 1)).1 = (ck_pr (ck_bv (ck_av g a n).2 h j) ((ck_av g a n).2 j)).1 := rfl
  omega
theorem ck_bv_max {g a h : Nat → Int} {n : Nat} (hn : n ≤ 48) (hg : ck_ok g n) : (ck_bv (ck_av g a n).2 h (ck_av g a n).1).1 ≤ 144 := by
  have h1 := ck_bv_len (b := h) (ck_av g a n).1 (ck_av_nc (a := a) n hg)
  have h3 := ck_av_sum g a n
  omega
def ck_lk (g : Nat → Int) (n : Nat) (h : Nat → Int) (m : Nat) (g2 : Nat → Int) (n2 : Nat) (h2 : Nat → Int) (m2 : Nat) : Bool := !decide (ck_ord g n g2 n2 = 0) && decide (ck_ord h m h2 m2 = 0)
theorem ck_lk_yes {g h g2 h2 : Nat → Int} {n m n2 m2 : Nat} (a : decide (ck_ord g n g2 n2 = 0) = false) (b : ck_ord h m h2 m2 = 0) : ck_lk g n h m g2 n2 h2 m2 = true := by
  unfold ck_lk
  rw [a, decide_eq_true b]
  rfl
theorem ck_lk_no1 {g h g2 h2 : Nat → Int} {n m n2 m2 : Nat} (a : decide (ck_ord g n g2 n2 = 0) = true) : ck_lk g n h m g2 n2 h2 m2 = false := by
  unfold ck_lk
  rw [a]
  rfl
theorem ck_lk_no2 {g h g2 h2 : Nat → Int} {n m n2 m2 : Nat} (b : ¬ ck_ord h m h2 m2 = 0) : ck_lk g n h m g2 n2 h2 m2 = false := by
  unfold ck_lk
  rw [decide_eq_false b, Bool.and_false]
-- what is told of a row
def ck_npl (c : Int) : Bool := !ck_plain c
theorem ck_and_lt {x y : Nat} (h : x < 4096) : x &&& y < 4096 := Nat.lt_of_le_of_lt Nat.and_le_left h
def ck_eac (g : Nat → Int) (n k : Nat) : Bool := !ck_any (ck_off k) g n
def ck_mix (g : Nat → Int) (n : Nat) : Bool := ck_eac g n 512 || ck_eac g n 1024 || ck_eac g n 2048
def ck_one (g : Nat → Int) (n : Nat) : Bool := ck_eac g n 8 || ck_eac g n 16 || ck_eac g n 32 || ck_eac g n 64 || ck_eac g n 128 || ck_eac g n 256
def ck_lev (g : Nat → Int) (n : Nat) : Int := if ck_any ck_forb g n = true then 6 else if ck_any ck_npl g n = false then 1 else if ¬ ck_com g n = 0 then 2 else if ck_mix g n = true then 3 else if ck_one g n = true then 4 else 5
theorem ck_mix_yes {g : Nat → Int} {n : Nat} (h : (!ck_any (ck_off 512) g n) = true ∨ (!ck_any (ck_off 1024) g n) = true ∨ (!ck_any (ck_off 2048) g n) = true) : ck_mix g n = true := by
  unfold ck_mix ck_eac
  rcases h with h | h | h <;> simp [h]
theorem ck_mix_no {g : Nat → Int} {n : Nat} (h1 : (!ck_any (ck_off 512) g n) = false) (h2 : (!ck_any (ck_off 1024) g n) = false) (h3 : (!ck_any (ck_off 2048) g n) = false) : ck_mix g n = false := by
  unfold ck_mix ck_eac
  rw [h1, h2, h3]
  rfl
theorem ck_one_yes {g : Nat → Int} {n : Nat} (h : (!ck_any (ck_off 8) g n) = true ∨ (!ck_any (ck_off 16) g n) = true ∨ (!ck_any (ck_off 32) g n) = true ∨ (!ck_any (ck_off 64) g n) = true ∨ (!ck_any (ck_off 128) g n) = true ∨ (!ck_any (ck_off 256) g n) = true) : ck_one g n = true := by
  unfold ck_one ck_eac
  rcases h with h | h | h | h | h | h <;> simp [h]
theorem ck_one_no {g : Nat → Int} {n : Nat} (h1 : (!ck_any (ck_off 8) g n) = false) (h2 : (!ck_any (ck_off 16) g n) = false) (h3 : (!ck_any (ck_off 32) g n) = false) (h4 : (!ck_any (ck_off 64) g n) = false) (h5 : (!ck_any (ck_off 128) g n) = false) (h6 : (!ck_any (ck_off 256) g n) = false) : ck_one g n = false := by
  unfold ck_one ck_eac
  rw [h1, h2, h3, h4, h5, h6]
  rfl
/-- a mark that stands twice: ck_tw g n looks at the places 1 to n - 1 -/
def ck_t1 (g : Nat → Int) (k : Nat) : Bool := ck_mark (g k) && decide (g k = g (k - 1))
def ck_tw (g : Nat → Int) : Nat → Bool
  | 0 => false
  | k + 1 => ck_tw g k || (decide (1 ≤ k) && ck_t1 g k)
theorem ck_tw_0 {g : Nat → Int} {n : Nat} (h : n < 1) : ck_tw g n = false := by
  have : n = 0 := by omega
  subst this
  rfl
theorem ck_tw_up {g : Nat → Int} {k : Nat} (h1 : 1 ≤ k) (hk : ck_mark (g k) = true) (he : g k = g (k - 1)) : ∀ n, k < n → ck_tw g n = true
  | 0, h => absurd h (Nat.not_lt_zero _)
  | n + 1, h => by
    unfold ck_tw
    rcases Nat.lt_or_eq_of_le (Nat.le_of_lt_succ h) with h2 | h2
    · rw [ck_tw_up h1 hk he n h2]; rfl
    · subst h2
      unfold ck_t1
      rw [hk, decide_eq_true he, decide_eq_true h1, Bool.and_self, Bool.and_self, Bool.or_true]
theorem ck_tw_no {g : Nat → Int} {k : Nat} (h : ck_tw g k = false) (hk : ¬ (104 ≤ g k ∧ g k ≤ 111) ∨ ¬ g k = g (k - 1)) : ck_tw g (k + 1) = false := by
  unfold ck_tw ck_t1
  rw [h]
  rcases hk with hk | hk
  · rw [show ck_mark (g k) = false from decide_eq_false hk, Bool.false_and, Bool.and_false]; rfl
  · rw [decide_eq_false hk, Bool.and_false, Bool.and_false]; rfl
theorem ck_ri_pr {g : Nat → Int} {n i : Nat} (h1 : 1 ≤ i) (h : i < n) : ck_ri g n (((i : Nat) : Int) - 1) = g (i - 1) := by
  rw [show ((i : Nat) : Int) - 1 = ((i - 1 : Nat) : Int) by omega, ck_ri_in (by omega)]
/-- what stands before a place: nothing (-1) before the first -/
def ck_bf (g : Nat → Int) (k : Nat) : Int := if k = 0 then -1 else g (k - 1)
theorem ck_ri_bf {g : Nat → Int} {n k : Nat} (h : k < n) : ck_ri g n (((k : Nat) : Int) - 1) = ck_bf g k := by
  unfold ck_bf
  by_cases e : k = 0
  · rw [if_pos e, ck_ri_out (by omega)]
  · rw [if_neg e, ck_ri_pr (by omega) h]
def ck_l1 (g : Nat → Int) (k : Nat) : Bool := ck_mark (g k) && !ck_letter (ck_bf g k) && !ck_mark (ck_bf g k)
def ck_lo (g : Nat → Int) : Nat → Bool
  | 0 => false
  | k + 1 => ck_lo g k || ck_l1 g k
theorem ck_lo_up {g : Nat → Int} {k n : Nat} (h1 : ck_mark (g k) = true) (h2 : ck_letter (ck_ri g n (((k : Nat) : Int) - 1)) = false) (h3 : ck_mark (ck_ri g n (((k : Nat) : Int) - 1)) = false) : ∀ j, k < j → k < n → ck_lo g j = true
  | 0, h, _ => absurd h (Nat.not_lt_zero _)
  | j + 1, h, hn => by
    unfold ck_lo
    rcases Nat.lt_or_eq_of_le (Nat.le_of_lt_succ h) with h4 | h4
    · rw [ck_lo_up h1 h2 h3 j h4 hn]; rfl
    · subst h4
      rw [ck_ri_bf hn] at h2 h3
      unfold ck_l1
      rw [h1, h2, h3, Bool.or_eq_true]
      exact Or.inr rfl
theorem ck_lo_no {g : Nat → Int} {k n : Nat} (h : ck_lo g k = false) (hn : k < n) (hk : ¬ (104 ≤ g k ∧ g k ≤ 111) ∨ (0 ≤ ck_ri g n (((k : Nat) : Int) - 1) ∧ ck_ri g n (((k : Nat) : Int) - 1) ≤ 95 ∨ 124 ≤ ck_ri g n (((k : Nat) : Int) - 1) ∧ ck_ri g n (((k : Nat) : Int) - 1) ≤ 127) ∨ (104 ≤ ck_ri g n (((k : Nat) : Int) - 1) ∧ ck_ri g n (((k : Nat) : Int) - 1) ≤ 111)) : ck_lo g (k + 1) = false := by
  rw [ck_ri_bf hn] at hk
  unfold ck_lo ck_l1
  rw [h]
  rcases hk with hk | hk | hk
  · rw [show ck_mark (g k) = false from decide_eq_false hk]; rfl
  · rw [show ck_letter (ck_bf g k) = true from decide_eq_true hk, Bool.not_true, Bool.and_false]; rfl
  · rw [show ck_mark (ck_bf g k) = true from decide_eq_true hk, Bool.not_true, Bool.and_false]; rfl
section LEV
variable {g : Nat → Int} {n : Nat}
theorem ck_lev_6 (h1 : ck_any ck_forb g n = true) : (6 : Int) = ck_lev g n := by
  unfold ck_lev
  rw [if_pos h1]
theorem ck_lev_1 (h1 : ck_any ck_forb g n = false) (h2 : (!ck_any ck_npl g n) = true) : (1 : Int) = ck_lev g n := by
  unfold ck_lev
  rw [if_neg (by rw [h1]; exact Bool.false_ne_true), if_pos (by simpa using h2)]
theorem ck_lev_2 (h1 : ck_any ck_forb g n = false) (h2 : (!ck_any ck_npl g n) = false) (h3 : ¬ ((ck_com g n : Nat) : Int) = 0) : (2 : Int) = ck_lev g n := by
  unfold ck_lev
  rw [if_neg (by rw [h1]; exact Bool.false_ne_true), if_neg (by simpa using h2), if_pos (by omega)]
theorem ck_lev_3 (h1 : ck_any ck_forb g n = false) (h2 : (!ck_any ck_npl g n) = false) (h3 : ((ck_com g n : Nat) : Int) = 0) (h4 : ck_mix g n = true) : (3 : Int) = ck_lev g n := by
  unfold ck_lev
  rw [if_neg (by rw [h1]; exact Bool.false_ne_true), if_neg (by simpa using h2), if_neg (by omega), if_pos h4]
theorem ck_lev_4 (h1 : ck_any ck_forb g n = false) (h2 : (!ck_any ck_npl g n) = false) (h3 : ((ck_com g n : Nat) : Int) = 0) (h4 : ck_mix g n = false) (h5 : ck_one g n = true) : (4 : Int) = ck_lev g n := by
  unfold ck_lev
  rw [if_neg (by rw [h1]; exact Bool.false_ne_true), if_neg (by simpa using h2), if_neg (by omega), if_neg (by rw [h4]; exact Bool.false_ne_true), if_pos h5]
theorem ck_lev_5 (h1 : ck_any ck_forb g n = false) (h2 : (!ck_any ck_npl g n) = false) (h3 : ((ck_com g n : Nat) : Int) = 0) (h4 : ck_mix g n = false) (h5 : ck_one g n = false) : (5 : Int) = ck_lev g n := by
  unfold ck_lev
  rw [if_neg (by rw [h1]; exact Bool.false_ne_true), if_neg (by simpa using h2), if_neg (by omega), if_neg (by rw [h4]; exact Bool.false_ne_true), if_neg (by rw [h5]; exact Bool.false_ne_true)]
end LEV
-- words
def ck_r0 (g : Nat → Int) (n : Nat) (i : Int) : Int := if 0 ≤ i ∧ i < n then g i.toNat else 0
theorem ck_r0_out {g : Nat → Int} {n : Nat} {i : Int} (h : ¬ (0 ≤ i ∧ i < n)) : ck_r0 g n i = 0 := by
  unfold ck_r0
  rw [if_neg h]
theorem ck_r0_in {g : Nat → Int} {n k : Nat} (h : k < n) : ck_r0 g n (k : Nat) = g k := by
  unfold ck_r0
  rw [if_pos (by omega), Int.toNat_natCast]
def ck_pc (g : Nat → Int) (n p : Nat) : Nat := if ck_alone (ck_ri g n (p : Nat)) = true then 1 else if ck_joint (ck_ri g n (p : Nat)) = true ∧ ck_alone (ck_ri g n ((p : Nat) + 1)) = true then 2 else 0
section PC
variable {g : Nat → Int} {n p : Nat}
theorem ck_pc_1 (h : ck_alone (ck_ri g n (p : Nat)) = true) : (1 : Int) = ((ck_pc g n p : Nat) : Int) := by
  unfold ck_pc
  rw [if_pos h]
  rfl
theorem ck_pc_2 (h : ck_alone (ck_ri g n (p : Nat)) = false) (h1 : ck_joint (ck_ri g n (p : Nat)) = true) (h2 : ck_alone (ck_ri g n ((p : Nat) + 1)) = true) : (2 : Int) = ((ck_pc g n p : Nat) : Int) := by
  unfold ck_pc
  rw [if_neg (by rw [h]; exact Bool.false_ne_true), if_pos ⟨h1, h2⟩]
  rfl
theorem ck_pc_00 (h : ck_alone (ck_ri g n (p : Nat)) = false) (h1 : ck_joint (ck_ri g n (p : Nat)) = false) : (0 : Int) = ((ck_pc g n p : Nat) : Int) := by
  unfold ck_pc
  rw [if_neg (by rw [h]; exact Bool.false_ne_true), if_neg (fun q => by rw [h1] at q; exact Bool.false_ne_true q.1)]
  rfl
theorem ck_pc_01 (h : ck_alone (ck_ri g n (p : Nat)) = false) (h1 : ck_alone (ck_ri g n ((p : Nat) + 1)) = false) : (0 : Int) = ((ck_pc g n p : Nat) : Int) := by
  unfold ck_pc
  rw [if_neg (by rw [h]; exact Bool.false_ne_true), if_neg (fun q => by rw [h1] at q; exact Bool.false_ne_true q.2)]
  rfl
theorem ck_pc_rg (g : Nat → Int) (n p : Nat) : ck_pc g n p ≤ 2 := by
  unfold ck_pc
  repeat' split
  all_goals omega
theorem ck_pc_in (h : p < n) : p + ck_pc g n p ≤ n := by
  by_cases h1 : ck_alone (ck_ri g n (p : Nat)) = true
  · have : ck_pc g n p = 1 := by unfold ck_pc; rw [if_pos h1]
    omega
  · by_cases h2 : ck_joint (ck_ri g n (p : Nat)) = true ∧ ck_alone (ck_ri g n ((p : Nat) + 1)) = true
    · have h3 : ck_pc g n p = 2 := by unfold ck_pc; rw [if_neg h1, if_pos h2]
      by_cases h4 : p + 1 < n
      · omega
      · have h5 := h2.2
        rw [ck_ri_out (by omega)] at h5
        exact absurd (of_decide_eq_true h5) (by omega)
    · have : ck_pc g n p = 0 := by unfold ck_pc; rw [if_neg h1, if_neg h2]
      omega
end PC
def ck_ge (g : Nat → Int) (n : Nat) : Nat → Nat → Nat
  | 0, e => e
  | f + 1, e => if e < n ∧ 0 < ck_pc g n e then ck_ge g n f (e + ck_pc g n e) else e
theorem ck_ge_out {g : Nat → Int} {n f e : Nat} (h : ¬ (e < n ∧ 0 < ck_pc g n e)) : ck_ge g n f e = e := by
  cases f with
  | zero => rfl
  | succ f =>
    unfold ck_ge
    rw [if_neg h]
theorem ck_ge_0 {g : Nat → Int} {n f e : Nat} (h : n ≤ e) : ck_ge g n f e = e := ck_ge_out (by omega)
theorem ck_ge_fix {g : Nat → Int} {n : Nat} : ∀ (f f' e : Nat), n - e ≤ f → n - e ≤ f' → ck_ge g n f e = ck_ge g n f' e
  | 0, f', e, h, _ => by
    rw [ck_ge_0 (by omega), ck_ge_0 (by omega)]
  | f + 1, 0, e, _, h => by
    rw [ck_ge_0 (by omega), ck_ge_0 (by omega)]
  | f + 1, f' + 1, e, h1, h2 => by
    unfold ck_ge
    by_cases h : e < n ∧ 0 < ck_pc g n e
    · rw [if_pos h, if_pos h]
      exact ck_ge_fix f f' _ (by omega) (by omega)
    · rw [if_neg h, if_neg h]
theorem ck_ge_go {g : Nat → Int} {n f e : Nat} (h : e < n) (hp : 0 < ck_pc g n e) (hf : n - (e + ck_pc g n e) ≤ f) : ck_ge g n f (e + ck_pc g n e) = ck_ge g n (f + 2) e := by
  rw [show ck_ge g n (f + 2) e = if e < n ∧ 0 < ck_pc g n e then ck_ge g n (f + 1) (e + ck_pc g n e) else e from rfl, if_pos ⟨h, hp⟩]
  exact ck_ge_fix f (f + 1) _ hf (by omega)
def ck_ie (g : Nat → Int) (n p : Nat) : Nat := if ck_letter (ck_ri g n (p : Nat)) = true then ck_ge g n n (p + 1) else p
theorem ck_ie_no {g : Nat → Int} {n p : Nat} (h : ck_letter (ck_ri g n (p : Nat)) = false) : ((p : Nat) : Int) = ((ck_ie g n p : Nat) : Int) := by
  unfold ck_ie
  rw [if_neg (by rw [h]; exact Bool.false_ne_true)]
theorem ck_ie_yes {g : Nat → Int} {n p : Nat} (h : ck_letter (ck_ri g n (p : Nat)) = true) : ck_ie g n p = ck_ge g n n (p + 1) := by
  unfold ck_ie
  rw [if_pos h]
theorem ck_ge_le {g : Nat → Int} {n : Nat} : ∀ (f e : Nat), e ≤ n → e ≤ ck_ge g n f e ∧ ck_ge g n f e ≤ n
  | 0, e, h => ⟨Nat.le_refl _, h⟩
  | f + 1, e, h => by
    unfold ck_ge
    split
    · rename_i h1
      have h2 := ck_pc_in (g := g) (n := n) (p := e) h1.1
      have h3 := ck_ge_le (g := g) f (e + ck_pc g n e) h2
      omega
    · exact ⟨Nat.le_refl _, h⟩
theorem ck_ie_le {g : Nat → Int} {n p : Nat} : p ≤ ck_ie g n p ∧ ck_ie g n p ≤ max n p := by
  unfold ck_ie
  by_cases h : ck_letter (ck_ri g n (p : Nat)) = true
  · rw [if_pos h]
    by_cases h1 : p < n
    · have := ck_ge_le (g := g) (n := n) n (p + 1) h1
      omega
    · rw [ck_ri_out (by omega)] at h
      exact absurd (of_decide_eq_true h) (by omega)
  · rw [if_neg h]
    omega
def ck_id (g : Nat → Int) (n : Nat) : Bool := decide (0 < n ∧ ck_ie g n 0 = n)
-- the reference's own numbers
def ck_mc (c : Int) : Int := if c < 108 then 1 else if c < 110 then 2 else 3
theorem ck_mc_cls {c : Int} (h : 104 ≤ c ∧ c ≤ 111) : ck_mc c = ck_cls c := by
  unfold ck_mc ck_cls
  repeat' split
  all_goals omega
def ck_pt (c : Int) : Int := 1000 * ck_p1 c + (if ck_p2 c = -1 then 0 else ck_p2 c + 1)
