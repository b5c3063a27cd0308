/-! A skeleton hangs on the characters alone; rows compared hang on what they hold. -/
theorem ck_av_cong {G G' a : Nat → Int} : ∀ n, (∀ j, j < n → G j = G' j) → ck_av G a n = ck_av G' a n
  | 0, _ => rfl
  | n + 1, e => by
    unfold ck_av
    rw [e n (Nat.lt_succ_self n), ck_av_cong n (fun j hj => e j (Nat.lt_succ_of_lt hj))]
theorem ck_KN_cong {G G' : Nat → Int} {n : Nat} (e : ∀ j, j < n → G j = G' j) : ck_KN G n = ck_KN G' n := by
  unfold ck_KN
  rw [ck_av_cong n e]
theorem ck_KF_cong {G G' : Nat → Int} {n : Nat} (e : ∀ j, j < n → G j = G' j) : ck_KF G n = ck_KF G' n := by
  unfold ck_KF
  rw [ck_av_cong n e]
theorem ck_cp_ok {g h : Nat → Int} {n : Nat} (hh : ck_ok h n) : ck_ok (ck_cp g h n) n := fun k hk => by rw [ck_cp_in hk]; exact hh k hk
theorem ck_b_Kc {G G' a b : Nat → Int} {n : Nat} (e : ∀ j, j < n → G j = G' j) : ck_eq (ck_bv (ck_av G a n).2 b (ck_av G a n).1) (ck_KN G' n, ck_KF G' n) := by
  rw [← ck_KN_cong e, ← ck_KF_cong e]
  exact ck_b_K
theorem ck_lex_cong {g g' h h' : Nat → Int} {z : Int} : ∀ r i, (∀ j, j < i + r → g j = g' j) → (∀ j, j < i + r → h j = h' j) → ck_lex g h z i r = ck_lex g' h' z i r
  | 0, i, _, _ => rfl
  | r + 1, i, e1, e2 => by
    unfold ck_lex
    rw [e1 i (by omega), e2 i (by omega), ck_lex_cong r (i + 1) (fun j hj => e1 j (by omega)) (fun j hj => e2 j (by omega))]
theorem ck_ord_eq {g g' h h' : Nat → Int} {n n' m m' : Nat} (e1 : ck_eq (n, g) (n', g')) (e2 : ck_eq (m, h) (m', h')) : ck_ord g n h m = ck_ord g' n' h' m' := by
  obtain ⟨a1, a2⟩ := e1
  obtain ⟨b1, b2⟩ := e2
  dsimp only at a1 a2 b1 b2
  subst a1
  subst b1
  unfold ck_ord
  exact ck_lex_cong _ 0 (fun j hj => a2 j (by omega)) (fun j hj => b2 j (by omega))
/-- a writing of these characters: its bones are their skeleton -/
def ck_wr (g : Nat → Int) (n : Nat) (h : Nat → Int) (m : Nat) : Prop := ck_eq (m, h) (ck_KN g n, ck_KF g n)
/-- does one text look like another -/
def ck_lt (G : Nat → Int) (n : Nat) (G2 : Nat → Int) (n2 : Nat) : Bool := !decide (ck_ord G n G2 n2 = 0) && decide (ck_ord (ck_KF G n) (ck_KN G n) (ck_KF G2 n2) (ck_KN G2 n2) = 0)
theorem ck_lk_lt {g h g2 h2 G G2 : Nat → Int} {n m n2 m2 : Nat} (e1 : ∀ j, j < n → g j = G j) (e2 : ∀ j, j < n2 → g2 j = G2 j) (w1 : ck_eq (m, h) (ck_KN G n, ck_KF G n)) (w2 : ck_eq (m2, h2) (ck_KN G2 n2, ck_KF G2 n2)) : ck_lk g n h m g2 n2 h2 m2 = ck_lt G n G2 n2 := by
  unfold ck_lk ck_lt
  rw [ck_ord_eq (g := g) (g' := G) (n := n) (n' := n) (h := g2) (h' := G2) (m := n2) (m' := n2) ⟨rfl, e1⟩ ⟨rfl, e2⟩, ck_ord_eq w1 w2]
theorem ck_eq_ok {g : Nat → Int} {m n : Nat} {G : Nat → Int} {k : Nat} (w : ck_eq (m, g) (k, G)) (h : ck_ok G k) : ck_ok g m := fun q hq => by
  rw [show g q = G q from w.2 q hq]
  exact h q (by rw [← show m = k from w.1]; exact hq)
