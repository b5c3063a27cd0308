/-! The law's ties: what the class tells of names and words, and what the reference tells. -/
/-- the class's k names and the reference's: the same lengths and characters; the bones are the skeletons -/
def ck_R (nm : Nat → zz_Wt) (k : Nat) (T Sz : Nat → Int) : Prop := ∀ j, j < k → Sz j = (((nm j).2.2.2.1 : Nat) : Int) ∧ (∀ q, q < (nm j).2.2.2.1 → T (48 * j + q) = (nm j).2.2.2.2.1 q) ∧ zz_ok (nm j) ∧ ck_eq ((nm j).2.2.2.2.2.2.2.1, (nm j).2.2.2.2.2.2.2.2) (ck_KN (nm j).2.2.2.2.1 (nm j).2.2.2.1, ck_KF (nm j).2.2.2.2.1 (nm j).2.2.2.1)
abbrev ck_nn (nm : Nat → zz_Wt) : Nat → Nat := fun j => (nm j).2.2.2.1
section LW1
variable {nm : Nat → zz_Wt} {k : Nat} {T Sz : Nat → Int}
theorem ck_R_tx (h : ck_R nm k T Sz) {j : Nat} (hj : j < k) : ∀ q, q < ck_nn nm j → (nm j).2.2.2.2.1 q = ck_tx T j q := fun q hq => ((h j hj).2.1 q hq).symm
theorem ck_R_nm (h : ck_R nm k T Sz) : ∀ j, j < k → Sz j = ((ck_nn nm j : Nat) : Int) ∧ ck_nn nm j ≤ 48 ∧ ck_ok (ck_tx T j) (ck_nn nm j) := fun j hj =>
  ⟨(h j hj).1, (h j hj).2.2.1.1, fun q hq => by rw [← ck_R_tx h hj q hq]; exact (h j hj).2.2.1.2.2.1 q hq⟩
theorem ck_R_ok (h : ck_R nm k T Sz) : ∀ j, j < k → zz_ok (nm j) := fun j hj => (h j hj).2.2.1
theorem ck_R_look (h : ck_R nm k T Sz) {w r x n q z m : Nat} {g b : Nat → Int} (hg : ck_ok g n) (hw : ck_eq (m, b) (ck_KN g n, ck_KF g n)) {j : Nat} (hj : j < k) : ck_nlk (nm j) (w, r, x, n, g, q, z, m, b) = ck_ml g n (ck_tx T j) (ck_nn nm j) := by
  have e : ck_nlk (nm j) (w, r, x, n, g, q, z, m, b) = ck_lt (nm j).2.2.2.2.1 (nm j).2.2.2.1 g n := ck_lk_lt (fun _ _ => rfl) (fun _ _ => rfl) (h j hj).2.2.2 hw
  rw [e, ck_lt_sym, ck_lt_ml hg (h j hj).2.2.1.2.2.1]
  exact ck_ml_cong (fun _ _ => rfl) (ck_R_tx h hj)
theorem ck_R_lookalike (h : ck_R nm k T Sz) {w r x n q z m : Nat} {g b : Nat → Int} (hg : ck_ok g n) (hw : ck_eq (m, b) (ck_KN g n, ck_KF g n)) (i : Nat) : ck_fst (fun j => ck_nlk (nm j) (w, r, x, n, g, q, z, m, b)) i (k - i) = ck_fst (fun j => ck_ml g n (ck_tx T j) (ck_nn nm j)) i (k - i) :=
  ck_fst_cong _ _ (fun j _ h2 => ck_R_look h hg hw (by omega))
theorem ck_R_word (h : ck_R nm k T Sz) {n : Nat} {g : Nat → Int} (hg : ck_ok g n) {i : Nat} (hi : ck_wb g n i + ck_wl g n i ≤ n) (c : Int) : ck_wvc g n nm k i c = ck_wv g n T (ck_nn nm) k i c := by
  unfold ck_wvc ck_wv
  by_cases c0 : c = 0
  · rw [if_pos c0, if_pos c0]
  · rw [if_neg c0, if_neg c0]
    by_cases c1 : c = 1
    · rw [if_pos c1, if_pos c1]
    · rw [if_neg c1, if_neg c1]
      by_cases c2 : c = 2
      · rw [if_pos c2, if_pos c2]
        exact ck_fst_cong _ _ (fun j _ _ => ck_lt_lp)
      · rw [if_neg c2, if_neg c2]
        refine ck_fst_cong _ _ (fun j _ hj => ?_)
        have hj : j < k := by omega
        rw [ck_lt_sym, ck_lt_ml (ck_dp_ok hg hi) (h j hj).2.2.1.2.2.1]
        exact ck_ml_cong (fun _ _ => rfl) (ck_R_tx h hj)
theorem ck_ri_cong {g g' : Nat → Int} {n : Nat} (e : ∀ q, q < n → g q = g' q) (i : Int) : ck_ri g n i = ck_ri g' n i := by
  unfold ck_ri
  by_cases q : 0 ≤ i ∧ i < n
  · rw [if_pos q, if_pos q, e i.toNat (by omega)]
  · rw [if_neg q, if_neg q]
theorem ck_com_cong {g g' : Nat → Int} : ∀ n, (∀ q, q < n → g q = g' q) → ck_com g n = ck_com g' n
  | 0, _ => rfl
  | n + 1, e => by
    unfold ck_com
    rw [ck_com_cong n (fun q hq => e q (Nat.lt_succ_of_lt hq)), e n (Nat.lt_succ_self n)]
theorem ck_al_cong {G A A' : Nat → Int} {n m : Nat} (e : ∀ q, q < m → A q = A' q) : ck_al G n A m = ck_al G n A' m := by
  unfold ck_al
  rw [ck_com_cong m e]
theorem ck_alk_cong {G A A' : Nat → Int} {n m : Nat} (e : ∀ q, q < m → A q = A' q) : ck_alk G n A m = ck_alk G n A' m := by
  unfold ck_alk
  rw [ck_sm_cong2 e, ck_cc_cong (fun _ _ => rfl) e, ck_al_cong e]
theorem ck_lkn_alk {g b g2 b2 : Nat → Int} {n m n2 m2 : Nat} (hg : ck_ok g n) (hg2 : ck_ok g2 n2) (hw : ck_eq (m, b) (ck_KN g n, ck_KF g n)) (hw2 : ck_eq (m2, b2) (ck_KN g2 n2, ck_KF g2 n2)) : ck_lkn g n b m g2 n2 b2 m2 = ck_alk g n g2 n2 := by
  have e : ck_lk g n b m g2 n2 b2 m2 = ck_lt g n g2 n2 := ck_lk_lt (fun _ _ => rfl) (fun _ _ => rfl) hw hw2
  unfold ck_lkn ck_alk
  rw [e]
  by_cases s : ck_ord g n g2 n2 = 0
  · rw [if_pos s, if_pos (ck_ord_sm.mp s)]
  · rw [if_neg s, if_neg (fun q => s (ck_ord_sm.mpr q)), ck_lt_ml hg hg2]
    have s2 : ck_sm n n2 g g2 n = false := by
      cases q : ck_sm n n2 g g2 n with
      | false => rfl
      | true => exact absurd (ck_ord_sm.mpr q) s
    by_cases c : ck_cc g n g2 n2 = 0
    · have c2 : ck_ml g n g2 n2 = true := by unfold ck_ml; rw [s2, decide_eq_true c]; rfl
      rw [if_neg (by rw [c2]; exact Bool.noConfusion), if_neg (fun q => q c)]
    · have c2 : ck_ml g n g2 n2 = false := by unfold ck_ml; rw [decide_eq_false c, Bool.and_false]
      rw [if_pos c2, if_pos c]
theorem ck_R_alike (h : ck_R nm k T Sz) {n m : Nat} {g b : Nat → Int} (hg : ck_ok g n) (hw : ck_eq (m, b) (ck_KN g n, ck_KF g n)) {p : Nat} (hp : p < k) : ck_lkn g n b m (nm p).2.2.2.2.1 (nm p).2.2.2.1 (nm p).2.2.2.2.2.2.2.2 (nm p).2.2.2.2.2.2.2.1 = ck_alk g n (ck_tx T p) (ck_nn nm p) := by
  rw [ck_lkn_alk hg (h p hp).2.2.1.2.2.1 hw (h p hp).2.2.2]
  exact ck_alk_cong (ck_R_tx h hp)
-- places
theorem ck_R_nor (h : ck_R nm k T Sz) {j y : Nat} (hj : j < k) (hy : y < k) : ck_nor (nm j) (nm y) = ck_ord (ck_KF (nm j).2.2.2.2.1 (ck_nn nm j)) (ck_KN (nm j).2.2.2.2.1 (ck_nn nm j)) (ck_KF (nm y).2.2.2.2.1 (ck_nn nm y)) (ck_KN (nm y).2.2.2.2.1 (ck_nn nm y)) := ck_ord_eq (h j hj).2.2.2 (h y hy).2.2.2
theorem ck_R_bef (h : ck_R nm k T Sz) {j y : Nat} (hj : j < k) (hy : y < k) : ck_bef nm y j = true ↔ ck_bo (fun j => (nm j).2.2.2.2.1) (ck_nn nm) y j := by
  unfold ck_bef ck_bo
  rw [ck_R_nor h hj hy]
  exact decide_eq_true_iff
theorem ck_R_mb (h : ck_R nm k T Sz) {j y : Nat} (hj : j < k) (hy : y < k) : ck_bef nm y j = ck_mb T (ck_nn nm) y j := by
  have e1 := ck_R_bef h hj hy
  have ec : ck_cc (ck_tx T j) (ck_nn nm j) (ck_tx T y) (ck_nn nm y) = ck_cc (nm j).2.2.2.2.1 (ck_nn nm j) (nm y).2.2.2.2.1 (ck_nn nm y) := (ck_cc_cong (ck_R_tx h hj) (ck_R_tx h hy)).symm
  have e3 := ck_cc_ord (h j hj).2.2.1.2.2.1 (h y hy).2.2.1.2.2.1
  have e2 : ck_mb T (ck_nn nm) y j = true ↔ ck_bo (fun j => (nm j).2.2.2.2.1) (ck_nn nm) y j := by
    unfold ck_mb
    rw [ec, decide_eq_true_iff]
    constructor
    · rintro ⟨_, a | ⟨a, b⟩⟩
      · exact Or.inl (e3.1.mpr a)
      · exact Or.inr ⟨e3.2.mpr a, b⟩
    · intro a
      refine ⟨fun q => ?_, ?_⟩
      · rw [q] at a
        exact ck_bo_ir a
      · rcases a with a | ⟨a, b⟩
        · exact Or.inl (e3.1.mp a)
        · exact Or.inr ⟨e3.2.mp a, b⟩
  cases q : ck_bef nm y j with
  | true => exact (e2.mpr (e1.mp q)).symm
  | false =>
    cases q2 : ck_mb T (ck_nn nm) y j with
    | false => rfl
    | true => rw [e1.mpr (e2.mp q2)] at q; exact Bool.noConfusion q
theorem ck_R_plc (h : ck_R nm k T Sz) {y : Nat} (hy : y < k) : ck_plc nm y k = ck_rk T (ck_nn nm) y k := by
  rw [ck_plc_ct, ck_rk_ct]
  exact ck_ct_eq k (fun j hj => ck_R_mb h hj hy)
theorem ck_R_ranked (h : ck_R nm k T Sz) (i : Int) : ck_fst (fun j => decide (((ck_plc nm j k : Nat) : Int) = i)) 0 k = ck_fst (fun j => decide (((ck_rk T (ck_nn nm) j k : Nat) : Int) = i)) 0 k :=
  ck_fst_cong _ _ (fun j _ hj => by rw [ck_R_plc h (by omega)])
theorem ck_fst_nil {P : Nat → Bool} : ∀ r i, (∀ j, i ≤ j → j < i + r → P j = false) → ck_fst P i r = -1
  | 0, i, _ => rfl
  | r + 1, i, e => by
    unfold ck_fst
    rw [e i (Nat.le_refl i) (by omega), if_neg Bool.false_ne_true, ck_fst_nil r (i + 1) (fun j h1 h2 => e j (by omega) (by omega))]
theorem ck_fst_some {P : Nat → Bool} {y : Nat} (hP : P y = true) : ∀ r i, i ≤ y → y < i + r → ¬ ck_fst P i r = -1
  | 0, i, h1, h2 => by omega
  | r + 1, i, h1, h2 => by
    unfold ck_fst
    by_cases q : P i = true
    · rw [if_pos q]; omega
    · rw [if_neg q]
      exact ck_fst_some hP r (i + 1) (by
        rcases Nat.lt_or_ge i y with a | a
        · exact a
        · exact absurd (by rw [show i = y by omega]; exact hP) q) (by omega)
/-- the places of k names are 0 to k - 1, each taken once -/
theorem ck_R_places (h : ck_R nm k T Sz) : (∀ y, y < k → ck_plc nm y k < k) ∧ ∀ i, i < k → ∃ y, y < k ∧ ck_plc nm y k = i := by
  have hok : ∀ j, j < k → ck_ok ((fun j => (nm j).2.2.2.2.1) j) (ck_nn nm j) := fun j hj => (h j hj).2.2.1.2.2.1
  have P := ck_places (B := fun y j => if j < k ∧ y < k then ck_bef nm y j else false) (k := k)
    (fun y => by
      by_cases q : y < k
      · show (if y < k ∧ y < k then ck_bef nm y y else false) = false
        rw [if_pos ⟨q, q⟩]
        cases e : ck_bef nm y y with
        | false => rfl
        | true => exact absurd ((ck_R_bef h q q).mp e) ck_bo_ir
      · show (if y < k ∧ y < k then ck_bef nm y y else false) = false
        rw [if_neg (fun z => q z.1)])
    (fun x y hx hy ne => by
      show (if x < k ∧ y < k then ck_bef nm y x else false) = true ∨ (if y < k ∧ x < k then ck_bef nm x y else false) = true
      rw [if_pos ⟨hx, hy⟩, if_pos ⟨hy, hx⟩, ck_R_bef h hx hy, ck_R_bef h hy hx]
      exact ck_bo_tot hok hx hy ne)
    (fun x y z hx hy hz => by
      show (if x < k ∧ y < k then ck_bef nm y x else false) = true → (if y < k ∧ z < k then ck_bef nm z y else false) = true → (if x < k ∧ z < k then ck_bef nm z x else false) = true
      rw [if_pos ⟨hx, hy⟩, if_pos ⟨hy, hz⟩, if_pos ⟨hx, hz⟩, ck_R_bef h hx hy, ck_R_bef h hy hz, ck_R_bef h hx hz]
      exact ck_bo_tr hok hx hy hz)
  have e : ∀ y, y < k → ck_ct (fun j => if j < k ∧ y < k then ck_bef nm y j else false) k = ck_plc nm y k := fun y hy => by
    rw [ck_plc_ct]
    exact ck_ct_eq k (fun j hj => if_pos ⟨hj, hy⟩)
  refine ⟨fun y hy => by rw [← e y hy]; exact P.1 y hy, fun i hi => ?_⟩
  obtain ⟨y, hy, q⟩ := P.2 i hi
  exact ⟨y, hy, by rw [← e y hy]; exact q⟩
theorem ck_R_ranked_no (h : ck_R nm k T Sz) {i : Int} (hi : ¬ (0 ≤ i ∧ i < ((k : Nat) : Int))) : ck_fst (fun j => decide (((ck_rk T (ck_nn nm) j k : Nat) : Int) = i)) 0 k = -1 :=
  ck_fst_nil _ _ (fun j _ hj => by
    have := (ck_R_places h).1 j (by omega)
    rw [← ck_R_plc h (by omega)]
    exact decide_eq_false (by omega))
theorem ck_R_ranked_yes (h : ck_R nm k T Sz) {i : Int} (hi : 0 ≤ i ∧ i < ((k : Nat) : Int)) : ¬ ck_fst (fun j => decide (((ck_rk T (ck_nn nm) j k : Nat) : Int) = i)) 0 k = -1 := by
  obtain ⟨y, hy, q⟩ := (ck_R_places h).2 i.toNat (by omega)
  refine ck_fst_some (y := y) ?_ _ _ (Nat.zero_le y) (by omega)
  show decide _ = true
  rw [← ck_R_plc h hy]
  exact decide_eq_true (by omega)
-- typing
theorem ck_ty_tb {g : Nat → Int} {x : Int64} {s t : Nat} (h : ∀ q, q < s → T (576 + q) = g q) : ∀ q, q < s + t → ck_ty T x s t t (576 + q) = ck_tb g x s t t q := fun q hq => by
  unfold ck_ty ck_tb
  by_cases e : s ≤ q
  · rw [if_pos (by omega), if_pos (by omega), show 576 + q - (576 + s) = q - s by omega]
  · rw [if_neg (by omega), if_neg (by omega)]
    exact h q (by omega)
theorem ck_ty_lo {x : Int64} {s t q : Nat} (h : q < 576) : ck_ty T x s t t q = T q := by
  unfold ck_ty
  rw [if_neg (by omega)]
theorem ck_R_mono (h : ck_R nm k T Sz) {T' Sz' : Nat → Int} (hk : k ≤ 12) (e1 : ∀ q, q < 576 → T' q = T q) (e2 : ∀ j, j < 12 → Sz' j = Sz j) : ck_R nm k T' Sz' := fun j hj =>
  ⟨(e2 j (by omega)).trans (h j hj).1, fun q hq => (e1 _ (by have := (h j hj).2.2.1.1; omega)).trans ((h j hj).2.1 q hq), (h j hj).2.2⟩
-- registering
theorem ck_anyN_cong {P P' : Nat → Bool} : ∀ k, (∀ j, j < k → P j = P' j) → ck_anyN P k = ck_anyN P' k
  | 0, _ => rfl
  | k + 1, e => by
    unfold ck_anyN
    rw [ck_anyN_cong k (fun j hj => e j (Nat.lt_succ_of_lt hj)), e k (Nat.lt_succ_self k)]
theorem ck_R_holds (h : ck_R nm k T Sz) {w r x n q z m : Nat} {g b : Nat → Int} : ck_anyN (fun j => ck_nsm (nm j) (w, r, x, n, g, q, z, m, b)) k = ck_anyN (fun j => ck_sm n (ck_nn nm j) g (ck_tx T j) n) k := by
  refine ck_anyN_cong k (fun j hj => ?_)
  show decide (ck_ord (nm j).2.2.2.2.1 (nm j).2.2.2.1 g n = 0) = _
  rw [ck_dec_sm, ck_sm_sym]
  exact ck_sm_cong2 (ck_R_tx h hj)
/-- the names with another at place k -/
def ck_adn (nm : Nat → zz_Wt) (k n : Nat) (g : Nat → Int) (m : Nat) (b : Nat → Int) : Nat → zz_Wt := fun j => if j = k then ((nm k).1, (nm k).2.1, (nm k).2.2.1, n, ck_cp (nm k).2.2.2.2.1 g n, (nm k).2.2.2.2.2.1, (nm k).2.2.2.2.2.2.1, m, ck_cp (nm k).2.2.2.2.2.2.2.2 b m) else nm j
theorem ck_adn_1 (k n m : Nat) (g b : Nat → Int) (j : Nat) : (ck_adn nm k n g m b j).1 = (nm j).1 := by
  unfold ck_adn
  by_cases e : j = k
  · rw [if_pos e, e]
  · rw [if_neg e]
theorem ck_R_add (h : ck_R nm k T Sz) (hk : k < 12) {n m : Nat} {g b : Nat → Int} (hn : n ≤ 48) (hm : m ≤ 144) (hg : ck_ok g n) (hb : ck_ok b m) (hw : ck_eq (m, b) (ck_KN g n, ck_KF g n)) (ht : ∀ q, q < n → T (576 + q) = g q) : ck_R (ck_adn nm k n g m b) (k + 1) (ck_tc T 0 k n) (zz_u Sz k ((n : Nat) : Int)) := by
  intro j hj
  unfold ck_adn
  by_cases e : j = k
  · rw [if_pos e]
    subst e
    have e3 : ∀ q, q < n → ck_cp (nm j).2.2.2.2.1 g n q = g q := fun q hq => ck_cp_in hq
    refine ⟨zz_us, fun q hq => ?_, ⟨hn, hm, ck_cp_ok hg, ck_cp_ok hb⟩, ?_⟩
    · show ck_tc T 0 j n (48 * j + q) = ck_cp _ g n q
      rw [ck_tc_in hq, e3 q hq]
      exact ht q hq
    · show ck_eq (m, ck_cp _ b m) (ck_KN (ck_cp _ g n) n, ck_KF (ck_cp _ g n) n)
      rw [ck_KN_cong e3, ck_KF_cong e3]
      exact ⟨hw.1, fun q hq => (ck_cp_in hq).trans (hw.2 q hq)⟩
  · rw [if_neg e]
    have a := h j (by omega)
    refine ⟨(zz_un e).trans a.1, fun q hq => ?_, a.2.2⟩
    rw [ck_tc_lo (by have := a.2.2.1.1; omega)]
    exact a.2.1 q hq
theorem ck_tc_hi {s to k q : Nat} (h : 48 * to + k ≤ q) : ck_tc T s to k q = T q := by
  unfold ck_tc
  rw [if_neg (by omega)]
-- withdrawing
theorem ck_drp_lo {p q : Nat} (hp : p < k) (h : q < p) : ck_drp nm p k q = nm q := by
  unfold ck_drp ck_dr
  rw [if_neg (by omega), if_neg (by omega)]
theorem ck_drp_mi {p q : Nat} (h : p ≤ q) (h2 : q < k - 1) : ck_drp nm p k q = nm (q + 1) := by
  unfold ck_drp ck_dr
  rw [if_neg (by omega), if_pos ⟨h, h2⟩]
theorem ck_drp_la {p : Nat} : ck_drp nm p k (k - 1) = nm p := by
  unfold ck_drp
  rw [if_pos rfl]
theorem ck_drp_hi {p q : Nat} (hk : 0 < k) (h : k ≤ q) : ck_drp nm p k q = nm q := by
  unfold ck_drp ck_dr
  rw [if_neg (by omega), if_neg (by omega)]
theorem ck_R_drop (h : ck_R nm k T Sz) {p : Nat} (hp : p < k) : ck_R (ck_drp nm p k) (k - 1) (ck_sh T (48 * p) (48 * (k - 1))) (ck_s1 Sz p (k - 1)) := by
  intro j hj
  by_cases e : j < p
  · rw [ck_drp_lo hp e]
    have a := h j (by omega)
    refine ⟨?_, fun q hq => ?_, a.2.2⟩
    · unfold ck_s1
      rw [if_neg (by omega)]
      exact a.1
    · unfold ck_sh
      rw [if_neg (by have := a.2.2.1.1; omega)]
      exact a.2.1 q hq
  · rw [ck_drp_mi (by omega) hj]
    have a := h (j + 1) (by omega)
    refine ⟨?_, fun q hq => ?_, a.2.2⟩
    · unfold ck_s1
      rw [if_pos (by omega)]
      exact a.1
    · unfold ck_sh
      rw [if_pos (by have := a.2.2.1.1; omega), show 48 * j + q + 48 = 48 * (j + 1) + q by omega]
      exact a.2.1 q hq
/-- withdrawing moves the names about: which is where afterwards, and back -/
def ck_dp1 (p k q : Nat) : Nat := if q < p then q else if q < k - 1 then q + 1 else if q = k - 1 then p else q
theorem ck_drp_at {p : Nat} (hp : p < k) (q : Nat) : ck_drp nm p k q = nm (ck_dp1 p k q) := by
  unfold ck_dp1
  by_cases a : q < p
  · rw [if_pos a, ck_drp_lo hp a]
  · rw [if_neg a]
    by_cases b : q < k - 1
    · rw [if_pos b, ck_drp_mi (by omega) b]
    · rw [if_neg b]
      by_cases c : q = k - 1
      · rw [if_pos c, c, ck_drp_la]
      · rw [if_neg c, ck_drp_hi (by omega) (by omega)]
theorem ck_dp1_inj {p q r : Nat} (hp : p < k) (h : ck_dp1 p k q = ck_dp1 p k r) : q = r := by
  unfold ck_dp1 at h
  split at h <;> (try split at h) <;> (try split at h) <;> (try split at h) <;> (try split at h) <;> (try split at h) <;> omega
theorem ck_dp1_lt {p q : Nat} (hk : k ≤ 12) (hq : q < 12) : ck_dp1 p k q < 12 := by
  unfold ck_dp1
  split <;> (try split) <;> (try split) <;> omega
end LW1
