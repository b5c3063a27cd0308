/-! More of the reference's numbers. -/
def ck_cnt (lo hi : Int) (g : Nat → Int) : Nat → Nat
  | 0 => 0
  | k + 1 => ck_cnt lo hi g k + (if lo ≤ g k ∧ g k ≤ hi then 1 else 0)
theorem ck_cnt_s {lo hi : Int} {g : Nat → Int} {k : Nat} (h : lo ≤ g k ∧ g k ≤ hi) : ((ck_cnt lo hi g k : Nat) : Int) + 1 = ((ck_cnt lo hi g (k + 1) : Nat) : Int) := by
  rw [show ck_cnt lo hi g (k + 1) = ck_cnt lo hi g k + (if lo ≤ g k ∧ g k ≤ hi then 1 else 0) from rfl, if_pos h]
  omega
theorem ck_cnt_n {lo hi : Int} {g : Nat → Int} {k : Nat} (h : ¬ (lo ≤ g k ∧ g k ≤ hi)) : ck_cnt lo hi g (k + 1) = ck_cnt lo hi g k := by
  rw [show ck_cnt lo hi g (k + 1) = ck_cnt lo hi g k + (if lo ≤ g k ∧ g k ≤ hi then 1 else 0) from rfl, if_neg h, Nat.add_zero]
theorem ck_cov_1 {s i : Nat} {G : Nat → Int} (h : (!ck_any (ck_off s) G i) = true) (h2 : ¬ ((ck_set (G i) &&& (1 ||| s) : Nat) : Int) = 0) : (!ck_any (ck_off s) G (i + 1)) = true := by
  have h3 : ck_any (ck_off s) G i = false := by simpa using h
  have h4 : ck_off s (G i) = false := decide_eq_false (by omega)
  rw [ck_any_no h3 h4]
  rfl
theorem ck_cov_0 {s i : Nat} {G : Nat → Int} (h : (!ck_any (ck_off s) G i) = false) : (!ck_any (ck_off s) G (i + 1)) = false := by
  have h3 : ck_any (ck_off s) G i = true := by simpa using h
  unfold ck_any
  rw [h3]
  rfl
theorem ck_cov_2 {s i : Nat} {G : Nat → Int} (h2 : ((ck_set (G i) &&& (1 ||| s) : Nat) : Int) = 0) : (!ck_any (ck_off s) G (i + 1)) = false := by
  have h4 : ck_off s (G i) = true := decide_eq_true (by omega)
  unfold ck_any
  rw [h4, Bool.or_true]
  rfl
def ck_sm (n n2 : Nat) (g h : Nat → Int) : Nat → Bool
  | 0 => decide (n = n2)
  | k + 1 => ck_sm n n2 g h k && decide (g k = h k)
theorem ck_sm_1 {n n2 k : Nat} {g h : Nat → Int} (a : ck_sm n n2 g h k = true) (b : g k = h k) : ck_sm n n2 g h (k + 1) = true := by
  unfold ck_sm
  rw [a, decide_eq_true b]
  rfl
theorem ck_sm_0 {n n2 k : Nat} {g h : Nat → Int} (b : ¬ g k = h k) : ck_sm n n2 g h (k + 1) = false := by
  unfold ck_sm
  rw [decide_eq_false b, Bool.and_false]
theorem ck_sm_dn {n n2 : Nat} {g h : Nat → Int} {i : Nat} (a : ck_sm n n2 g h i = false) : ∀ k, i ≤ k → ck_sm n n2 g h k = false
  | 0, e => by
    have : i = 0 := by omega
    subst this
    exact a
  | k + 1, e => by
    rcases Nat.lt_or_eq_of_le e with e1 | e1
    · unfold ck_sm
      rw [ck_sm_dn a k (by omega)]
      rfl
    · rw [← e1]; exact a
theorem ck_sm_end {n n2 : Nat} {g h : Nat → Int} {i : Nat} (hi : i ≤ n) (e : n ≤ i ∨ ck_sm n n2 g h i = false) : ck_sm n n2 g h i = ck_sm n n2 g h n := by
  rcases e with e | e
  · rw [show i = n by omega]
  · rw [e, ck_sm_dn e n hi]
theorem ck_sm_iff {n n2 : Nat} {g h : Nat → Int} : ∀ k, ck_sm n n2 g h k = true ↔ (n = n2 ∧ ∀ j, j < k → g j = h j)
  | 0 => by
    unfold ck_sm
    rw [decide_eq_true_iff]
    exact ⟨fun e => ⟨e, fun j hj => absurd hj (Nat.not_lt_zero j)⟩, fun e => e.1⟩
  | k + 1 => by
    unfold ck_sm
    rw [Bool.and_eq_true, decide_eq_true_iff, ck_sm_iff k]
    refine ⟨fun e => ⟨e.1.1, fun j hj => ?_⟩, fun e => ⟨⟨e.1, fun j hj => e.2 j (by omega)⟩, e.2 k (by omega)⟩⟩
    rcases Nat.lt_or_eq_of_le (Nat.le_of_lt_succ hj) with h1 | h1
    · exact e.1.2 j h1
    · rw [h1]; exact e.2
theorem ck_sm_len {n n2 k : Nat} {g h : Nat → Int} (a : ck_sm n n2 g h k = true) : n = n2 := ((ck_sm_iff k).mp a).1
-- bringing marks into order, one step
theorem ck_mc_rg (c : Int) : 1 ≤ ck_mc c ∧ ck_mc c ≤ 3 := by
  unfold ck_mc
  repeat' split
  all_goals omega
theorem ck_st_ok {f : Nat → Int} : ∀ k, ck_ok f k → ck_ok (ck_st f k).2 k
  | 0, _ => fun q hq => absurd hq (Nat.not_lt_zero q)
  | k + 1, h => by
    have ih := ck_st_ok (f := f) k (fun q hq => h q (Nat.lt_succ_of_lt hq))
    have e := ck_st_fst f k
    have := ck_in_ok (r := ck_st f k) (x := f k) (by rw [e]; exact ih) (h k (Nat.lt_succ_self k))
    intro q hq
    exact this q (by show q < (ck_st f k).1 + 1; rw [e]; exact hq)
theorem ck_ps_0 {g : Nat → Int} {x : Int} : ck_ps g x 0 = 0 := by
  have := ck_ps_le g x 0
  omega
theorem ck_ps_no {g : Nat → Int} {x : Int} {p : Nat} (h : ck_mark x = false) : ck_ps g x p = p := by
  unfold ck_ps
  rw [if_neg (by rw [h]; exact Bool.false_ne_true)]
theorem ck_ps_stop {g : Nat → Int} {x : Int} {p : Nat} (h : 0 < p) (hx : ck_mark x = true) (hc : ck_cls (g (p - 1)) ≤ ck_cls x) : ck_ps g x p = p := by
  unfold ck_ps
  rw [if_pos hx]
  obtain ⟨q, rfl⟩ : ∃ q, p = q + 1 := ⟨p - 1, by omega⟩
  have hc : ck_cls (g q) ≤ ck_cls x := hc
  unfold ck_pos
  rw [if_neg (by omega)]
theorem ck_ps_nx {g : Nat → Int} {x : Int} {p : Nat} (h : 0 < p) (hx : ck_mark x = true) (hy : ck_mark (g (p - 1)) = false) : ck_ps g x p = p := by
  refine ck_ps_stop h hx ?_
  have h1 : ¬ (104 ≤ g (p - 1) ∧ g (p - 1) ≤ 111) := of_decide_eq_false hy
  have h2 : ck_cls (g (p - 1)) = 0 := by unfold ck_cls; rw [if_pos (by omega)]
  have := ck_cls_rg x
  omega
theorem ck_ps_ge {g : Nat → Int} {x : Int} {p : Nat} (h : 0 < p) (hx : ck_mark x = true) (hy : ck_mark (g (p - 1)) = true) (hc : ck_mc (g (p - 1)) ≤ ck_mc x) : ck_ps g x p = p := by
  rw [ck_mc_cls (of_decide_eq_true hx), ck_mc_cls (of_decide_eq_true hy)] at hc
  exact ck_ps_stop h hx hc
theorem ck_ps_go {g : Nat → Int} {x : Int} {p : Nat} (h : 0 < p) (hx : ck_mark x = true) (hy : ck_mark (g (p - 1)) = true) (hc : ck_mc x < ck_mc (g (p - 1))) : ck_ps g x (p - 1) = ck_ps g x p := by
  rw [ck_mc_cls (of_decide_eq_true hx), ck_mc_cls (of_decide_eq_true hy)] at hc
  obtain ⟨q, rfl⟩ : ∃ q, p = q + 1 := ⟨p - 1, by omega⟩
  have hc : ck_cls x < ck_cls (g q) := hc
  show ck_ps g x q = ck_ps g x (q + 1)
  unfold ck_ps
  rw [if_pos hx, if_pos hx, show ck_pos g x (q + 1) = if ck_cls x < ck_cls (g q) then ck_pos g x q else q + 1 from rfl, if_pos hc]
theorem ck_um1 {F : Nat → Int} {x : Int} {p k : Nat} (h : 0 < p) : zz_u (ck_mv F p k) p x (p - 1) = F (p - 1) := by
  rw [zz_un (by omega)]
  unfold ck_mv
  rw [if_neg (by omega)]
theorem ck_swap2 {F : Nat → Int} {x : Int} {p k : Nat} (h : 0 < p) (hk : p ≤ k) : zz_u (zz_u (zz_u (ck_mv F p k) p x) p (F (p - 1))) (p - 1) x = zz_u (ck_mv F (p - 1) k) (p - 1) x := by
  obtain ⟨q, rfl⟩ : ∃ q, p = q + 1 := ⟨p - 1, by omega⟩
  have e : F (q + 1 - 1) = zz_u (ck_mv F (q + 1) k) (q + 1) x q := (ck_um1 (F := F) (x := x) (p := q + 1) (k := k) (by omega)).symm
  rw [e]
  exact ck_swap hk
theorem ck_st_in {f : Nat → Int} {k : Nat} : zz_u (ck_mv (ck_st f k).2 (ck_ps (ck_st f k).2 (f k) k) k) (ck_ps (ck_st f k).2 (f k) k) (f k) = (ck_st f (k + 1)).2 := by
  show _ = zz_u (ck_mv (ck_st f k).2 (ck_ps (ck_st f k).2 (f k) (ck_st f k).1) (ck_st f k).1) (ck_ps (ck_st f k).2 (f k) (ck_st f k).1) (f k)
  rw [ck_st_fst]
theorem ck_ins_id {f : Nat → Int} {k : Nat} : zz_u (ck_mv (ck_st f k).2 k k) k (f k) = (ck_st f k).2 := by
  rw [ck_mv_n]
  funext q
  by_cases e : q = k
  · subst e; rw [zz_us, ck_st_out f q q (Nat.le_refl q)]
  · rw [zz_un e]
theorem ck_st_1 {f : Nat → Int} : (ck_st f 1).2 = f := by
  have h : (ck_st f (0 + 1)).2 = f := by
    rw [← ck_st_in, ck_ps_0]
    exact ck_ins_id (f := f) (k := 0)
  exact h
theorem ck_st_end {f : Nat → Int} {j n : Nat} (h1 : 1 ≤ j) (hk : j ≤ max n 1) (h : ((n : Nat) : Int) ≤ ((j : Nat) : Int)) : (ck_st f j).2 = (ck_st f n).2 := by
  by_cases e : n = 0
  · subst e
    rw [show j = 1 by omega, ck_st_1]
    rfl
  · rw [show j = n by omega]
section ZG
variable {p : Program} {l : Launch} {e : Env} {R : Room} {s : State} {m : MethodId} {args : Array Value} {below : List Frame} {meth : Method} {c : Code} {H : Heap} {locs : List Loc} {cells slots : Nat} {Q : State → Prop}
variable {cc : ByteArray} {pc : Nat} {ls : Array Slot} {rest : List Value}
theorem zz_ldc (hexec : p.tables.exec = Jvm.exec) (hb : c.code = cc) {own : String} {index : Nat} {v : Int32} {z : Int} (hown : s.vm.findClass own = some m.cls) (hconst : (Jvm.Cond.constant own index v).before args s = true) (hz : v = zz_I z) (hdg : decode cc pc = .ok (.ldc index, 2)) (k : W p l e R s m args below meth c H locs cells slots Q (F0 m (pc + 2) ls (.int (zz_I z) :: rest))) : W p l e R s m args below meth c H locs cells slots Q (F0 m pc ls rest) := by
  subst hz
  exact lv_ldc hexec hb hown hconst hdg k
end ZG
