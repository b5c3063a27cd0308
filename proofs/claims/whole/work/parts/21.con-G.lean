abbrev zz_Wt : Type := Nat × Nat × Nat × Nat × (Nat → Int) × Nat × Nat × Nat × (Nat → Int)
def zz_wr (cI : ClassId) (t : zz_Wt) : va_W := [(t.1, .inr (3, [.ref t.2.1, .ref t.2.2.2.2.2.1])), (t.2.1, .inr (1, [.ref t.2.2.1, .int (zz_I (((t.2.2.2.1 : Nat) : Int)))])), (t.2.2.1, .inl (cI, 48, .inl (zz_A (t.2.2.2.2.1)))), (t.2.2.2.2.2.1, .inr (1, [.ref t.2.2.2.2.2.2.1, .int (zz_I (((t.2.2.2.2.2.2.2.1 : Nat) : Int)))])), (t.2.2.2.2.2.2.1, .inl (cI, 144, .inl (zz_A (t.2.2.2.2.2.2.2.2))))]
def zz_ok (t : zz_Wt) : Prop := t.2.2.2.1 ≤ 48 ∧ t.2.2.2.2.2.2.2.1 ≤ 144 ∧ ck_ok t.2.2.2.2.1 t.2.2.2.1 ∧ ck_ok t.2.2.2.2.2.2.2.2 t.2.2.2.2.2.2.2.1
/-- two names hold the same characters; one looks like the other; one's skeleton against the other's -/
def ck_nsm (t u : zz_Wt) : Bool := decide (ck_ord t.2.2.2.2.1 t.2.2.2.1 u.2.2.2.2.1 u.2.2.2.1 = 0)
def ck_nlk (t u : zz_Wt) : Bool := ck_lk t.2.2.2.2.1 t.2.2.2.1 t.2.2.2.2.2.2.2.2 t.2.2.2.2.2.2.2.1 u.2.2.2.2.1 u.2.2.2.1 u.2.2.2.2.2.2.2.2 u.2.2.2.2.2.2.2.1
def ck_nor (t u : zz_Wt) : Int := ck_ord t.2.2.2.2.2.2.2.2 t.2.2.2.2.2.2.2.1 u.2.2.2.2.2.2.2.2 u.2.2.2.2.2.2.2.1
def ck_anyN (P : Nat → Bool) : Nat → Bool
  | 0 => false
  | k + 1 => ck_anyN P k || P k
theorem ck_anyN_up {P : Nat → Bool} {k : Nat} (hk : P k = true) : ∀ n, k < n → ck_anyN P n = true
  | 0, h => absurd h (Nat.not_lt_zero _)
  | n + 1, h => by
    unfold ck_anyN
    rcases Nat.lt_or_eq_of_le (Nat.le_of_lt_succ h) with h1 | h1
    · rw [ck_anyN_up hk n h1]; rfl
    · subst h1; rw [hk, Bool.or_true]
theorem ck_anyN_no {P : Nat → Bool} {k : Nat} (h : ck_anyN P k = false) (hk : P k = false) : ck_anyN P (k + 1) = false := by
  unfold ck_anyN
  rw [h, hk]
  rfl
/-- the first from i on, r of them, that meets P; -1 -/
def ck_fst (P : Nat → Bool) : Nat → Nat → Int
  | _, 0 => -1
  | i, r + 1 => if P i = true then (i : Nat) else ck_fst P (i + 1) r
theorem ck_fst_yes {P : Nat → Bool} {i k : Nat} (h : i < k) (hp : P i = true) : ck_fst P i (k - i) = (i : Nat) := by
  obtain ⟨r, hr⟩ : ∃ r, k - i = r + 1 := ⟨k - i - 1, by omega⟩
  rw [hr]
  unfold ck_fst
  rw [if_pos hp]
theorem ck_fst_go {P : Nat → Bool} {i k : Nat} (h : i < k) (hp : P i = false) : ck_fst P (i + 1) (k - (i + 1)) = ck_fst P i (k - i) := by
  obtain ⟨r, hr⟩ : ∃ r, k - i = r + 1 := ⟨k - i - 1, by omega⟩
  rw [hr, show k - (i + 1) = r by omega]
  rw [show ck_fst P i (r + 1) = if P i = true then ((i : Nat) : Int) else ck_fst P (i + 1) r from rfl, if_neg (by rw [hp]; exact Bool.false_ne_true)]
theorem ck_fst_none {P : Nat → Bool} {i k : Nat} (h : k ≤ i) : ck_fst P i (k - i) = -1 := by
  rw [show k - i = 0 by omega]
  rfl
/-- a name's place among the first k: how many come before it -/
def ck_bef (nm : Nat → zz_Wt) (y j : Nat) : Bool := decide (ck_nor (nm j) (nm y) < 0 ∨ (ck_nor (nm j) (nm y) = 0 ∧ j < y))
def ck_plc (nm : Nat → zz_Wt) (y : Nat) : Nat → Nat
  | 0 => 0
  | k + 1 => ck_plc nm y k + (if ck_bef nm y k = true then 1 else 0)
theorem ck_plc_le (nm : Nat → zz_Wt) (y : Nat) : ∀ k, ck_plc nm y k ≤ k
  | 0 => Nat.le_refl _
  | k + 1 => by
    unfold ck_plc
    have := ck_plc_le nm y k
    split <;> omega
theorem ck_plc_s {nm : Nat → zz_Wt} {y j : Nat} (h : ck_bef nm y j = true) : ((ck_plc nm y j : Nat) : Int) + 1 = ((ck_plc nm y (j + 1) : Nat) : Int) := by
  rw [show ck_plc nm y (j + 1) = ck_plc nm y j + (if ck_bef nm y j = true then 1 else 0) from rfl, if_pos h]
  omega
theorem ck_plc_n {nm : Nat → zz_Wt} {y j : Nat} (h : ck_bef nm y j = false) : ((ck_plc nm y j : Nat) : Int) = ((ck_plc nm y (j + 1) : Nat) : Int) := by
  rw [show ck_plc nm y (j + 1) = ck_plc nm y j + (if ck_bef nm y j = true then 1 else 0) from rfl, if_neg (by rw [h]; exact Bool.false_ne_true)]
  omega
set_option maxHeartbeats 4000000 in
set_option maxRecDepth 100000 in
theorem kc_G_count (l : Launch) (D : va_G) (cI cW : ClassId) (o : Nat) (b : Nat) (k : Nat)  {v : Int} (hv : ((k : Nat) : Int) = v) : Met l ky_G_count kv_G_count ({ frames := 0, cells := 0, slots := 0, locals := 0 }) (va_Pc [.ref o] (zz_P D cI cW (va_P D kcl [(o, .inr (0, [.ref b, .int (zz_I (((k : Nat) : Int)))]))]))) (zz_Qp (.int (zz_I v))) 0 0 (fun _ => False) := by
  subst hv
  refine Met.ofW (cc := kb_G_count) (maxL := 1) (ret := (some .int)) (by decide) rfl ?_
  intro pg ev sg mg ag bl mt cd s1 Bd hml hv
  obtain ⟨rfl, hP, hK⟩ := hv
  have hP : va_P D kcl [(o, .inr (0, [.ref b, .int (zz_I (((k : Nat) : Int)))]))] sg.heap := hP
  have hx := Bd.exec
  have hb := Bd.bytes
  have hr := Bd.returns
  have hlocks := Bd.notSynchronized
  have hts : ∀ w ∈ zz_tbl, w.before _ sg = true := fun w h => atoms_spec (ws := kv_G_count) Bd.pre w (List.mem_cons_of_mem _ h)
  have hown : sg.vm.findClass kn_G = some mg.cls := findClass_of_methodNamed Bd.named
  have hl := lv_entry ([.ref o]) (n := 1) (Nat.le_of_ble_eq_true rfl)
  rw [lg_entry_eq]
  generalize (lg_sl ([.ref o]) ++ List.replicate (1 - (lg_sl ([.ref o])).length) Slot.unset).toArray = ls at hl ⊢
  have hl : lv_has ls 1 [(0, .ref o)] := hl
  refine lv_aload_n hx hb kd_G_count_0 rfl (lv_at hl 0 rfl) ?_
  refine va_get (D := D) (ci := 0) (v := .int (zz_I (((k : Nat) : Int)))) (C := kn_G) (T := kf_G) (N := 2) hx hb hts ki_G hown hK hP 0 rfl rfl 1 (by decide) (hts _ kw_87) (fun _ h9 => h9) rfl kd_G_count_1 ?_
  exact W.iret hx hb hr (zz_endp (by rfl)) (fun _ h => nomatch h) kd_G_count_4
set_option maxHeartbeats 4000000 in
set_option maxRecDepth 100000 in
theorem kc_G_has (l : Launch) (D : va_G) (cI cW : ClassId) (o : Nat) (b : Nat) (k : Nat) (i : Int) (hk : k ≤ 12) (hi : -2147483648 ≤ i ∧ i ≤ 2147483647) {v : Int} (hv : zz_b (decide (0 ≤ i ∧ i < (k : Nat))) = v) : Met l ky_G_has kv_G_has ({ frames := 0, cells := 0, slots := 0, locals := 0 }) (va_Pc [.ref o, .int (zz_I (i))] (zz_P D cI cW (va_P D kcl [(o, .inr (0, [.ref b, .int (zz_I (((k : Nat) : Int)))]))]))) (zz_Qp (.int (zz_I v))) 0 0 (fun _ => False) := by
  subst hv
  refine Met.ofW (cc := kb_G_has) (maxL := 2) (ret := (some .boolean)) (by decide) rfl ?_
  intro pg ev sg mg ag bl mt cd s1 Bd hml hv
  obtain ⟨rfl, hP, hK⟩ := hv
  have hP : va_P D kcl [(o, .inr (0, [.ref b, .int (zz_I (((k : Nat) : Int)))]))] sg.heap := hP
  have hx := Bd.exec
  have hb := Bd.bytes
  have hr := Bd.returns
  have hlocks := Bd.notSynchronized
  have hts : ∀ w ∈ zz_tbl, w.before _ sg = true := fun w h => atoms_spec (ws := kv_G_has) Bd.pre w (List.mem_cons_of_mem _ h)
  have hown : sg.vm.findClass kn_G = some mg.cls := findClass_of_methodNamed Bd.named
  have hl := lv_entry ([.ref o, .int (zz_I (i))]) (n := 2) (Nat.le_of_ble_eq_true rfl)
  rw [lg_entry_eq]
  generalize (lg_sl ([.ref o, .int (zz_I (i))]) ++ List.replicate (2 - (lg_sl ([.ref o, .int (zz_I (i))])).length) Slot.unset).toArray = ls at hl ⊢
  have hl : lv_has ls 2 [(0, .ref o), (1, .int (zz_I (i)))] := hl
  refine lv_iload_n hx hb kd_G_has_0 rfl (lv_at hl 1 rfl) ?_
  refine zz_if_lt (tgt := 16) hx hb kd_G_has_1 (by decide) (by omega) (fun hbr1 => ?_) (fun hbr1 => ?_)
  · refine zz_iconst hx hb (v := 0) (rfl) kd_G_has_16 ?_
    exact W.zret (ty := .boolean) hx hb hr (by decide) (zz_endp (zz_f (decide_eq_false (by omega)))) (fun _ h => nomatch h) kd_G_has_17
  · refine lv_iload_n hx hb kd_G_has_4 rfl (lv_at hl 1 rfl) ?_
    refine lv_aload_n hx hb kd_G_has_5 rfl (lv_at hl 0 rfl) ?_
    refine va_get (D := D) (ci := 0) (v := .int (zz_I (((k : Nat) : Int)))) (C := kn_G) (T := kf_G) (N := 2) hx hb hts ki_G hown hK hP 0 rfl rfl 1 (by decide) (hts _ kw_87) (fun _ h9 => h9) rfl kd_G_has_6 ?_
    refine zz_icmp_ge (tgt := 16) hx hb kd_G_has_9 (by decide) (by omega) (fun hbr9 => ?_) (fun hbr9 => ?_)
    · refine zz_iconst hx hb (v := 0) (rfl) kd_G_has_16 ?_
      exact W.zret (ty := .boolean) hx hb hr (by decide) (zz_endp (zz_f (decide_eq_false (by omega)))) (fun _ h => nomatch h) kd_G_has_17
    · refine zz_iconst hx hb (v := 1) (rfl) kd_G_has_12 ?_
      refine lv_goto (tgt := 17) hx hb kd_G_has_13 (by decide) ?_
      exact W.zret (ty := .boolean) hx hb hr (by decide) (zz_endp (zz_t (decide_eq_true (by omega)))) (fun _ h => nomatch h) kd_G_has_17
set_option maxHeartbeats 4000000 in
set_option maxRecDepth 100000 in
theorem kc_G_isFull (l : Launch) (D : va_G) (cI cW : ClassId) (o : Nat) (b : Nat) (k : Nat) (hk : k ≤ 12) {v : Int} (hv : zz_b (decide (12 ≤ k)) = v) : Met l ky_G_isFull kv_G_isFull ({ frames := 0, cells := 0, slots := 0, locals := 0 }) (va_Pc [.ref o] (zz_P D cI cW (va_P D kcl [(o, .inr (0, [.ref b, .int (zz_I (((k : Nat) : Int)))]))]))) (zz_Qp (.int (zz_I v))) 0 0 (fun _ => False) := by
  subst hv
  refine Met.ofW (cc := kb_G_isFull) (maxL := 1) (ret := (some .boolean)) (by decide) rfl ?_
  intro pg ev sg mg ag bl mt cd s1 Bd hml hv
  obtain ⟨rfl, hP, hK⟩ := hv
  have hP : va_P D kcl [(o, .inr (0, [.ref b, .int (zz_I (((k : Nat) : Int)))]))] sg.heap := hP
  have hx := Bd.exec
  have hb := Bd.bytes
  have hr := Bd.returns
  have hlocks := Bd.notSynchronized
  have hts : ∀ w ∈ zz_tbl, w.before _ sg = true := fun w h => atoms_spec (ws := kv_G_isFull) Bd.pre w (List.mem_cons_of_mem _ h)
  have hown : sg.vm.findClass kn_G = some mg.cls := findClass_of_methodNamed Bd.named
  have hl := lv_entry ([.ref o]) (n := 1) (Nat.le_of_ble_eq_true rfl)
  rw [lg_entry_eq]
  generalize (lg_sl ([.ref o]) ++ List.replicate (1 - (lg_sl ([.ref o])).length) Slot.unset).toArray = ls at hl ⊢
  have hl : lv_has ls 1 [(0, .ref o)] := hl
  refine lv_aload_n hx hb kd_G_isFull_0 rfl (lv_at hl 0 rfl) ?_
  refine va_get (D := D) (ci := 0) (v := .int (zz_I (((k : Nat) : Int)))) (C := kn_G) (T := kf_G) (N := 2) hx hb hts ki_G hown hK hP 0 rfl rfl 1 (by decide) (hts _ kw_87) (fun _ h9 => h9) rfl kd_G_isFull_1 ?_
  refine zz_bipush hx hb kd_G_isFull_4 (by decide) ?_
  refine zz_icmp_lt (tgt := 13) hx hb kd_G_isFull_6 (by decide) (by omega) (fun hbr6 => ?_) (fun hbr6 => ?_)
  · refine zz_iconst hx hb (v := 0) (rfl) kd_G_isFull_13 ?_
    exact W.zret (ty := .boolean) hx hb hr (by decide) (zz_endp (zz_f (decide_eq_false (by omega)))) (fun _ h => nomatch h) kd_G_isFull_14
  · refine zz_iconst hx hb (v := 1) (rfl) kd_G_isFull_9 ?_
    refine lv_goto (tgt := 14) hx hb kd_G_isFull_10 (by decide) ?_
    exact W.zret (ty := .boolean) hx hb hr (by decide) (zz_endp (zz_t (decide_eq_true (by omega)))) (fun _ h => nomatch h) kd_G_isFull_14
set_option maxHeartbeats 4000000 in
set_option maxRecDepth 100000 in
theorem kc_G_get (l : Launch) (D : va_G) (cI cW : ClassId) (o : Nat) (b : Nat) (k : Nat) (nm : Nat → zz_Wt) (i : Nat) (hi : i < 12) : Met l ky_G_get kv_G_get ({ frames := 0, cells := 0, slots := 0, locals := 0 }) (va_Pc [.ref o, .int (zz_I (((i : Nat) : Int)))] (zz_P D cI cW (va_P D kcl [(o, .inr (0, [.ref b, .int (zz_I (((k : Nat) : Int)))])), (b, .inl (cW, 12, .inr (.inr (.inr (.inr (fun j => some (nm j).1))))))]))) (zz_Qp (.ref ((nm i).1))) 0 0 (fun _ => False) := by
  refine Met.ofW (cc := kb_G_get) (maxL := 2) (ret := (some (.object "LookalikeDesk$Writing"))) (by decide) rfl ?_
  intro pg ev sg mg ag bl mt cd s1 Bd hml hv
  obtain ⟨rfl, hP, hK⟩ := hv
  have hP : va_P D kcl [(o, .inr (0, [.ref b, .int (zz_I (((k : Nat) : Int)))])), (b, .inl (cW, 12, .inr (.inr (.inr (.inr (fun j => some (nm j).1))))))] sg.heap := hP
  have hx := Bd.exec
  have hb := Bd.bytes
  have hr := Bd.returns
  have hlocks := Bd.notSynchronized
  have hts : ∀ w ∈ zz_tbl, w.before _ sg = true := fun w h => atoms_spec (ws := kv_G_get) Bd.pre w (List.mem_cons_of_mem _ h)
  have hown : sg.vm.findClass kn_G = some mg.cls := findClass_of_methodNamed Bd.named
  have hl := lv_entry ([.ref o, .int (zz_I (((i : Nat) : Int)))]) (n := 2) (Nat.le_of_ble_eq_true rfl)
  rw [lg_entry_eq]
  generalize (lg_sl ([.ref o, .int (zz_I (((i : Nat) : Int)))]) ++ List.replicate (2 - (lg_sl ([.ref o, .int (zz_I (((i : Nat) : Int)))])).length) Slot.unset).toArray = ls at hl ⊢
  have hl : lv_has ls 2 [(0, .ref o), (1, .int (zz_I (((i : Nat) : Int))))] := hl
  refine lv_aload_n hx hb kd_G_get_0 rfl (lv_at hl 0 rfl) ?_
  refine va_get (D := D) (ci := 0) (v := .ref b) (C := kn_G) (T := kf_G) (N := 2) hx hb hts ki_G hown hK hP 0 rfl rfl 0 (by decide) (hts _ kw_86) (fun _ h9 => h9) rfl kd_G_get_1 ?_
  refine lv_iload_n hx hb kd_G_get_4 rfl (lv_at hl 1 rfl) ?_
  refine zz_aald (ad := fun j => (nm j).1) hx hb hK hP 1 1 rfl rfl (by omega) (v := (nm i).1) rfl kd_G_get_5 ?_
  exact W.aret hx hb hr (Or.inl ⟨_, rfl⟩) (Or.inr ⟨_, rfl⟩) (zz_endr (rfl)) (fun _ h => nomatch h) kd_G_get_6
set_option maxHeartbeats 4000000 in
set_option maxRecDepth 100000 in
theorem kc_G_holds (l : Launch) (D : va_G) (cI cW : ClassId) (o : Nat) (b : Nat) (k : Nat) (nm : Nat → zz_Wt) (w2 : Nat) (r2 : Nat) (x2 : Nat) (n2 : Nat) (g2 : Nat → Int) (q2 : Nat) (z2 : Nat) (m2 : Nat) (h2 : Nat → Int) (hk : k ≤ 12) (hok : ∀ j, j < k → zz_ok (nm j)) (hn2 : n2 ≤ 48) (hm2 : m2 ≤ 144) (hg2 : ck_ok g2 n2) (hh2 : ck_ok h2 m2) {v : Int} (hv : zz_b (ck_anyN (fun j => ck_nsm (nm j) (w2, r2, x2, n2, g2, q2, z2, m2, h2)) k) = v) : Met l ky_G_holds kv_G_holds ({ frames := 3, cells := 0, slots := 0, locals := 84 }) (va_Pc [.ref o, .ref w2] (zz_P D cI cW (fun H => va_P D kcl [(o, .inr (0, [.ref b, .int (zz_I (((k : Nat) : Int)))])), (b, .inl (cW, 12, .inr (.inr (.inr (.inr (fun j => some (nm j).1)))))), (w2, .inr (3, [.ref r2, .ref q2])), (r2, .inr (1, [.ref x2, .int (zz_I (((n2 : Nat) : Int)))])), (x2, .inl (cI, 48, .inl (zz_A (g2)))), (q2, .inr (1, [.ref z2, .int (zz_I (((m2 : Nat) : Int)))])), (z2, .inl (cI, 144, .inl (zz_A (h2))))] H ∧ ∀ j, j < k → va_P D kcl (zz_wr cI (nm j)) H))) (zz_Qp (.int (zz_I v))) 0 0 (fun _ => False) := by
  subst hv
  refine Met.ofW (cc := kb_G_holds) (maxL := 3) (ret := (some .boolean)) (by decide) rfl ?_
  intro pg ev sg mg ag bl mt cd s1 Bd hml hv
  obtain ⟨rfl, hP, hK⟩ := hv
  have hPic := hP
  have hx := Bd.exec
  have hb := Bd.bytes
  have hr := Bd.returns
  have hlocks := Bd.notSynchronized
  have hts : ∀ w ∈ zz_tbl, w.before _ sg = true := fun w h => atoms_spec (ws := kv_G_holds) Bd.pre w (List.mem_cons_of_mem _ h)
  have hown : sg.vm.findClass kn_G = some mg.cls := findClass_of_methodNamed Bd.named
  have hl := lv_entry ([.ref o, .ref w2]) (n := 3) (Nat.le_of_ble_eq_true rfl)
  rw [lg_entry_eq]
  generalize (lg_sl ([.ref o, .ref w2]) ++ List.replicate (3 - (lg_sl ([.ref o, .ref w2])).length) Slot.unset).toArray = ls at hl ⊢
  have hl : lv_has ls 3 [(0, .ref o), (1, .ref w2)] := hl
  obtain ⟨hP, hNm⟩ := hPic
  have hP : va_P D kcl [(o, .inr (0, [.ref b, .int (zz_I (((k : Nat) : Int)))])), (b, .inl (cW, 12, .inr (.inr (.inr (.inr (fun j => some (nm j).1)))))), (w2, .inr (3, [.ref r2, .ref q2])), (r2, .inr (1, [.ref x2, .int (zz_I (((n2 : Nat) : Int)))])), (x2, .inl (cI, 48, .inl (zz_A (g2)))), (q2, .inr (1, [.ref z2, .int (zz_I (((m2 : Nat) : Int)))])), (z2, .inl (cI, 144, .inl (zz_A (h2))))] sg.heap := hP
  refine zz_iconst hx hb (v := 0) (rfl) kd_G_holds_0 ?_
  refine lv_istore_n hx hb kd_G_holds_1 rfl hl (by decide) rfl (fun ls hl => ?_)
  have hl : lv_has ls 3 [(2, .int (zz_I (0))), (0, .ref o), (1, .ref w2)] := hl
  have lp2 : ∀ (fuel : Nat) (i : Nat) (ls : Array Slot), k - i < fuel → (i ≤ k) → (ck_anyN (fun j => ck_nsm (nm j) (w2, r2, x2, n2, g2, q2, z2, m2, h2)) i = false) → lv_has ls 3 [(0, .ref o), (1, .ref w2), (2, .int (zz_I (((i : Nat) : Int))))] → W pg l ev (headSpec kv_G_holds ({ frames := 3, cells := 0, slots := 0, locals := 84 })).room sg mg [.ref o, .ref w2].toArray bl mt cd sg.heap [] 0 0 (MQ bl (zz_Qp (.int (zz_I (zz_b (ck_anyN (fun j => ck_nsm (nm j) (w2, r2, x2, n2, g2, q2, z2, m2, h2)) k))))) [.ref o, .ref w2].toArray sg 0 0 (fun _ => False)) (F0 mg 2 ls []) := by
    intro fuel
    induction fuel with
    | zero => intro i ls hfu; exact absurd hfu (Nat.not_lt_zero _)
    | succ fuel ih2 =>
      intro i ls hfu hi hq hl
      refine lv_iload_n hx hb kd_G_holds_2 rfl (lv_at hl 2 rfl) ?_
      refine lv_aload_n hx hb kd_G_holds_3 rfl (lv_at hl 0 rfl) ?_
      refine va_get (D := D) (ci := 0) (v := .int (zz_I (((k : Nat) : Int)))) (C := kn_G) (T := kf_G) (N := 2) hx hb hts ki_G hown hK hP 0 rfl rfl 1 (by decide) (hts _ kw_87) (fun _ h9 => h9) rfl kd_G_holds_4 ?_
      refine zz_icmp_ge (tgt := 31) hx hb kd_G_holds_7 (by decide) (by omega) (fun hbr7 => ?_) (fun hbr7 => ?_)
      · refine zz_iconst hx hb (v := 0) (rfl) kd_G_holds_31 ?_
        exact W.zret (ty := .boolean) hx hb hr (by decide) (zz_endp (zz_f (by have e : i = k := (by omega); rw [← e]; exact hq))) (fun _ h => nomatch h) kd_G_holds_32
      · have hP := hP.app (hNm i (by omega))
        have hP : va_P D kcl [(o, .inr (0, [.ref b, .int (zz_I (((k : Nat) : Int)))])), (b, .inl (cW, 12, .inr (.inr (.inr (.inr (fun j => some (nm j).1)))))), (w2, .inr (3, [.ref r2, .ref q2])), (r2, .inr (1, [.ref x2, .int (zz_I (((n2 : Nat) : Int)))])), (x2, .inl (cI, 48, .inl (zz_A (g2)))), (q2, .inr (1, [.ref z2, .int (zz_I (((m2 : Nat) : Int)))])), (z2, .inl (cI, 144, .inl (zz_A (h2)))), ((nm i).1, .inr (3, [.ref ((nm i).2.1), .ref ((nm i).2.2.2.2.2.1)])), ((nm i).2.1, .inr (1, [.ref ((nm i).2.2.1), .int (zz_I ((((nm i).2.2.2.1 : Nat) : Int)))])), ((nm i).2.2.1, .inl (cI, 48, .inl (zz_A ((nm i).2.2.2.2.1)))), ((nm i).2.2.2.2.2.1, .inr (1, [.ref ((nm i).2.2.2.2.2.2.1), .int (zz_I ((((nm i).2.2.2.2.2.2.2.1 : Nat) : Int)))])), ((nm i).2.2.2.2.2.2.1, .inl (cI, 144, .inl (zz_A ((nm i).2.2.2.2.2.2.2.2))))] sg.heap := hP
        refine lv_aload_n hx hb kd_G_holds_10 rfl (lv_at hl 0 rfl) ?_
        refine va_get (D := D) (ci := 0) (v := .ref b) (C := kn_G) (T := kf_G) (N := 2) hx hb hts ki_G hown hK hP 0 rfl rfl 0 (by decide) (hts _ kw_86) (fun _ h9 => h9) rfl kd_G_holds_11 ?_
        refine lv_iload_n hx hb kd_G_holds_14 rfl (lv_at hl 2 rfl) ?_
        refine zz_aald (ad := fun j => (nm j).1) hx hb hK hP 1 1 rfl rfl (by omega) (v := (nm i).1) rfl kd_G_holds_15 ?_
        refine lv_aload_n hx hb kd_G_holds_16 rfl (lv_at hl 1 rfl) ?_
        refine zz_pV ⟨hx, hb, hml, hown, hts⟩ hK (kc_W_isSameAs l D cI cW ((nm i).1) ((nm i).2.1) ((nm i).2.2.1) ((nm i).2.2.2.1) ((nm i).2.2.2.2.1) ((nm i).2.2.2.2.2.1) ((nm i).2.2.2.2.2.2.1) ((nm i).2.2.2.2.2.2.2.1) ((nm i).2.2.2.2.2.2.2.2) w2 r2 x2 n2 g2 q2 z2 m2 h2 ((hok i (by omega)).1) ((hok i (by omega)).2.1) ((hok i (by omega)).2.2.1) ((hok i (by omega)).2.2.2) (by omega) (by omega) (by assumption) (by assumption) rfl) (zz_gV kw_501 kw_323 kw_324 kw_27 kw_325) ⟨rfl, rfl⟩ ⟨rfl, kh_W_isSameAs⟩ ⟨Nat.le_of_ble_eq_true rfl, Nat.le_of_ble_eq_true rfl⟩ (va_recv (q := (kn_W, kf_W, 2)) hK hP rfl (show ([(o, .inr (0, [.ref b, .int (zz_I (((k : Nat) : Int)))])), (b, .inl (cW, 12, .inr (.inr (.inr (.inr (fun j => some (nm j).1)))))), (w2, .inr (3, [.ref r2, .ref q2])), (r2, .inr (1, [.ref x2, .int (zz_I (((n2 : Nat) : Int)))])), (x2, .inl (cI, 48, .inl (zz_A (g2)))), (q2, .inr (1, [.ref z2, .int (zz_I (((m2 : Nat) : Int)))])), (z2, .inl (cI, 144, .inl (zz_A (h2)))), ((nm i).1, .inr (3, [.ref ((nm i).2.1), .ref ((nm i).2.2.2.2.2.1)])), ((nm i).2.1, .inr (1, [.ref ((nm i).2.2.1), .int (zz_I ((((nm i).2.2.2.1 : Nat) : Int)))])), ((nm i).2.2.1, .inl (cI, 48, .inl (zz_A ((nm i).2.2.2.2.1)))), ((nm i).2.2.2.2.2.1, .inr (1, [.ref ((nm i).2.2.2.2.2.2.1), .int (zz_I ((((nm i).2.2.2.2.2.2.2.1 : Nat) : Int)))])), ((nm i).2.2.2.2.2.2.1, .inl (cI, 144, .inl (zz_A ((nm i).2.2.2.2.2.2.2.2))))] : va_W)[7]? = some _ from rfl)) (hP.sub (ws' := [((nm i).1, .inr (3, [.ref ((nm i).2.1), .ref ((nm i).2.2.2.2.2.1)])), ((nm i).2.1, .inr (1, [.ref ((nm i).2.2.1), .int (zz_I ((((nm i).2.2.2.1 : Nat) : Int)))])), ((nm i).2.2.1, .inl (cI, 48, .inl (zz_A ((nm i).2.2.2.2.1)))), ((nm i).2.2.2.2.2.1, .inr (1, [.ref ((nm i).2.2.2.2.2.2.1), .int (zz_I ((((nm i).2.2.2.2.2.2.2.1 : Nat) : Int)))])), ((nm i).2.2.2.2.2.2.1, .inl (cI, 144, .inl (zz_A ((nm i).2.2.2.2.2.2.2.2)))), (w2, .inr (3, [.ref r2, .ref q2])), (r2, .inr (1, [.ref x2, .int (zz_I (((n2 : Nat) : Int)))])), (x2, .inl (cI, 48, .inl (zz_A (g2)))), (q2, .inr (1, [.ref z2, .int (zz_I (((m2 : Nat) : Int)))])), (z2, .inl (cI, 144, .inl (zz_A (h2))))]) [7, 8, 9, 10, 11, 2, 3, 4, 5, 6] rfl) rfl hl.1 rfl (Nat.le_of_ble_eq_true rfl) kd_G_holds_17 ⟨Nat.le_of_ble_eq_true rfl, Nat.le_of_ble_eq_true rfl⟩ ?_
        refine zz_ifb_eq (tgt := 25) hx hb kd_G_holds_20 (by decide) (fun hbr20 => ?_) (fun hbr20 => ?_)
        · have hbr20 := of_decide_eq_false hbr20
          refine zz_iinc (k := 2) hx hb kd_G_holds_25 hl rfl rfl (by decide) rfl (fun ls hl => ?_)
          have hl : lv_has ls 3 [(2, .int (zz_I (((i : Nat) : Int) + 1))), (0, .ref o), (1, .ref w2)] := hl
          refine lv_goto (tgt := 2) hx hb kd_G_holds_28 (by decide) ?_
          exact ih2 (i + 1) ls (by omega) (by omega) (ck_anyN_no hq (decide_eq_false (by assumption))) (lv_sub hl [1, 2, 0] rfl)
        · have hbr20 := of_decide_eq_true hbr20
          refine zz_iconst hx hb (v := 1) (rfl) kd_G_holds_23 ?_
          exact W.zret (ty := .boolean) hx hb hr (by decide) (zz_endp (zz_t (ck_anyN_up (k := i) (decide_eq_true (by assumption)) k (by omega)))) (fun _ h => nomatch h) kd_G_holds_24
  exact lp2 _ 0 ls (Nat.lt_succ_self _) (Nat.zero_le _) (rfl) (lv_sub hl [1, 2, 0] rfl)
set_option maxHeartbeats 4000000 in
set_option maxRecDepth 100000 in
theorem kc_G_firstLike (l : Launch) (D : va_G) (cI cW : ClassId) (o : Nat) (b : Nat) (k : Nat) (nm : Nat → zz_Wt) (w2 : Nat) (r2 : Nat) (x2 : Nat) (n2 : Nat) (g2 : Nat → Int) (q2 : Nat) (z2 : Nat) (m2 : Nat) (h2 : Nat → Int) (f : Int) (hk : k ≤ 12) (hok : ∀ j, j < k → zz_ok (nm j)) (hn2 : n2 ≤ 48) (hm2 : m2 ≤ 144) (hg2 : ck_ok g2 n2) (hh2 : ck_ok h2 m2) (hf : -2147483648 ≤ f ∧ f ≤ 2147483647) {v : Int} (hv : ck_fst (fun j => ck_nlk (nm j) (w2, r2, x2, n2, g2, q2, z2, m2, h2)) (max f 0).toNat (k - (max f 0).toNat) = v) : Met l ky_G_firstLike kv_G_firstLike ({ frames := 4, cells := 0, slots := 0, locals := 105 }) (va_Pc [.ref o, .ref w2, .int (zz_I (f))] (zz_P D cI cW (fun H => va_P D kcl [(o, .inr (0, [.ref b, .int (zz_I (((k : Nat) : Int)))])), (b, .inl (cW, 12, .inr (.inr (.inr (.inr (fun j => some (nm j).1)))))), (w2, .inr (3, [.ref r2, .ref q2])), (r2, .inr (1, [.ref x2, .int (zz_I (((n2 : Nat) : Int)))])), (x2, .inl (cI, 48, .inl (zz_A (g2)))), (q2, .inr (1, [.ref z2, .int (zz_I (((m2 : Nat) : Int)))])), (z2, .inl (cI, 144, .inl (zz_A (h2))))] H ∧ ∀ j, j < k → va_P D kcl (zz_wr cI (nm j)) H))) (zz_Qp (.int (zz_I v))) 0 0 (fun _ => False) := by
  subst hv
  refine Met.ofW (cc := kb_G_firstLike) (maxL := 4) (ret := (some .int)) (by decide) rfl ?_
  intro pg ev sg mg ag bl mt cd s1 Bd hml hv
  obtain ⟨rfl, hP, hK⟩ := hv
  have hPic := hP
  have hx := Bd.exec
  have hb := Bd.bytes
  have hr := Bd.returns
  have hlocks := Bd.notSynchronized
  have hts : ∀ w ∈ zz_tbl, w.before _ sg = true := fun w h => atoms_spec (ws := kv_G_firstLike) Bd.pre w (List.mem_cons_of_mem _ h)
  have hown : sg.vm.findClass kn_G = some mg.cls := findClass_of_methodNamed Bd.named
  have hl := lv_entry ([.ref o, .ref w2, .int (zz_I (f))]) (n := 4) (Nat.le_of_ble_eq_true rfl)
  rw [lg_entry_eq]
  generalize (lg_sl ([.ref o, .ref w2, .int (zz_I (f))]) ++ List.replicate (4 - (lg_sl ([.ref o, .ref w2, .int (zz_I (f))])).length) Slot.unset).toArray = ls at hl ⊢
  have hl : lv_has ls 4 [(0, .ref o), (1, .ref w2), (2, .int (zz_I (f)))] := hl
  obtain ⟨hP, hNm⟩ := hPic
  have hP : va_P D kcl [(o, .inr (0, [.ref b, .int (zz_I (((k : Nat) : Int)))])), (b, .inl (cW, 12, .inr (.inr (.inr (.inr (fun j => some (nm j).1)))))), (w2, .inr (3, [.ref r2, .ref q2])), (r2, .inr (1, [.ref x2, .int (zz_I (((n2 : Nat) : Int)))])), (x2, .inl (cI, 48, .inl (zz_A (g2)))), (q2, .inr (1, [.ref z2, .int (zz_I (((m2 : Nat) : Int)))])), (z2, .inl (cI, 144, .inl (zz_A (h2))))] sg.heap := hP
  refine lv_iload_n hx hb kd_G_firstLike_0 rfl (lv_at hl 2 rfl) ?_
  refine zz_iconst hx hb (v := 0) (rfl) kd_G_firstLike_1 ?_
  refine zz_mmax hx hb (hml.trans hl.1.symm) hown (hts _ kw_317) (hts _ kw_303) (hts _ kw_39) (hts _ kw_304) (Nat.le_of_ble_eq_true rfl) (Nat.le_of_ble_eq_true rfl) ⟨Nat.le_of_ble_eq_true rfl, Nat.le_of_ble_eq_true rfl⟩ (v := (((max f 0).toNat : Nat) : Int)) (by omega) (by omega) kd_G_firstLike_2 ?_
  refine lv_istore_n hx hb kd_G_firstLike_5 rfl hl (by decide) rfl (fun ls hl => ?_)
  have hl : lv_has ls 4 [(3, .int (zz_I ((((max f 0).toNat : Nat) : Int)))), (0, .ref o), (1, .ref w2), (2, .int (zz_I (f)))] := hl
  have lp6 : ∀ (fuel : Nat) (i : Nat) (ls : Array Slot), k - i < fuel → (ck_fst (fun j => ck_nlk (nm j) (w2, r2, x2, n2, g2, q2, z2, m2, h2)) i (k - i) = ck_fst (fun j => ck_nlk (nm j) (w2, r2, x2, n2, g2, q2, z2, m2, h2)) (max f 0).toNat (k - (max f 0).toNat)) → (i ≤ 2147483647) → lv_has ls 4 [(0, .ref o), (1, .ref w2), (2, .int (zz_I (f))), (3, .int (zz_I (((i : Nat) : Int))))] → W pg l ev (headSpec kv_G_firstLike ({ frames := 4, cells := 0, slots := 0, locals := 105 })).room sg mg [.ref o, .ref w2, .int (zz_I (f))].toArray bl mt cd sg.heap [] 0 0 (MQ bl (zz_Qp (.int (zz_I (ck_fst (fun j => ck_nlk (nm j) (w2, r2, x2, n2, g2, q2, z2, m2, h2)) (max f 0).toNat (k - (max f 0).toNat))))) [.ref o, .ref w2, .int (zz_I (f))].toArray sg 0 0 (fun _ => False)) (F0 mg 6 ls []) := by
    intro fuel
    induction fuel with
    | zero => intro i ls hfu; exact absurd hfu (Nat.not_lt_zero _)
    | succ fuel ih6 =>
      intro i ls hfu hq hi hl
      refine lv_iload_n hx hb kd_G_firstLike_6 rfl (lv_at hl 3 rfl) ?_
      refine lv_aload_n hx hb kd_G_firstLike_7 rfl (lv_at hl 0 rfl) ?_
      refine va_get (D := D) (ci := 0) (v := .int (zz_I (((k : Nat) : Int)))) (C := kn_G) (T := kf_G) (N := 2) hx hb hts ki_G hown hK hP 0 rfl rfl 1 (by decide) (hts _ kw_87) (fun _ h9 => h9) rfl kd_G_firstLike_8 ?_
      refine zz_icmp_ge (tgt := 35) hx hb kd_G_firstLike_11 (by decide) (by omega) (fun hbr11 => ?_) (fun hbr11 => ?_)
      · refine zz_iconst hx hb (v := -1) (rfl) kd_G_firstLike_35 ?_
        exact W.iret hx hb hr (zz_endp (by rw [← hq, ck_fst_none (by omega)])) (fun _ h => nomatch h) kd_G_firstLike_36
      · have hP := hP.app (hNm i (by omega))
        have hP : va_P D kcl [(o, .inr (0, [.ref b, .int (zz_I (((k : Nat) : Int)))])), (b, .inl (cW, 12, .inr (.inr (.inr (.inr (fun j => some (nm j).1)))))), (w2, .inr (3, [.ref r2, .ref q2])), (r2, .inr (1, [.ref x2, .int (zz_I (((n2 : Nat) : Int)))])), (x2, .inl (cI, 48, .inl (zz_A (g2)))), (q2, .inr (1, [.ref z2, .int (zz_I (((m2 : Nat) : Int)))])), (z2, .inl (cI, 144, .inl (zz_A (h2)))), ((nm i).1, .inr (3, [.ref ((nm i).2.1), .ref ((nm i).2.2.2.2.2.1)])), ((nm i).2.1, .inr (1, [.ref ((nm i).2.2.1), .int (zz_I ((((nm i).2.2.2.1 : Nat) : Int)))])), ((nm i).2.2.1, .inl (cI, 48, .inl (zz_A ((nm i).2.2.2.2.1)))), ((nm i).2.2.2.2.2.1, .inr (1, [.ref ((nm i).2.2.2.2.2.2.1), .int (zz_I ((((nm i).2.2.2.2.2.2.2.1 : Nat) : Int)))])), ((nm i).2.2.2.2.2.2.1, .inl (cI, 144, .inl (zz_A ((nm i).2.2.2.2.2.2.2.2))))] sg.heap := hP
        refine lv_aload_n hx hb kd_G_firstLike_14 rfl (lv_at hl 0 rfl) ?_
        refine va_get (D := D) (ci := 0) (v := .ref b) (C := kn_G) (T := kf_G) (N := 2) hx hb hts ki_G hown hK hP 0 rfl rfl 0 (by decide) (hts _ kw_86) (fun _ h9 => h9) rfl kd_G_firstLike_15 ?_
        refine lv_iload_n hx hb kd_G_firstLike_18 rfl (lv_at hl 3 rfl) ?_
        refine zz_aald (ad := fun j => (nm j).1) hx hb hK hP 1 1 rfl rfl (by omega) (v := (nm i).1) rfl kd_G_firstLike_19 ?_
        refine lv_aload_n hx hb kd_G_firstLike_20 rfl (lv_at hl 1 rfl) ?_
        refine zz_pV ⟨hx, hb, hml, hown, hts⟩ hK (kc_W_looksLike l D cI cW ((nm i).1) ((nm i).2.1) ((nm i).2.2.1) ((nm i).2.2.2.1) ((nm i).2.2.2.2.1) ((nm i).2.2.2.2.2.1) ((nm i).2.2.2.2.2.2.1) ((nm i).2.2.2.2.2.2.2.1) ((nm i).2.2.2.2.2.2.2.2) w2 r2 x2 n2 g2 q2 z2 m2 h2 ((hok i (by omega)).1) ((hok i (by omega)).2.1) ((hok i (by omega)).2.2.1) ((hok i (by omega)).2.2.2) (by omega) (by omega) (by assumption) (by assumption) rfl) (zz_gV kw_318 kw_319 kw_320 kw_27 kw_321) ⟨rfl, rfl⟩ ⟨rfl, kh_W_looksLike⟩ ⟨Nat.le_of_ble_eq_true rfl, Nat.le_of_ble_eq_true rfl⟩ (va_recv (q := (kn_W, kf_W, 2)) hK hP rfl (show ([(o, .inr (0, [.ref b, .int (zz_I (((k : Nat) : Int)))])), (b, .inl (cW, 12, .inr (.inr (.inr (.inr (fun j => some (nm j).1)))))), (w2, .inr (3, [.ref r2, .ref q2])), (r2, .inr (1, [.ref x2, .int (zz_I (((n2 : Nat) : Int)))])), (x2, .inl (cI, 48, .inl (zz_A (g2)))), (q2, .inr (1, [.ref z2, .int (zz_I (((m2 : Nat) : Int)))])), (z2, .inl (cI, 144, .inl (zz_A (h2)))), ((nm i).1, .inr (3, [.ref ((nm i).2.1), .ref ((nm i).2.2.2.2.2.1)])), ((nm i).2.1, .inr (1, [.ref ((nm i).2.2.1), .int (zz_I ((((nm i).2.2.2.1 : Nat) : Int)))])), ((nm i).2.2.1, .inl (cI, 48, .inl (zz_A ((nm i).2.2.2.2.1)))), ((nm i).2.2.2.2.2.1, .inr (1, [.ref ((nm i).2.2.2.2.2.2.1), .int (zz_I ((((nm i).2.2.2.2.2.2.2.1 : Nat) : Int)))])), ((nm i).2.2.2.2.2.2.1, .inl (cI, 144, .inl (zz_A ((nm i).2.2.2.2.2.2.2.2))))] : va_W)[7]? = some _ from rfl)) (hP.sub (ws' := [((nm i).1, .inr (3, [.ref ((nm i).2.1), .ref ((nm i).2.2.2.2.2.1)])), ((nm i).2.1, .inr (1, [.ref ((nm i).2.2.1), .int (zz_I ((((nm i).2.2.2.1 : Nat) : Int)))])), ((nm i).2.2.1, .inl (cI, 48, .inl (zz_A ((nm i).2.2.2.2.1)))), ((nm i).2.2.2.2.2.1, .inr (1, [.ref ((nm i).2.2.2.2.2.2.1), .int (zz_I ((((nm i).2.2.2.2.2.2.2.1 : Nat) : Int)))])), ((nm i).2.2.2.2.2.2.1, .inl (cI, 144, .inl (zz_A ((nm i).2.2.2.2.2.2.2.2)))), (w2, .inr (3, [.ref r2, .ref q2])), (r2, .inr (1, [.ref x2, .int (zz_I (((n2 : Nat) : Int)))])), (x2, .inl (cI, 48, .inl (zz_A (g2)))), (q2, .inr (1, [.ref z2, .int (zz_I (((m2 : Nat) : Int)))])), (z2, .inl (cI, 144, .inl (zz_A (h2))))]) [7, 8, 9, 10, 11, 2, 3, 4, 5, 6] rfl) rfl hl.1 rfl (Nat.le_of_ble_eq_true rfl) kd_G_firstLike_21 ⟨Nat.le_of_ble_eq_true rfl, Nat.le_of_ble_eq_true rfl⟩ ?_
        refine zz_ifb_eq (tgt := 29) hx hb kd_G_firstLike_24 (by decide) (fun hbr24 => ?_) (fun hbr24 => ?_)
        · refine zz_iinc (k := 3) hx hb kd_G_firstLike_29 hl rfl rfl (by decide) rfl (fun ls hl => ?_)
          have hl : lv_has ls 4 [(3, .int (zz_I (((i : Nat) : Int) + 1))), (0, .ref o), (1, .ref w2), (2, .int (zz_I (f)))] := hl
          refine lv_goto (tgt := 6) hx hb kd_G_firstLike_32 (by decide) ?_
          exact ih6 (i + 1) ls (by omega) ((ck_fst_go (by omega) (by assumption)).trans hq) (by omega) (lv_sub hl [1, 2, 3, 0] rfl)
        · refine lv_iload_n hx hb kd_G_firstLike_27 rfl (lv_at hl 3 rfl) ?_
          exact W.iret hx hb hr (zz_endp (by rw [← hq]; exact (ck_fst_yes (by omega) (by assumption)).symm)) (fun _ h => nomatch h) kd_G_firstLike_28
  exact lp6 _ ((max f 0).toNat) ls (Nat.lt_succ_self _) (rfl) (by omega) (lv_sub hl [1, 2, 3, 0] rfl)
set_option maxHeartbeats 4000000 in
set_option maxRecDepth 100000 in
theorem kc_G_placeOf (l : Launch) (D : va_G) (cI cW : ClassId) (o : Nat) (b : Nat) (k : Nat) (nm : Nat → zz_Wt) (y : Nat) (hk : k ≤ 12) (hok : ∀ j, j < k → zz_ok (nm j)) (hy : y < k) {v : Int} (hv : ((ck_plc nm y k : Nat) : Int) = v) : Met l ky_G_placeOf kv_G_placeOf ({ frames := 2, cells := 0, slots := 0, locals := 63 }) (va_Pc [.ref o, .int (zz_I (((y : Nat) : Int)))] (zz_P D cI cW (fun H => va_P D kcl [(o, .inr (0, [.ref b, .int (zz_I (((k : Nat) : Int)))])), (b, .inl (cW, 12, .inr (.inr (.inr (.inr (fun j => some (nm j).1))))))] H ∧ ∀ j, j < k → va_P D kcl (zz_wr cI (nm j)) H))) (zz_Qp (.int (zz_I v))) 0 0 (fun _ => False) := by
  subst hv
  refine Met.ofW (cc := kb_G_placeOf) (maxL := 5) (ret := (some .int)) (by decide) rfl ?_
  intro pg ev sg mg ag bl mt cd s1 Bd hml hv
  obtain ⟨rfl, hP, hK⟩ := hv
  have hPic := hP
  have hx := Bd.exec
  have hb := Bd.bytes
  have hr := Bd.returns
  have hlocks := Bd.notSynchronized
  have hts : ∀ w ∈ zz_tbl, w.before _ sg = true := fun w h => atoms_spec (ws := kv_G_placeOf) Bd.pre w (List.mem_cons_of_mem _ h)
  have hown : sg.vm.findClass kn_G = some mg.cls := findClass_of_methodNamed Bd.named
  have hl := lv_entry ([.ref o, .int (zz_I (((y : Nat) : Int)))]) (n := 5) (Nat.le_of_ble_eq_true rfl)
  rw [lg_entry_eq]
  generalize (lg_sl ([.ref o, .int (zz_I (((y : Nat) : Int)))]) ++ List.replicate (5 - (lg_sl ([.ref o, .int (zz_I (((y : Nat) : Int)))])).length) Slot.unset).toArray = ls at hl ⊢
  have hl : lv_has ls 5 [(0, .ref o), (1, .int (zz_I (((y : Nat) : Int))))] := hl
  obtain ⟨hP, hNm⟩ := hPic
  have hP : va_P D kcl [(o, .inr (0, [.ref b, .int (zz_I (((k : Nat) : Int)))])), (b, .inl (cW, 12, .inr (.inr (.inr (.inr (fun j => some (nm j).1))))))] sg.heap := hP
  refine zz_iconst hx hb (v := 0) (rfl) kd_G_placeOf_0 ?_
  refine lv_istore_n hx hb kd_G_placeOf_1 rfl hl (by decide) rfl (fun ls hl => ?_)
  have hl : lv_has ls 5 [(2, .int (zz_I (0))), (0, .ref o), (1, .int (zz_I (((y : Nat) : Int))))] := hl
  refine zz_iconst hx hb (v := 0) (rfl) kd_G_placeOf_2 ?_
  refine lv_istore_n hx hb kd_G_placeOf_3 rfl hl (by decide) rfl (fun ls hl => ?_)
  have hl : lv_has ls 5 [(3, .int (zz_I (0))), (2, .int (zz_I (0))), (0, .ref o), (1, .int (zz_I (((y : Nat) : Int))))] := hl
  have lp4 : ∀ (fuel : Nat) (j : Nat) (ls : Array Slot), k - j < fuel → (j ≤ k) → lv_has ls 5 [(0, .ref o), (1, .int (zz_I (((y : Nat) : Int)))), (2, .int (zz_I (((ck_plc nm y j : Nat) : Int)))), (3, .int (zz_I (((j : Nat) : Int))))] → W pg l ev (headSpec kv_G_placeOf ({ frames := 2, cells := 0, slots := 0, locals := 63 })).room sg mg [.ref o, .int (zz_I (((y : Nat) : Int)))].toArray bl mt cd sg.heap [] 0 0 (MQ bl (zz_Qp (.int (zz_I (((ck_plc nm y k : Nat) : Int))))) [.ref o, .int (zz_I (((y : Nat) : Int)))].toArray sg 0 0 (fun _ => False)) (F0 mg 4 ls []) := by
    intro fuel
    induction fuel with
    | zero => intro j ls hfu; exact absurd hfu (Nat.not_lt_zero _)
    | succ fuel ih4 =>
      intro j ls hfu hj hl
      refine lv_iload_n hx hb kd_G_placeOf_4 rfl (lv_at hl 3 rfl) ?_
      refine lv_aload_n hx hb kd_G_placeOf_5 rfl (lv_at hl 0 rfl) ?_
      refine va_get (D := D) (ci := 0) (v := .int (zz_I (((k : Nat) : Int)))) (C := kn_G) (T := kf_G) (N := 2) hx hb hts ki_G hown hK hP 0 rfl rfl 1 (by decide) (hts _ kw_87) (fun _ h9 => h9) rfl kd_G_placeOf_6 ?_
      refine zz_icmp_ge (tgt := 59) hx hb kd_G_placeOf_9 (by decide) (by omega) (fun hbr9 => ?_) (fun hbr9 => ?_)
      · refine lv_iload_n hx hb kd_G_placeOf_59 rfl (lv_at hl 2 rfl) ?_
        exact W.iret hx hb hr (zz_endp (by have e : j = k := (by omega); rw [e])) (fun _ h => nomatch h) kd_G_placeOf_60
      · have hP := (hP.app (hNm j (by omega))).app (hNm y (by omega))
        have hP : va_P D kcl [(o, .inr (0, [.ref b, .int (zz_I (((k : Nat) : Int)))])), (b, .inl (cW, 12, .inr (.inr (.inr (.inr (fun j => some (nm j).1)))))), ((nm j).1, .inr (3, [.ref ((nm j).2.1), .ref ((nm j).2.2.2.2.2.1)])), ((nm j).2.1, .inr (1, [.ref ((nm j).2.2.1), .int (zz_I ((((nm j).2.2.2.1 : Nat) : Int)))])), ((nm j).2.2.1, .inl (cI, 48, .inl (zz_A ((nm j).2.2.2.2.1)))), ((nm j).2.2.2.2.2.1, .inr (1, [.ref ((nm j).2.2.2.2.2.2.1), .int (zz_I ((((nm j).2.2.2.2.2.2.2.1 : Nat) : Int)))])), ((nm j).2.2.2.2.2.2.1, .inl (cI, 144, .inl (zz_A ((nm j).2.2.2.2.2.2.2.2)))), ((nm y).1, .inr (3, [.ref ((nm y).2.1), .ref ((nm y).2.2.2.2.2.1)])), ((nm y).2.1, .inr (1, [.ref ((nm y).2.2.1), .int (zz_I ((((nm y).2.2.2.1 : Nat) : Int)))])), ((nm y).2.2.1, .inl (cI, 48, .inl (zz_A ((nm y).2.2.2.2.1)))), ((nm y).2.2.2.2.2.1, .inr (1, [.ref ((nm y).2.2.2.2.2.2.1), .int (zz_I ((((nm y).2.2.2.2.2.2.2.1 : Nat) : Int)))])), ((nm y).2.2.2.2.2.2.1, .inl (cI, 144, .inl (zz_A ((nm y).2.2.2.2.2.2.2.2))))] sg.heap := hP
        refine lv_aload_n hx hb kd_G_placeOf_12 rfl (lv_at hl 0 rfl) ?_
        refine va_get (D := D) (ci := 0) (v := .ref b) (C := kn_G) (T := kf_G) (N := 2) hx hb hts ki_G hown hK hP 0 rfl rfl 0 (by decide) (hts _ kw_86) (fun _ h9 => h9) rfl kd_G_placeOf_13 ?_
        refine lv_iload_n hx hb kd_G_placeOf_16 rfl (lv_at hl 3 rfl) ?_
        refine zz_aald (ad := fun j => (nm j).1) hx hb hK hP 1 1 rfl rfl (by omega) (v := (nm j).1) rfl kd_G_placeOf_17 ?_
        refine zz_pV ⟨hx, hb, hml, hown, hts⟩ hK (kc_W_bones l D cI cW ((nm j).1) ((nm j).2.1) ((nm j).2.2.2.2.2.1) ) (zz_gV kw_571 kw_155 kw_156 kw_27 kw_157) ⟨rfl, rfl⟩ ⟨rfl, kh_W_bones⟩ ⟨Nat.le_of_ble_eq_true rfl, Nat.le_of_ble_eq_true rfl⟩ (va_recv (q := (kn_W, kf_W, 2)) hK hP rfl (show ([(o, .inr (0, [.ref b, .int (zz_I (((k : Nat) : Int)))])), (b, .inl (cW, 12, .inr (.inr (.inr (.inr (fun j => some (nm j).1)))))), ((nm j).1, .inr (3, [.ref ((nm j).2.1), .ref ((nm j).2.2.2.2.2.1)])), ((nm j).2.1, .inr (1, [.ref ((nm j).2.2.1), .int (zz_I ((((nm j).2.2.2.1 : Nat) : Int)))])), ((nm j).2.2.1, .inl (cI, 48, .inl (zz_A ((nm j).2.2.2.2.1)))), ((nm j).2.2.2.2.2.1, .inr (1, [.ref ((nm j).2.2.2.2.2.2.1), .int (zz_I ((((nm j).2.2.2.2.2.2.2.1 : Nat) : Int)))])), ((nm j).2.2.2.2.2.2.1, .inl (cI, 144, .inl (zz_A ((nm j).2.2.2.2.2.2.2.2)))), ((nm y).1, .inr (3, [.ref ((nm y).2.1), .ref ((nm y).2.2.2.2.2.1)])), ((nm y).2.1, .inr (1, [.ref ((nm y).2.2.1), .int (zz_I ((((nm y).2.2.2.1 : Nat) : Int)))])), ((nm y).2.2.1, .inl (cI, 48, .inl (zz_A ((nm y).2.2.2.2.1)))), ((nm y).2.2.2.2.2.1, .inr (1, [.ref ((nm y).2.2.2.2.2.2.1), .int (zz_I ((((nm y).2.2.2.2.2.2.2.1 : Nat) : Int)))])), ((nm y).2.2.2.2.2.2.1, .inl (cI, 144, .inl (zz_A ((nm y).2.2.2.2.2.2.2.2))))] : va_W)[2]? = some _ from rfl)) (hP.sub (ws' := [((nm j).1, .inr (3, [.ref ((nm j).2.1), .ref ((nm j).2.2.2.2.2.1)]))]) [2] rfl) rfl hl.1 rfl (Nat.le_of_ble_eq_true rfl) kd_G_placeOf_18 ⟨Nat.le_of_ble_eq_true rfl, Nat.le_of_ble_eq_true rfl⟩ ?_
        refine lv_aload_n hx hb kd_G_placeOf_21 rfl (lv_at hl 0 rfl) ?_
        refine va_get (D := D) (ci := 0) (v := .ref b) (C := kn_G) (T := kf_G) (N := 2) hx hb hts ki_G hown hK hP 0 rfl rfl 0 (by decide) (hts _ kw_86) (fun _ h9 => h9) rfl kd_G_placeOf_22 ?_
        refine lv_iload_n hx hb kd_G_placeOf_25 rfl (lv_at hl 1 rfl) ?_
        refine zz_aald (ad := fun j => (nm j).1) hx hb hK hP 1 1 rfl rfl (by omega) (v := (nm y).1) rfl kd_G_placeOf_26 ?_
        refine zz_pV ⟨hx, hb, hml, hown, hts⟩ hK (kc_W_bones l D cI cW ((nm y).1) ((nm y).2.1) ((nm y).2.2.2.2.2.1) ) (zz_gV kw_571 kw_155 kw_156 kw_27 kw_157) ⟨rfl, rfl⟩ ⟨rfl, kh_W_bones⟩ ⟨Nat.le_of_ble_eq_true rfl, Nat.le_of_ble_eq_true rfl⟩ (va_recv (q := (kn_W, kf_W, 2)) hK hP rfl (show ([(o, .inr (0, [.ref b, .int (zz_I (((k : Nat) : Int)))])), (b, .inl (cW, 12, .inr (.inr (.inr (.inr (fun j => some (nm j).1)))))), ((nm j).1, .inr (3, [.ref ((nm j).2.1), .ref ((nm j).2.2.2.2.2.1)])), ((nm j).2.1, .inr (1, [.ref ((nm j).2.2.1), .int (zz_I ((((nm j).2.2.2.1 : Nat) : Int)))])), ((nm j).2.2.1, .inl (cI, 48, .inl (zz_A ((nm j).2.2.2.2.1)))), ((nm j).2.2.2.2.2.1, .inr (1, [.ref ((nm j).2.2.2.2.2.2.1), .int (zz_I ((((nm j).2.2.2.2.2.2.2.1 : Nat) : Int)))])), ((nm j).2.2.2.2.2.2.1, .inl (cI, 144, .inl (zz_A ((nm j).2.2.2.2.2.2.2.2)))), ((nm y).1, .inr (3, [.ref ((nm y).2.1), .ref ((nm y).2.2.2.2.2.1)])), ((nm y).2.1, .inr (1, [.ref ((nm y).2.2.1), .int (zz_I ((((nm y).2.2.2.1 : Nat) : Int)))])), ((nm y).2.2.1, .inl (cI, 48, .inl (zz_A ((nm y).2.2.2.2.1)))), ((nm y).2.2.2.2.2.1, .inr (1, [.ref ((nm y).2.2.2.2.2.2.1), .int (zz_I ((((nm y).2.2.2.2.2.2.2.1 : Nat) : Int)))])), ((nm y).2.2.2.2.2.2.1, .inl (cI, 144, .inl (zz_A ((nm y).2.2.2.2.2.2.2.2))))] : va_W)[7]? = some _ from rfl)) (hP.sub (ws' := [((nm y).1, .inr (3, [.ref ((nm y).2.1), .ref ((nm y).2.2.2.2.2.1)]))]) [7] rfl) rfl hl.1 rfl (Nat.le_of_ble_eq_true rfl) kd_G_placeOf_27 ⟨Nat.le_of_ble_eq_true rfl, Nat.le_of_ble_eq_true rfl⟩ ?_
        refine zz_pV ⟨hx, hb, hml, hown, hts⟩ hK (kc_R_order l D cI cW ((nm j).2.2.2.2.2.1) ((nm j).2.2.2.2.2.2.1) ((nm j).2.2.2.2.2.2.2.1) 144 ((nm j).2.2.2.2.2.2.2.2) ((nm y).2.2.2.2.2.1) ((nm y).2.2.2.2.2.2.1) ((nm y).2.2.2.2.2.2.2.1) 144 ((nm y).2.2.2.2.2.2.2.2) ((hok j (by omega)).2.1) (by omega) ((hok y (by omega)).2.1) (by omega) ((hok j (by omega)).2.2.2) ((hok y (by omega)).2.2.2) rfl) (zz_gV kw_572 kw_327 kw_328 kw_28 kw_329) ⟨rfl, rfl⟩ ⟨rfl, kh_R_order⟩ ⟨Nat.le_of_ble_eq_true rfl, Nat.le_of_ble_eq_true rfl⟩ (va_recv (q := (kn_R, kf_R, 2)) hK hP rfl (show ([(o, .inr (0, [.ref b, .int (zz_I (((k : Nat) : Int)))])), (b, .inl (cW, 12, .inr (.inr (.inr (.inr (fun j => some (nm j).1)))))), ((nm j).1, .inr (3, [.ref ((nm j).2.1), .ref ((nm j).2.2.2.2.2.1)])), ((nm j).2.1, .inr (1, [.ref ((nm j).2.2.1), .int (zz_I ((((nm j).2.2.2.1 : Nat) : Int)))])), ((nm j).2.2.1, .inl (cI, 48, .inl (zz_A ((nm j).2.2.2.2.1)))), ((nm j).2.2.2.2.2.1, .inr (1, [.ref ((nm j).2.2.2.2.2.2.1), .int (zz_I ((((nm j).2.2.2.2.2.2.2.1 : Nat) : Int)))])), ((nm j).2.2.2.2.2.2.1, .inl (cI, 144, .inl (zz_A ((nm j).2.2.2.2.2.2.2.2)))), ((nm y).1, .inr (3, [.ref ((nm y).2.1), .ref ((nm y).2.2.2.2.2.1)])), ((nm y).2.1, .inr (1, [.ref ((nm y).2.2.1), .int (zz_I ((((nm y).2.2.2.1 : Nat) : Int)))])), ((nm y).2.2.1, .inl (cI, 48, .inl (zz_A ((nm y).2.2.2.2.1)))), ((nm y).2.2.2.2.2.1, .inr (1, [.ref ((nm y).2.2.2.2.2.2.1), .int (zz_I ((((nm y).2.2.2.2.2.2.2.1 : Nat) : Int)))])), ((nm y).2.2.2.2.2.2.1, .inl (cI, 144, .inl (zz_A ((nm y).2.2.2.2.2.2.2.2))))] : va_W)[5]? = some _ from rfl)) (hP.sub (ws' := [((nm j).2.2.2.2.2.1, .inr (1, [.ref ((nm j).2.2.2.2.2.2.1), .int (zz_I ((((nm j).2.2.2.2.2.2.2.1 : Nat) : Int)))])), ((nm j).2.2.2.2.2.2.1, .inl (cI, 144, .inl (zz_A ((nm j).2.2.2.2.2.2.2.2)))), ((nm y).2.2.2.2.2.1, .inr (1, [.ref ((nm y).2.2.2.2.2.2.1), .int (zz_I ((((nm y).2.2.2.2.2.2.2.1 : Nat) : Int)))])), ((nm y).2.2.2.2.2.2.1, .inl (cI, 144, .inl (zz_A ((nm y).2.2.2.2.2.2.2.2))))]) [5, 6, 10, 11] rfl) rfl hl.1 rfl (Nat.le_of_ble_eq_true rfl) kd_G_placeOf_30 ⟨Nat.le_of_ble_eq_true rfl, Nat.le_of_ble_eq_true rfl⟩ ?_
        refine lv_istore hx hb kd_G_placeOf_33 hl (by decide) rfl (fun ls hl => ?_)
        have hl : lv_has ls 5 [(4, .int (zz_I (ck_ord ((nm j).2.2.2.2.2.2.2.2) ((nm j).2.2.2.2.2.2.2.1) ((nm y).2.2.2.2.2.2.2.2) ((nm y).2.2.2.2.2.2.2.1)))), (0, .ref o), (1, .int (zz_I (((y : Nat) : Int)))), (2, .int (zz_I (((ck_plc nm y j : Nat) : Int)))), (3, .int (zz_I (((j : Nat) : Int))))] := hl
        refine lv_iload hx hb kd_G_placeOf_35 (lv_at hl 0 rfl) ?_
        refine zz_if_lt (tgt := 50) hx hb kd_G_placeOf_37 (by decide) (by have := ck_ord_rg (nm j).2.2.2.2.2.2.2.2 (nm j).2.2.2.2.2.2.2.1 (nm y).2.2.2.2.2.2.2.2 (nm y).2.2.2.2.2.2.2.1; omega) (fun hbr37 => ?_) (fun hbr37 => ?_)
        · refine zz_iinc (k := 3) hx hb kd_G_placeOf_50 hl rfl rfl (by decide) rfl (fun ls hl => ?_)
          have hl : lv_has ls 5 [(2, .int (zz_I (((ck_plc nm y j : Nat) : Int) + 1))), (4, .int (zz_I (ck_ord ((nm j).2.2.2.2.2.2.2.2) ((nm j).2.2.2.2.2.2.2.1) ((nm y).2.2.2.2.2.2.2.2) ((nm y).2.2.2.2.2.2.2.1)))), (0, .ref o), (1, .int (zz_I (((y : Nat) : Int)))), (3, .int (zz_I (((j : Nat) : Int))))] := hl
          refine zz_iinc (k := 4) hx hb kd_G_placeOf_53 hl rfl rfl (by decide) rfl (fun ls hl => ?_)
          have hl : lv_has ls 5 [(3, .int (zz_I (((j : Nat) : Int) + 1))), (2, .int (zz_I (((ck_plc nm y j : Nat) : Int) + 1))), (4, .int (zz_I (ck_ord ((nm j).2.2.2.2.2.2.2.2) ((nm j).2.2.2.2.2.2.2.1) ((nm y).2.2.2.2.2.2.2.2) ((nm y).2.2.2.2.2.2.2.1)))), (0, .ref o), (1, .int (zz_I (((y : Nat) : Int))))] := hl
          refine lv_goto (tgt := 4) hx hb kd_G_placeOf_56 (by decide) ?_
          rw [ck_plc_s (decide_eq_true (by unfold ck_nor; omega))] at hl
          exact ih4 (j + 1) ls (by omega) (by omega) (lv_sub hl [3, 4, 1, 0] rfl)
        · refine lv_iload hx hb kd_G_placeOf_40 (lv_at hl 0 rfl) ?_
          refine zz_if_ne (tgt := 53) hx hb kd_G_placeOf_42 (by decide) (by have := ck_ord_rg (nm j).2.2.2.2.2.2.2.2 (nm j).2.2.2.2.2.2.2.1 (nm y).2.2.2.2.2.2.2.2 (nm y).2.2.2.2.2.2.2.1; omega) (fun hbr42 => ?_) (fun hbr42 => ?_)
          · refine zz_iinc (k := 4) hx hb kd_G_placeOf_53 hl rfl rfl (by decide) rfl (fun ls hl => ?_)
            have hl : lv_has ls 5 [(3, .int (zz_I (((j : Nat) : Int) + 1))), (4, .int (zz_I (ck_ord ((nm j).2.2.2.2.2.2.2.2) ((nm j).2.2.2.2.2.2.2.1) ((nm y).2.2.2.2.2.2.2.2) ((nm y).2.2.2.2.2.2.2.1)))), (0, .ref o), (1, .int (zz_I (((y : Nat) : Int)))), (2, .int (zz_I (((ck_plc nm y j : Nat) : Int))))] := hl
            refine lv_goto (tgt := 4) hx hb kd_G_placeOf_56 (by decide) ?_
            rw [ck_plc_n (decide_eq_false (by unfold ck_nor; omega))] at hl
            exact ih4 (j + 1) ls (by omega) (by omega) (lv_sub hl [2, 3, 4, 0] rfl)
          · refine lv_iload_n hx hb kd_G_placeOf_45 rfl (lv_at hl 4 rfl) ?_
            refine lv_iload_n hx hb kd_G_placeOf_46 rfl (lv_at hl 2 rfl) ?_
            refine zz_icmp_ge (tgt := 53) hx hb kd_G_placeOf_47 (by decide) (by omega) (fun hbr47 => ?_) (fun hbr47 => ?_)
            · refine zz_iinc (k := 4) hx hb kd_G_placeOf_53 hl rfl rfl (by decide) rfl (fun ls hl => ?_)
              have hl : lv_has ls 5 [(3, .int (zz_I (((j : Nat) : Int) + 1))), (4, .int (zz_I (ck_ord ((nm j).2.2.2.2.2.2.2.2) ((nm j).2.2.2.2.2.2.2.1) ((nm y).2.2.2.2.2.2.2.2) ((nm y).2.2.2.2.2.2.2.1)))), (0, .ref o), (1, .int (zz_I (((y : Nat) : Int)))), (2, .int (zz_I (((ck_plc nm y j : Nat) : Int))))] := hl
              refine lv_goto (tgt := 4) hx hb kd_G_placeOf_56 (by decide) ?_
              rw [ck_plc_n (decide_eq_false (by unfold ck_nor; omega))] at hl
              exact ih4 (j + 1) ls (by omega) (by omega) (lv_sub hl [2, 3, 4, 0] rfl)
            · refine zz_iinc (k := 3) hx hb kd_G_placeOf_50 hl rfl rfl (by decide) rfl (fun ls hl => ?_)
              have hl : lv_has ls 5 [(2, .int (zz_I (((ck_plc nm y j : Nat) : Int) + 1))), (4, .int (zz_I (ck_ord ((nm j).2.2.2.2.2.2.2.2) ((nm j).2.2.2.2.2.2.2.1) ((nm y).2.2.2.2.2.2.2.2) ((nm y).2.2.2.2.2.2.2.1)))), (0, .ref o), (1, .int (zz_I (((y : Nat) : Int)))), (3, .int (zz_I (((j : Nat) : Int))))] := hl
              refine zz_iinc (k := 4) hx hb kd_G_placeOf_53 hl rfl rfl (by decide) rfl (fun ls hl => ?_)
              have hl : lv_has ls 5 [(3, .int (zz_I (((j : Nat) : Int) + 1))), (2, .int (zz_I (((ck_plc nm y j : Nat) : Int) + 1))), (4, .int (zz_I (ck_ord ((nm j).2.2.2.2.2.2.2.2) ((nm j).2.2.2.2.2.2.2.1) ((nm y).2.2.2.2.2.2.2.2) ((nm y).2.2.2.2.2.2.2.1)))), (0, .ref o), (1, .int (zz_I (((y : Nat) : Int))))] := hl
              refine lv_goto (tgt := 4) hx hb kd_G_placeOf_56 (by decide) ?_
              rw [ck_plc_s (decide_eq_true (by unfold ck_nor; omega))] at hl
              exact ih4 (j + 1) ls (by omega) (by omega) (lv_sub hl [3, 4, 1, 0] rfl)
  exact lp4 _ 0 ls (Nat.lt_succ_self _) (Nat.zero_le _) (lv_sub hl [2, 3, 1, 0] rfl)
set_option maxHeartbeats 4000000 in
set_option maxRecDepth 100000 in
theorem kc_G_atPlace (l : Launch) (D : va_G) (cI cW : ClassId) (o : Nat) (b : Nat) (k : Nat) (nm : Nat → zz_Wt) (i : Int) (hk : k ≤ 12) (hok : ∀ j, j < k → zz_ok (nm j)) (hi : -2147483648 ≤ i ∧ i ≤ 2147483647) {v : Int} (hv : ck_fst (fun j => decide (((ck_plc nm j k : Nat) : Int) = i)) 0 k = v) : Met l ky_G_atPlace kv_G_atPlace ({ frames := 3, cells := 0, slots := 0, locals := 87 }) (va_Pc [.ref o, .int (zz_I (i))] (zz_P D cI cW (fun H => va_P D kcl [(o, .inr (0, [.ref b, .int (zz_I (((k : Nat) : Int)))])), (b, .inl (cW, 12, .inr (.inr (.inr (.inr (fun j => some (nm j).1))))))] H ∧ ∀ j, j < k → va_P D kcl (zz_wr cI (nm j)) H))) (zz_Qp (.int (zz_I v))) 0 0 (fun _ => False) := by
  subst hv
  refine Met.ofW (cc := kb_G_atPlace) (maxL := 3) (ret := (some .int)) (by decide) rfl ?_
  intro pg ev sg mg ag bl mt cd s1 Bd hml hv
  obtain ⟨rfl, hP, hK⟩ := hv
  have hPic := hP
  have hx := Bd.exec
  have hb := Bd.bytes
  have hr := Bd.returns
  have hlocks := Bd.notSynchronized
  have hts : ∀ w ∈ zz_tbl, w.before _ sg = true := fun w h => atoms_spec (ws := kv_G_atPlace) Bd.pre w (List.mem_cons_of_mem _ h)
  have hown : sg.vm.findClass kn_G = some mg.cls := findClass_of_methodNamed Bd.named
  have hl := lv_entry ([.ref o, .int (zz_I (i))]) (n := 3) (Nat.le_of_ble_eq_true rfl)
  rw [lg_entry_eq]
  generalize (lg_sl ([.ref o, .int (zz_I (i))]) ++ List.replicate (3 - (lg_sl ([.ref o, .int (zz_I (i))])).length) Slot.unset).toArray = ls at hl ⊢
  have hl : lv_has ls 3 [(0, .ref o), (1, .int (zz_I (i)))] := hl
  obtain ⟨hP, hNm⟩ := hPic
  have hP : va_P D kcl [(o, .inr (0, [.ref b, .int (zz_I (((k : Nat) : Int)))])), (b, .inl (cW, 12, .inr (.inr (.inr (.inr (fun j => some (nm j).1))))))] sg.heap := hP
  refine zz_iconst hx hb (v := 0) (rfl) kd_G_atPlace_0 ?_
  refine lv_istore_n hx hb kd_G_atPlace_1 rfl hl (by decide) rfl (fun ls hl => ?_)
  have hl : lv_has ls 3 [(2, .int (zz_I (0))), (0, .ref o), (1, .int (zz_I (i)))] := hl
  have lp2 : ∀ (fuel : Nat) (j : Nat) (ls : Array Slot), k - j < fuel → (j ≤ k) → (ck_fst (fun j => decide (((ck_plc nm j k : Nat) : Int) = i)) j (k - j) = ck_fst (fun j => decide (((ck_plc nm j k : Nat) : Int) = i)) 0 k) → lv_has ls 3 [(0, .ref o), (1, .int (zz_I (i))), (2, .int (zz_I (((j : Nat) : Int))))] → W pg l ev (headSpec kv_G_atPlace ({ frames := 3, cells := 0, slots := 0, locals := 87 })).room sg mg [.ref o, .int (zz_I (i))].toArray bl mt cd sg.heap [] 0 0 (MQ bl (zz_Qp (.int (zz_I (ck_fst (fun j => decide (((ck_plc nm j k : Nat) : Int) = i)) 0 k)))) [.ref o, .int (zz_I (i))].toArray sg 0 0 (fun _ => False)) (F0 mg 2 ls []) := by
    intro fuel
    induction fuel with
    | zero => intro j ls hfu; exact absurd hfu (Nat.not_lt_zero _)
    | succ fuel ih2 =>
      intro j ls hfu hj hq hl
      refine lv_iload_n hx hb kd_G_atPlace_2 rfl (lv_at hl 2 rfl) ?_
      refine lv_aload_n hx hb kd_G_atPlace_3 rfl (lv_at hl 0 rfl) ?_
      refine va_get (D := D) (ci := 0) (v := .int (zz_I (((k : Nat) : Int)))) (C := kn_G) (T := kf_G) (N := 2) hx hb hts ki_G hown hK hP 0 rfl rfl 1 (by decide) (hts _ kw_87) (fun _ h9 => h9) rfl kd_G_atPlace_4 ?_
      refine zz_icmp_ge (tgt := 27) hx hb kd_G_atPlace_7 (by decide) (by omega) (fun hbr7 => ?_) (fun hbr7 => ?_)
      · refine zz_iconst hx hb (v := -1) (rfl) kd_G_atPlace_27 ?_
        exact W.iret hx hb hr (zz_endp (by rw [← hq, ck_fst_none (by omega)])) (fun _ h => nomatch h) kd_G_atPlace_28
      · refine lv_aload_n hx hb kd_G_atPlace_10 rfl (lv_at hl 0 rfl) ?_
        refine lv_iload_n hx hb kd_G_atPlace_11 rfl (lv_at hl 2 rfl) ?_
        refine zz_pV ⟨hx, hb, hml, hown, hts⟩ hK (kc_G_placeOf l D cI cW o b k nm j (by omega) (by assumption) (by omega) rfl) (zz_gV kw_567 kw_569 kw_5 kw_29 kw_570) ⟨rfl, rfl⟩ ⟨rfl, kh_G_placeOf⟩ ⟨Nat.le_of_ble_eq_true rfl, Nat.le_of_ble_eq_true rfl⟩ (va_recv (q := (kn_G, kf_G, 2)) hK hP rfl (show ([(o, .inr (0, [.ref b, .int (zz_I (((k : Nat) : Int)))])), (b, .inl (cW, 12, .inr (.inr (.inr (.inr (fun j => some (nm j).1))))))] : va_W)[0]? = some _ from rfl)) ⟨hP, hNm⟩ rfl hl.1 rfl (Nat.le_of_ble_eq_true rfl) kd_G_atPlace_12 ⟨Nat.le_of_ble_eq_true rfl, Nat.le_of_ble_eq_true rfl⟩ ?_
        refine lv_iload_n hx hb kd_G_atPlace_15 rfl (lv_at hl 1 rfl) ?_
        refine zz_icmp_ne (tgt := 21) hx hb kd_G_atPlace_16 (by decide) (by have := ck_plc_le nm j k; omega) (fun hbr16 => ?_) (fun hbr16 => ?_)
        · refine zz_iinc (k := 2) hx hb kd_G_atPlace_21 hl rfl rfl (by decide) rfl (fun ls hl => ?_)
          have hl : lv_has ls 3 [(2, .int (zz_I (((j : Nat) : Int) + 1))), (0, .ref o), (1, .int (zz_I (i)))] := hl
          refine lv_goto (tgt := 2) hx hb kd_G_atPlace_24 (by decide) ?_
          exact ih2 (j + 1) ls (by omega) (by omega) ((ck_fst_go (by omega) (decide_eq_false (by assumption))).trans hq) (lv_sub hl [1, 2, 0] rfl)
        · refine lv_iload_n hx hb kd_G_atPlace_19 rfl (lv_at hl 2 rfl) ?_
          exact W.iret hx hb hr (zz_endp (by rw [← hq]; exact (ck_fst_yes (by omega) (decide_eq_true (by assumption))).symm)) (fun _ h => nomatch h) kd_G_atPlace_20
  exact lp2 _ 0 ls (Nat.lt_succ_self _) (Nat.zero_le _) (rfl) (lv_sub hl [1, 2, 0] rfl)
