set_option maxHeartbeats 4000000 in
set_option maxRecDepth 100000 in
theorem kc_A_isComposed (l : Launch) (D : va_G) (cI cW : ClassId) (c : Int) (hc : -2147483648 ≤ c ∧ c ≤ 2147483647) {v : Int} (hv : zz_b (ck_comp c) = v) : Met l ky_A_isComposed kv_A_isComposed ({ frames := 0, cells := 0, slots := 0, locals := 0 }) (va_Pc [.int (zz_I (c))] (zz_P D cI cW (fun _ => True))) (zz_Qp (.int (zz_I v))) 0 0 (fun _ => False) := by
  subst hv
  refine Met.ofW (cc := kb_A_isComposed) (maxL := 1) (ret := (some .boolean)) (by decide) rfl ?_
  intro pg ev sg mg ag bl mt cd s1 Bd hml hv
  obtain ⟨rfl, hP, hK⟩ := hv
  have hx := Bd.exec
  have hb := Bd.bytes
  have hr := Bd.returns
  have hlocks := Bd.notSynchronized
  have hts : ∀ w ∈ zz_tbl, w.before _ sg = true := fun w h => atoms_spec (ws := kv_A_isComposed) Bd.pre w (List.mem_cons_of_mem _ h)
  have hown : sg.vm.findClass kn_A = some mg.cls := findClass_of_methodNamed Bd.named
  have hl := lv_entry ([.int (zz_I (c))]) (n := 1) (Nat.le_of_ble_eq_true rfl)
  rw [lg_entry_eq]
  generalize (lg_sl ([.int (zz_I (c))]) ++ List.replicate (1 - (lg_sl ([.int (zz_I (c))])).length) Slot.unset).toArray = ls at hl ⊢
  have hl : lv_has ls 1 [(0, .int (zz_I (c)))] := hl
  refine lv_iload_n hx hb kd_A_isComposed_0 rfl (lv_at hl 0 rfl) ?_
  refine zz_bipush hx hb kd_A_isComposed_1 (by decide) ?_
  refine zz_icmp_lt (tgt := 16) hx hb kd_A_isComposed_3 (by decide) (by omega) (fun hbr3 => ?_) (fun hbr3 => ?_)
  · refine zz_iconst hx hb (v := 0) (rfl) kd_A_isComposed_16 ?_
    exact W.zret (ty := .boolean) hx hb hr (by decide) (zz_endp (zz_f (decide_eq_false (by omega)))) (fun _ h => nomatch h) kd_A_isComposed_17
  · refine lv_iload_n hx hb kd_A_isComposed_6 rfl (lv_at hl 0 rfl) ?_
    refine zz_bipush hx hb kd_A_isComposed_7 (by decide) ?_
    refine zz_icmp_gt (tgt := 16) hx hb kd_A_isComposed_9 (by decide) (by omega) (fun hbr9 => ?_) (fun hbr9 => ?_)
    · refine zz_iconst hx hb (v := 0) (rfl) kd_A_isComposed_16 ?_
      exact W.zret (ty := .boolean) hx hb hr (by decide) (zz_endp (zz_f (decide_eq_false (by omega)))) (fun _ h => nomatch h) kd_A_isComposed_17
    · refine zz_iconst hx hb (v := 1) (rfl) kd_A_isComposed_12 ?_
      refine lv_goto (tgt := 17) hx hb kd_A_isComposed_13 (by decide) ?_
      exact W.zret (ty := .boolean) hx hb hr (by decide) (zz_endp (zz_t (decide_eq_true (by omega)))) (fun _ h => nomatch h) kd_A_isComposed_17
set_option maxHeartbeats 4000000 in
set_option maxRecDepth 100000 in
theorem kc_A_isLetter (l : Launch) (D : va_G) (cI cW : ClassId) (c : Int) (hc : -2147483648 ≤ c ∧ c ≤ 2147483647) {v : Int} (hv : zz_b (ck_letter c) = v) : Met l ky_A_isLetter kv_A_isLetter ({ frames := 1, cells := 0, slots := 0, locals := 20 }) (va_Pc [.int (zz_I (c))] (zz_P D cI cW (fun _ => True))) (zz_Qp (.int (zz_I v))) 0 0 (fun _ => False) := by
  subst hv
  refine Met.ofW (cc := kb_A_isLetter) (maxL := 1) (ret := (some .boolean)) (by decide) rfl ?_
  intro pg ev sg mg ag bl mt cd s1 Bd hml hv
  obtain ⟨rfl, hP, hK⟩ := hv
  have hx := Bd.exec
  have hb := Bd.bytes
  have hr := Bd.returns
  have hlocks := Bd.notSynchronized
  have hts : ∀ w ∈ zz_tbl, w.before _ sg = true := fun w h => atoms_spec (ws := kv_A_isLetter) Bd.pre w (List.mem_cons_of_mem _ h)
  have hown : sg.vm.findClass kn_A = some mg.cls := findClass_of_methodNamed Bd.named
  have hl := lv_entry ([.int (zz_I (c))]) (n := 1) (Nat.le_of_ble_eq_true rfl)
  rw [lg_entry_eq]
  generalize (lg_sl ([.int (zz_I (c))]) ++ List.replicate (1 - (lg_sl ([.int (zz_I (c))])).length) Slot.unset).toArray = ls at hl ⊢
  have hl : lv_has ls 1 [(0, .int (zz_I (c)))] := hl
  refine lv_iload_n hx hb kd_A_isLetter_0 rfl (lv_at hl 0 rfl) ?_
  refine zz_if_lt (tgt := 10) hx hb kd_A_isLetter_1 (by decide) (by omega) (fun hbr1 => ?_) (fun hbr1 => ?_)
  · refine lv_iload_n hx hb kd_A_isLetter_10 rfl (lv_at hl 0 rfl) ?_
    refine zz_pS ⟨hx, hb, hml, hown, hts⟩ hK (kc_A_isComposed l D cI cW c (by omega) rfl) (zz_gS kw_189 kw_190 kw_37 kw_191) ⟨rfl, rfl⟩ kh_A_isComposed ⟨Nat.le_of_ble_eq_true rfl, Nat.le_of_ble_eq_true rfl⟩  trivial rfl hl.1 rfl (Nat.le_of_ble_eq_true rfl) kd_A_isLetter_11 ⟨Nat.le_of_ble_eq_true rfl, Nat.le_of_ble_eq_true rfl⟩ ?_
    refine zz_ifb_eq (tgt := 21) hx hb kd_A_isLetter_14 (by decide) (fun hbr14 => ?_) (fun hbr14 => ?_)
    · have hbr14 := of_decide_eq_false hbr14
      refine zz_iconst hx hb (v := 0) (rfl) kd_A_isLetter_21 ?_
      exact W.zret (ty := .boolean) hx hb hr (by decide) (zz_endp (zz_f (decide_eq_false (by omega)))) (fun _ h => nomatch h) kd_A_isLetter_22
    · have hbr14 := of_decide_eq_true hbr14
      refine zz_iconst hx hb (v := 1) (rfl) kd_A_isLetter_17 ?_
      refine lv_goto (tgt := 22) hx hb kd_A_isLetter_18 (by decide) ?_
      exact W.zret (ty := .boolean) hx hb hr (by decide) (zz_endp (zz_t (decide_eq_true (by omega)))) (fun _ h => nomatch h) kd_A_isLetter_22
  · refine lv_iload_n hx hb kd_A_isLetter_4 rfl (lv_at hl 0 rfl) ?_
    refine zz_bipush hx hb kd_A_isLetter_5 (by decide) ?_
    refine zz_icmp_le (tgt := 17) hx hb kd_A_isLetter_7 (by decide) (by omega) (fun hbr7 => ?_) (fun hbr7 => ?_)
    · refine zz_iconst hx hb (v := 1) (rfl) kd_A_isLetter_17 ?_
      refine lv_goto (tgt := 22) hx hb kd_A_isLetter_18 (by decide) ?_
      exact W.zret (ty := .boolean) hx hb hr (by decide) (zz_endp (zz_t (decide_eq_true (by omega)))) (fun _ h => nomatch h) kd_A_isLetter_22
    · refine lv_iload_n hx hb kd_A_isLetter_10 rfl (lv_at hl 0 rfl) ?_
      refine zz_pS ⟨hx, hb, hml, hown, hts⟩ hK (kc_A_isComposed l D cI cW c (by omega) rfl) (zz_gS kw_189 kw_190 kw_37 kw_191) ⟨rfl, rfl⟩ kh_A_isComposed ⟨Nat.le_of_ble_eq_true rfl, Nat.le_of_ble_eq_true rfl⟩  trivial rfl hl.1 rfl (Nat.le_of_ble_eq_true rfl) kd_A_isLetter_11 ⟨Nat.le_of_ble_eq_true rfl, Nat.le_of_ble_eq_true rfl⟩ ?_
      refine zz_ifb_eq (tgt := 21) hx hb kd_A_isLetter_14 (by decide) (fun hbr14 => ?_) (fun hbr14 => ?_)
      · have hbr14 := of_decide_eq_false hbr14
        refine zz_iconst hx hb (v := 0) (rfl) kd_A_isLetter_21 ?_
        exact W.zret (ty := .boolean) hx hb hr (by decide) (zz_endp (zz_f (decide_eq_false (by omega)))) (fun _ h => nomatch h) kd_A_isLetter_22
      · have hbr14 := of_decide_eq_true hbr14
        refine zz_iconst hx hb (v := 1) (rfl) kd_A_isLetter_17 ?_
        refine lv_goto (tgt := 22) hx hb kd_A_isLetter_18 (by decide) ?_
        exact W.zret (ty := .boolean) hx hb hr (by decide) (zz_endp (zz_t (decide_eq_true (by omega)))) (fun _ h => nomatch h) kd_A_isLetter_22
set_option maxHeartbeats 4000000 in
set_option maxRecDepth 100000 in
theorem kc_A_isWesternDigit (l : Launch) (D : va_G) (cI cW : ClassId) (c : Int) (hc : -2147483648 ≤ c ∧ c ≤ 2147483647) {v : Int} (hv : zz_b (ck_west c) = v) : Met l ky_A_isWesternDigit kv_A_isWesternDigit ({ frames := 0, cells := 0, slots := 0, locals := 0 }) (va_Pc [.int (zz_I (c))] (zz_P D cI cW (fun _ => True))) (zz_Qp (.int (zz_I v))) 0 0 (fun _ => False) := by
  subst hv
  refine Met.ofW (cc := kb_A_isWesternDigit) (maxL := 1) (ret := (some .boolean)) (by decide) rfl ?_
  intro pg ev sg mg ag bl mt cd s1 Bd hml hv
  obtain ⟨rfl, hP, hK⟩ := hv
  have hx := Bd.exec
  have hb := Bd.bytes
  have hr := Bd.returns
  have hlocks := Bd.notSynchronized
  have hts : ∀ w ∈ zz_tbl, w.before _ sg = true := fun w h => atoms_spec (ws := kv_A_isWesternDigit) Bd.pre w (List.mem_cons_of_mem _ h)
  have hown : sg.vm.findClass kn_A = some mg.cls := findClass_of_methodNamed Bd.named
  have hl := lv_entry ([.int (zz_I (c))]) (n := 1) (Nat.le_of_ble_eq_true rfl)
  rw [lg_entry_eq]
  generalize (lg_sl ([.int (zz_I (c))]) ++ List.replicate (1 - (lg_sl ([.int (zz_I (c))])).length) Slot.unset).toArray = ls at hl ⊢
  have hl : lv_has ls 1 [(0, .int (zz_I (c)))] := hl
  refine lv_iload_n hx hb kd_A_isWesternDigit_0 rfl (lv_at hl 0 rfl) ?_
  refine zz_bipush hx hb kd_A_isWesternDigit_1 (by decide) ?_
  refine zz_icmp_lt (tgt := 16) hx hb kd_A_isWesternDigit_3 (by decide) (by omega) (fun hbr3 => ?_) (fun hbr3 => ?_)
  · refine zz_iconst hx hb (v := 0) (rfl) kd_A_isWesternDigit_16 ?_
    exact W.zret (ty := .boolean) hx hb hr (by decide) (zz_endp (zz_f (decide_eq_false (by omega)))) (fun _ h => nomatch h) kd_A_isWesternDigit_17
  · refine lv_iload_n hx hb kd_A_isWesternDigit_6 rfl (lv_at hl 0 rfl) ?_
    refine zz_bipush hx hb kd_A_isWesternDigit_7 (by decide) ?_
    refine zz_icmp_gt (tgt := 16) hx hb kd_A_isWesternDigit_9 (by decide) (by omega) (fun hbr9 => ?_) (fun hbr9 => ?_)
    · refine zz_iconst hx hb (v := 0) (rfl) kd_A_isWesternDigit_16 ?_
      exact W.zret (ty := .boolean) hx hb hr (by decide) (zz_endp (zz_f (decide_eq_false (by omega)))) (fun _ h => nomatch h) kd_A_isWesternDigit_17
    · refine zz_iconst hx hb (v := 1) (rfl) kd_A_isWesternDigit_12 ?_
      refine lv_goto (tgt := 17) hx hb kd_A_isWesternDigit_13 (by decide) ?_
      exact W.zret (ty := .boolean) hx hb hr (by decide) (zz_endp (zz_t (decide_eq_true (by omega)))) (fun _ h => nomatch h) kd_A_isWesternDigit_17
set_option maxHeartbeats 4000000 in
set_option maxRecDepth 100000 in
theorem kc_A_isEasternDigit (l : Launch) (D : va_G) (cI cW : ClassId) (c : Int) (hc : -2147483648 ≤ c ∧ c ≤ 2147483647) {v : Int} (hv : zz_b (ck_east c) = v) : Met l ky_A_isEasternDigit kv_A_isEasternDigit ({ frames := 0, cells := 0, slots := 0, locals := 0 }) (va_Pc [.int (zz_I (c))] (zz_P D cI cW (fun _ => True))) (zz_Qp (.int (zz_I v))) 0 0 (fun _ => False) := by
  subst hv
  refine Met.ofW (cc := kb_A_isEasternDigit) (maxL := 1) (ret := (some .boolean)) (by decide) rfl ?_
  intro pg ev sg mg ag bl mt cd s1 Bd hml hv
  obtain ⟨rfl, hP, hK⟩ := hv
  have hx := Bd.exec
  have hb := Bd.bytes
  have hr := Bd.returns
  have hlocks := Bd.notSynchronized
  have hts : ∀ w ∈ zz_tbl, w.before _ sg = true := fun w h => atoms_spec (ws := kv_A_isEasternDigit) Bd.pre w (List.mem_cons_of_mem _ h)
  have hown : sg.vm.findClass kn_A = some mg.cls := findClass_of_methodNamed Bd.named
  have hl := lv_entry ([.int (zz_I (c))]) (n := 1) (Nat.le_of_ble_eq_true rfl)
  rw [lg_entry_eq]
  generalize (lg_sl ([.int (zz_I (c))]) ++ List.replicate (1 - (lg_sl ([.int (zz_I (c))])).length) Slot.unset).toArray = ls at hl ⊢
  have hl : lv_has ls 1 [(0, .int (zz_I (c)))] := hl
  refine lv_iload_n hx hb kd_A_isEasternDigit_0 rfl (lv_at hl 0 rfl) ?_
  refine zz_bipush hx hb kd_A_isEasternDigit_1 (by decide) ?_
  refine zz_icmp_lt (tgt := 16) hx hb kd_A_isEasternDigit_3 (by decide) (by omega) (fun hbr3 => ?_) (fun hbr3 => ?_)
  · refine zz_iconst hx hb (v := 0) (rfl) kd_A_isEasternDigit_16 ?_
    exact W.zret (ty := .boolean) hx hb hr (by decide) (zz_endp (zz_f (decide_eq_false (by omega)))) (fun _ h => nomatch h) kd_A_isEasternDigit_17
  · refine lv_iload_n hx hb kd_A_isEasternDigit_6 rfl (lv_at hl 0 rfl) ?_
    refine zz_bipush hx hb kd_A_isEasternDigit_7 (by decide) ?_
    refine zz_icmp_gt (tgt := 16) hx hb kd_A_isEasternDigit_9 (by decide) (by omega) (fun hbr9 => ?_) (fun hbr9 => ?_)
    · refine zz_iconst hx hb (v := 0) (rfl) kd_A_isEasternDigit_16 ?_
      exact W.zret (ty := .boolean) hx hb hr (by decide) (zz_endp (zz_f (decide_eq_false (by omega)))) (fun _ h => nomatch h) kd_A_isEasternDigit_17
    · refine zz_iconst hx hb (v := 1) (rfl) kd_A_isEasternDigit_12 ?_
      refine lv_goto (tgt := 17) hx hb kd_A_isEasternDigit_13 (by decide) ?_
      exact W.zret (ty := .boolean) hx hb hr (by decide) (zz_endp (zz_t (decide_eq_true (by omega)))) (fun _ h => nomatch h) kd_A_isEasternDigit_17
set_option maxHeartbeats 4000000 in
set_option maxRecDepth 100000 in
theorem kc_A_isMark (l : Launch) (D : va_G) (cI cW : ClassId) (c : Int) (hc : -2147483648 ≤ c ∧ c ≤ 2147483647) {v : Int} (hv : zz_b (ck_mark c) = v) : Met l ky_A_isMark kv_A_isMark ({ frames := 0, cells := 0, slots := 0, locals := 0 }) (va_Pc [.int (zz_I (c))] (zz_P D cI cW (fun _ => True))) (zz_Qp (.int (zz_I v))) 0 0 (fun _ => False) := by
  subst hv
  refine Met.ofW (cc := kb_A_isMark) (maxL := 1) (ret := (some .boolean)) (by decide) rfl ?_
  intro pg ev sg mg ag bl mt cd s1 Bd hml hv
  obtain ⟨rfl, hP, hK⟩ := hv
  have hx := Bd.exec
  have hb := Bd.bytes
  have hr := Bd.returns
  have hlocks := Bd.notSynchronized
  have hts : ∀ w ∈ zz_tbl, w.before _ sg = true := fun w h => atoms_spec (ws := kv_A_isMark) Bd.pre w (List.mem_cons_of_mem _ h)
  have hown : sg.vm.findClass kn_A = some mg.cls := findClass_of_methodNamed Bd.named
  have hl := lv_entry ([.int (zz_I (c))]) (n := 1) (Nat.le_of_ble_eq_true rfl)
  rw [lg_entry_eq]
  generalize (lg_sl ([.int (zz_I (c))]) ++ List.replicate (1 - (lg_sl ([.int (zz_I (c))])).length) Slot.unset).toArray = ls at hl ⊢
  have hl : lv_has ls 1 [(0, .int (zz_I (c)))] := hl
  refine lv_iload_n hx hb kd_A_isMark_0 rfl (lv_at hl 0 rfl) ?_
  refine zz_bipush hx hb kd_A_isMark_1 (by decide) ?_
  refine zz_icmp_lt (tgt := 16) hx hb kd_A_isMark_3 (by decide) (by omega) (fun hbr3 => ?_) (fun hbr3 => ?_)
  · refine zz_iconst hx hb (v := 0) (rfl) kd_A_isMark_16 ?_
    exact W.zret (ty := .boolean) hx hb hr (by decide) (zz_endp (zz_f (decide_eq_false (by omega)))) (fun _ h => nomatch h) kd_A_isMark_17
  · refine lv_iload_n hx hb kd_A_isMark_6 rfl (lv_at hl 0 rfl) ?_
    refine zz_bipush hx hb kd_A_isMark_7 (by decide) ?_
    refine zz_icmp_gt (tgt := 16) hx hb kd_A_isMark_9 (by decide) (by omega) (fun hbr9 => ?_) (fun hbr9 => ?_)
    · refine zz_iconst hx hb (v := 0) (rfl) kd_A_isMark_16 ?_
      exact W.zret (ty := .boolean) hx hb hr (by decide) (zz_endp (zz_f (decide_eq_false (by omega)))) (fun _ h => nomatch h) kd_A_isMark_17
    · refine zz_iconst hx hb (v := 1) (rfl) kd_A_isMark_12 ?_
      refine lv_goto (tgt := 17) hx hb kd_A_isMark_13 (by decide) ?_
      exact W.zret (ty := .boolean) hx hb hr (by decide) (zz_endp (zz_t (decide_eq_true (by omega)))) (fun _ h => nomatch h) kd_A_isMark_17
set_option maxHeartbeats 4000000 in
set_option maxRecDepth 100000 in
theorem kc_A_isInvisible (l : Launch) (D : va_G) (cI cW : ClassId) (c : Int) (hc : -2147483648 ≤ c ∧ c ≤ 2147483647) {v : Int} (hv : zz_b (ck_inv c) = v) : Met l ky_A_isInvisible kv_A_isInvisible ({ frames := 0, cells := 0, slots := 0, locals := 0 }) (va_Pc [.int (zz_I (c))] (zz_P D cI cW (fun _ => True))) (zz_Qp (.int (zz_I v))) 0 0 (fun _ => False) := by
  subst hv
  refine Met.ofW (cc := kb_A_isInvisible) (maxL := 1) (ret := (some .boolean)) (by decide) rfl ?_
  intro pg ev sg mg ag bl mt cd s1 Bd hml hv
  obtain ⟨rfl, hP, hK⟩ := hv
  have hx := Bd.exec
  have hb := Bd.bytes
  have hr := Bd.returns
  have hlocks := Bd.notSynchronized
  have hts : ∀ w ∈ zz_tbl, w.before _ sg = true := fun w h => atoms_spec (ws := kv_A_isInvisible) Bd.pre w (List.mem_cons_of_mem _ h)
  have hown : sg.vm.findClass kn_A = some mg.cls := findClass_of_methodNamed Bd.named
  have hl := lv_entry ([.int (zz_I (c))]) (n := 1) (Nat.le_of_ble_eq_true rfl)
  rw [lg_entry_eq]
  generalize (lg_sl ([.int (zz_I (c))]) ++ List.replicate (1 - (lg_sl ([.int (zz_I (c))])).length) Slot.unset).toArray = ls at hl ⊢
  have hl : lv_has ls 1 [(0, .int (zz_I (c)))] := hl
  refine lv_iload_n hx hb kd_A_isInvisible_0 rfl (lv_at hl 0 rfl) ?_
  refine zz_bipush hx hb kd_A_isInvisible_1 (by decide) ?_
  refine zz_icmp_lt (tgt := 16) hx hb kd_A_isInvisible_3 (by decide) (by omega) (fun hbr3 => ?_) (fun hbr3 => ?_)
  · refine zz_iconst hx hb (v := 0) (rfl) kd_A_isInvisible_16 ?_
    exact W.zret (ty := .boolean) hx hb hr (by decide) (zz_endp (zz_f (decide_eq_false (by omega)))) (fun _ h => nomatch h) kd_A_isInvisible_17
  · refine lv_iload_n hx hb kd_A_isInvisible_6 rfl (lv_at hl 0 rfl) ?_
    refine zz_bipush hx hb kd_A_isInvisible_7 (by decide) ?_
    refine zz_icmp_gt (tgt := 16) hx hb kd_A_isInvisible_9 (by decide) (by omega) (fun hbr9 => ?_) (fun hbr9 => ?_)
    · refine zz_iconst hx hb (v := 0) (rfl) kd_A_isInvisible_16 ?_
      exact W.zret (ty := .boolean) hx hb hr (by decide) (zz_endp (zz_f (decide_eq_false (by omega)))) (fun _ h => nomatch h) kd_A_isInvisible_17
    · refine zz_iconst hx hb (v := 1) (rfl) kd_A_isInvisible_12 ?_
      refine lv_goto (tgt := 17) hx hb kd_A_isInvisible_13 (by decide) ?_
      exact W.zret (ty := .boolean) hx hb hr (by decide) (zz_endp (zz_t (decide_eq_true (by omega)))) (fun _ h => nomatch h) kd_A_isInvisible_17
set_option maxHeartbeats 4000000 in
set_option maxRecDepth 100000 in
theorem kc_A_isDashOrDot (l : Launch) (D : va_G) (cI cW : ClassId) (c : Int) (hc : -2147483648 ≤ c ∧ c ≤ 2147483647) {v : Int} (hv : zz_b (ck_joint c) = v) : Met l ky_A_isDashOrDot kv_A_isDashOrDot ({ frames := 0, cells := 0, slots := 0, locals := 0 }) (va_Pc [.int (zz_I (c))] (zz_P D cI cW (fun _ => True))) (zz_Qp (.int (zz_I v))) 0 0 (fun _ => False) := by
  subst hv
  refine Met.ofW (cc := kb_A_isDashOrDot) (maxL := 1) (ret := (some .boolean)) (by decide) rfl ?_
  intro pg ev sg mg ag bl mt cd s1 Bd hml hv
  obtain ⟨rfl, hP, hK⟩ := hv
  have hx := Bd.exec
  have hb := Bd.bytes
  have hr := Bd.returns
  have hlocks := Bd.notSynchronized
  have hts : ∀ w ∈ zz_tbl, w.before _ sg = true := fun w h => atoms_spec (ws := kv_A_isDashOrDot) Bd.pre w (List.mem_cons_of_mem _ h)
  have hown : sg.vm.findClass kn_A = some mg.cls := findClass_of_methodNamed Bd.named
  have hl := lv_entry ([.int (zz_I (c))]) (n := 1) (Nat.le_of_ble_eq_true rfl)
  rw [lg_entry_eq]
  generalize (lg_sl ([.int (zz_I (c))]) ++ List.replicate (1 - (lg_sl ([.int (zz_I (c))])).length) Slot.unset).toArray = ls at hl ⊢
  have hl : lv_has ls 1 [(0, .int (zz_I (c)))] := hl
  refine lv_iload_n hx hb kd_A_isDashOrDot_0 rfl (lv_at hl 0 rfl) ?_
  refine zz_bipush hx hb kd_A_isDashOrDot_1 (by decide) ?_
  refine zz_icmp_eq (tgt := 12) hx hb kd_A_isDashOrDot_3 (by decide) (by omega) (fun hbr3 => ?_) (fun hbr3 => ?_)
  · refine zz_iconst hx hb (v := 1) (rfl) kd_A_isDashOrDot_12 ?_
    refine lv_goto (tgt := 17) hx hb kd_A_isDashOrDot_13 (by decide) ?_
    exact W.zret (ty := .boolean) hx hb hr (by decide) (zz_endp (zz_t (decide_eq_true (by omega)))) (fun _ h => nomatch h) kd_A_isDashOrDot_17
  · refine lv_iload_n hx hb kd_A_isDashOrDot_6 rfl (lv_at hl 0 rfl) ?_
    refine zz_bipush hx hb kd_A_isDashOrDot_7 (by decide) ?_
    refine zz_icmp_ne (tgt := 16) hx hb kd_A_isDashOrDot_9 (by decide) (by omega) (fun hbr9 => ?_) (fun hbr9 => ?_)
    · refine zz_iconst hx hb (v := 0) (rfl) kd_A_isDashOrDot_16 ?_
      exact W.zret (ty := .boolean) hx hb hr (by decide) (zz_endp (zz_f (decide_eq_false (by omega)))) (fun _ h => nomatch h) kd_A_isDashOrDot_17
    · refine zz_iconst hx hb (v := 1) (rfl) kd_A_isDashOrDot_12 ?_
      refine lv_goto (tgt := 17) hx hb kd_A_isDashOrDot_13 (by decide) ?_
      exact W.zret (ty := .boolean) hx hb hr (by decide) (zz_endp (zz_t (decide_eq_true (by omega)))) (fun _ h => nomatch h) kd_A_isDashOrDot_17
set_option maxHeartbeats 4000000 in
set_option maxRecDepth 100000 in
theorem kc_A_isPieceAlone (l : Launch) (D : va_G) (cI cW : ClassId) (c : Int) (hc : -2147483648 ≤ c ∧ c ≤ 2147483647) {v : Int} (hv : zz_b (ck_alone c) = v) : Met l ky_A_isPieceAlone kv_A_isPieceAlone ({ frames := 2, cells := 0, slots := 0, locals := 40 }) (va_Pc [.int (zz_I (c))] (zz_P D cI cW (fun _ => True))) (zz_Qp (.int (zz_I v))) 0 0 (fun _ => False) := by
  subst hv
  refine Met.ofW (cc := kb_A_isPieceAlone) (maxL := 1) (ret := (some .boolean)) (by decide) rfl ?_
  intro pg ev sg mg ag bl mt cd s1 Bd hml hv
  obtain ⟨rfl, hP, hK⟩ := hv
  have hx := Bd.exec
  have hb := Bd.bytes
  have hr := Bd.returns
  have hlocks := Bd.notSynchronized
  have hts : ∀ w ∈ zz_tbl, w.before _ sg = true := fun w h => atoms_spec (ws := kv_A_isPieceAlone) Bd.pre w (List.mem_cons_of_mem _ h)
  have hown : sg.vm.findClass kn_A = some mg.cls := findClass_of_methodNamed Bd.named
  have hl := lv_entry ([.int (zz_I (c))]) (n := 1) (Nat.le_of_ble_eq_true rfl)
  rw [lg_entry_eq]
  generalize (lg_sl ([.int (zz_I (c))]) ++ List.replicate (1 - (lg_sl ([.int (zz_I (c))])).length) Slot.unset).toArray = ls at hl ⊢
  have hl : lv_has ls 1 [(0, .int (zz_I (c)))] := hl
  refine lv_iload_n hx hb kd_A_isPieceAlone_0 rfl (lv_at hl 0 rfl) ?_
  refine zz_pS ⟨hx, hb, hml, hown, hts⟩ hK (kc_A_isLetter l D cI cW c (by omega) rfl) (zz_gS kw_186 kw_187 kw_37 kw_188) ⟨rfl, rfl⟩ kh_A_isLetter ⟨Nat.le_of_ble_eq_true rfl, Nat.le_of_ble_eq_true rfl⟩  trivial rfl hl.1 rfl (Nat.le_of_ble_eq_true rfl) kd_A_isPieceAlone_1 ⟨Nat.le_of_ble_eq_true rfl, Nat.le_of_ble_eq_true rfl⟩ ?_
  refine zz_ifb_ne (tgt := 34) hx hb kd_A_isPieceAlone_4 (by decide) (fun hbr4 => ?_) (fun hbr4 => ?_)
  · have hbr4 := of_decide_eq_true hbr4
    refine zz_iconst hx hb (v := 1) (rfl) kd_A_isPieceAlone_34 ?_
    refine lv_goto (tgt := 39) hx hb kd_A_isPieceAlone_35 (by decide) ?_
    exact W.zret (ty := .boolean) hx hb hr (by decide) (zz_endp (zz_t (decide_eq_true (by omega)))) (fun _ h => nomatch h) kd_A_isPieceAlone_39
  · have hbr4 := of_decide_eq_false hbr4
    refine lv_iload_n hx hb kd_A_isPieceAlone_7 rfl (lv_at hl 0 rfl) ?_
    refine zz_pS ⟨hx, hb, hml, hown, hts⟩ hK (kc_A_isWesternDigit l D cI cW c (by omega) rfl) (zz_gS kw_214 kw_215 kw_37 kw_216) ⟨rfl, rfl⟩ kh_A_isWesternDigit ⟨Nat.le_of_ble_eq_true rfl, Nat.le_of_ble_eq_true rfl⟩  trivial rfl hl.1 rfl (Nat.le_of_ble_eq_true rfl) kd_A_isPieceAlone_8 ⟨Nat.le_of_ble_eq_true rfl, Nat.le_of_ble_eq_true rfl⟩ ?_
    refine zz_ifb_ne (tgt := 34) hx hb kd_A_isPieceAlone_11 (by decide) (fun hbr11 => ?_) (fun hbr11 => ?_)
    · have hbr11 := of_decide_eq_true hbr11
      refine zz_iconst hx hb (v := 1) (rfl) kd_A_isPieceAlone_34 ?_
      refine lv_goto (tgt := 39) hx hb kd_A_isPieceAlone_35 (by decide) ?_
      exact W.zret (ty := .boolean) hx hb hr (by decide) (zz_endp (zz_t (decide_eq_true (by omega)))) (fun _ h => nomatch h) kd_A_isPieceAlone_39
    · have hbr11 := of_decide_eq_false hbr11
      refine lv_iload_n hx hb kd_A_isPieceAlone_14 rfl (lv_at hl 0 rfl) ?_
      refine zz_pS ⟨hx, hb, hml, hown, hts⟩ hK (kc_A_isEasternDigit l D cI cW c (by omega) rfl) (zz_gS kw_183 kw_184 kw_37 kw_185) ⟨rfl, rfl⟩ kh_A_isEasternDigit ⟨Nat.le_of_ble_eq_true rfl, Nat.le_of_ble_eq_true rfl⟩  trivial rfl hl.1 rfl (Nat.le_of_ble_eq_true rfl) kd_A_isPieceAlone_15 ⟨Nat.le_of_ble_eq_true rfl, Nat.le_of_ble_eq_true rfl⟩ ?_
      refine zz_ifb_ne (tgt := 34) hx hb kd_A_isPieceAlone_18 (by decide) (fun hbr18 => ?_) (fun hbr18 => ?_)
      · have hbr18 := of_decide_eq_true hbr18
        refine zz_iconst hx hb (v := 1) (rfl) kd_A_isPieceAlone_34 ?_
        refine lv_goto (tgt := 39) hx hb kd_A_isPieceAlone_35 (by decide) ?_
        exact W.zret (ty := .boolean) hx hb hr (by decide) (zz_endp (zz_t (decide_eq_true (by omega)))) (fun _ h => nomatch h) kd_A_isPieceAlone_39
      · have hbr18 := of_decide_eq_false hbr18
        refine lv_iload_n hx hb kd_A_isPieceAlone_21 rfl (lv_at hl 0 rfl) ?_
        refine zz_pS ⟨hx, hb, hml, hown, hts⟩ hK (kc_A_isMark l D cI cW c (by omega) rfl) (zz_gS kw_296 kw_266 kw_37 kw_267) ⟨rfl, rfl⟩ kh_A_isMark ⟨Nat.le_of_ble_eq_true rfl, Nat.le_of_ble_eq_true rfl⟩  trivial rfl hl.1 rfl (Nat.le_of_ble_eq_true rfl) kd_A_isPieceAlone_22 ⟨Nat.le_of_ble_eq_true rfl, Nat.le_of_ble_eq_true rfl⟩ ?_
        refine zz_ifb_ne (tgt := 34) hx hb kd_A_isPieceAlone_25 (by decide) (fun hbr25 => ?_) (fun hbr25 => ?_)
        · have hbr25 := of_decide_eq_true hbr25
          refine zz_iconst hx hb (v := 1) (rfl) kd_A_isPieceAlone_34 ?_
          refine lv_goto (tgt := 39) hx hb kd_A_isPieceAlone_35 (by decide) ?_
          exact W.zret (ty := .boolean) hx hb hr (by decide) (zz_endp (zz_t (decide_eq_true (by omega)))) (fun _ h => nomatch h) kd_A_isPieceAlone_39
        · have hbr25 := of_decide_eq_false hbr25
          refine lv_iload_n hx hb kd_A_isPieceAlone_28 rfl (lv_at hl 0 rfl) ?_
          refine zz_bipush hx hb kd_A_isPieceAlone_29 (by decide) ?_
          refine zz_icmp_ne (tgt := 38) hx hb kd_A_isPieceAlone_31 (by decide) (by omega) (fun hbr31 => ?_) (fun hbr31 => ?_)
          · refine zz_iconst hx hb (v := 0) (rfl) kd_A_isPieceAlone_38 ?_
            exact W.zret (ty := .boolean) hx hb hr (by decide) (zz_endp (zz_f (decide_eq_false (by omega)))) (fun _ h => nomatch h) kd_A_isPieceAlone_39
          · refine zz_iconst hx hb (v := 1) (rfl) kd_A_isPieceAlone_34 ?_
            refine lv_goto (tgt := 39) hx hb kd_A_isPieceAlone_35 (by decide) ?_
            exact W.zret (ty := .boolean) hx hb hr (by decide) (zz_endp (zz_t (decide_eq_true (by omega)))) (fun _ h => nomatch h) kd_A_isPieceAlone_39
set_option maxHeartbeats 4000000 in
set_option maxRecDepth 100000 in
theorem kc_A_isForbidden (l : Launch) (D : va_G) (cI cW : ClassId) (c : Int) (hc : -2147483648 ≤ c ∧ c ≤ 2147483647) {v : Int} (hv : zz_b (ck_forb c) = v) : Met l ky_A_isForbidden kv_A_isForbidden ({ frames := 0, cells := 0, slots := 0, locals := 0 }) (va_Pc [.int (zz_I (c))] (zz_P D cI cW (fun _ => True))) (zz_Qp (.int (zz_I v))) 0 0 (fun _ => False) := by
  subst hv
  refine Met.ofW (cc := kb_A_isForbidden) (maxL := 1) (ret := (some .boolean)) (by decide) rfl ?_
  intro pg ev sg mg ag bl mt cd s1 Bd hml hv
  obtain ⟨rfl, hP, hK⟩ := hv
  have hx := Bd.exec
  have hb := Bd.bytes
  have hr := Bd.returns
  have hlocks := Bd.notSynchronized
  have hts : ∀ w ∈ zz_tbl, w.before _ sg = true := fun w h => atoms_spec (ws := kv_A_isForbidden) Bd.pre w (List.mem_cons_of_mem _ h)
  have hown : sg.vm.findClass kn_A = some mg.cls := findClass_of_methodNamed Bd.named
  have hl := lv_entry ([.int (zz_I (c))]) (n := 1) (Nat.le_of_ble_eq_true rfl)
  rw [lg_entry_eq]
  generalize (lg_sl ([.int (zz_I (c))]) ++ List.replicate (1 - (lg_sl ([.int (zz_I (c))])).length) Slot.unset).toArray = ls at hl ⊢
  have hl : lv_has ls 1 [(0, .int (zz_I (c)))] := hl
  refine lv_iload_n hx hb kd_A_isForbidden_0 rfl (lv_at hl 0 rfl) ?_
  refine zz_bipush hx hb kd_A_isForbidden_1 (by decide) ?_
  refine zz_icmp_lt (tgt := 16) hx hb kd_A_isForbidden_3 (by decide) (by omega) (fun hbr3 => ?_) (fun hbr3 => ?_)
  · refine zz_iconst hx hb (v := 0) (rfl) kd_A_isForbidden_16 ?_
    exact W.zret (ty := .boolean) hx hb hr (by decide) (zz_endp (zz_f (decide_eq_false (by omega)))) (fun _ h => nomatch h) kd_A_isForbidden_17
  · refine lv_iload_n hx hb kd_A_isForbidden_6 rfl (lv_at hl 0 rfl) ?_
    refine zz_bipush hx hb kd_A_isForbidden_7 (by decide) ?_
    refine zz_icmp_gt (tgt := 16) hx hb kd_A_isForbidden_9 (by decide) (by omega) (fun hbr9 => ?_) (fun hbr9 => ?_)
    · refine zz_iconst hx hb (v := 0) (rfl) kd_A_isForbidden_16 ?_
      exact W.zret (ty := .boolean) hx hb hr (by decide) (zz_endp (zz_f (decide_eq_false (by omega)))) (fun _ h => nomatch h) kd_A_isForbidden_17
    · refine zz_iconst hx hb (v := 1) (rfl) kd_A_isForbidden_12 ?_
      refine lv_goto (tgt := 17) hx hb kd_A_isForbidden_13 (by decide) ?_
      exact W.zret (ty := .boolean) hx hb hr (by decide) (zz_endp (zz_t (decide_eq_true (by omega)))) (fun _ h => nomatch h) kd_A_isForbidden_17
set_option maxHeartbeats 4000000 in
set_option maxRecDepth 100000 in
theorem kc_A_isPlain (l : Launch) (D : va_G) (cI cW : ClassId) (c : Int) (hc : -2147483648 ≤ c ∧ c ≤ 2147483647) {v : Int} (hv : zz_b (ck_plain c) = v) : Met l ky_A_isPlain kv_A_isPlain ({ frames := 1, cells := 0, slots := 0, locals := 20 }) (va_Pc [.int (zz_I (c))] (zz_P D cI cW (fun _ => True))) (zz_Qp (.int (zz_I v))) 0 0 (fun _ => False) := by
  subst hv
  refine Met.ofW (cc := kb_A_isPlain) (maxL := 1) (ret := (some .boolean)) (by decide) rfl ?_
  intro pg ev sg mg ag bl mt cd s1 Bd hml hv
  obtain ⟨rfl, hP, hK⟩ := hv
  have hx := Bd.exec
  have hb := Bd.bytes
  have hr := Bd.returns
  have hlocks := Bd.notSynchronized
  have hts : ∀ w ∈ zz_tbl, w.before _ sg = true := fun w h => atoms_spec (ws := kv_A_isPlain) Bd.pre w (List.mem_cons_of_mem _ h)
  have hown : sg.vm.findClass kn_A = some mg.cls := findClass_of_methodNamed Bd.named
  have hl := lv_entry ([.int (zz_I (c))]) (n := 1) (Nat.le_of_ble_eq_true rfl)
  rw [lg_entry_eq]
  generalize (lg_sl ([.int (zz_I (c))]) ++ List.replicate (1 - (lg_sl ([.int (zz_I (c))])).length) Slot.unset).toArray = ls at hl ⊢
  have hl : lv_has ls 1 [(0, .int (zz_I (c)))] := hl
  refine lv_iload_n hx hb kd_A_isPlain_0 rfl (lv_at hl 0 rfl) ?_
  refine zz_if_lt (tgt := 10) hx hb kd_A_isPlain_1 (by decide) (by omega) (fun hbr1 => ?_) (fun hbr1 => ?_)
  · refine lv_iload_n hx hb kd_A_isPlain_10 rfl (lv_at hl 0 rfl) ?_
    refine zz_pS ⟨hx, hb, hml, hown, hts⟩ hK (kc_A_isWesternDigit l D cI cW c (by omega) rfl) (zz_gS kw_214 kw_215 kw_37 kw_216) ⟨rfl, rfl⟩ kh_A_isWesternDigit ⟨Nat.le_of_ble_eq_true rfl, Nat.le_of_ble_eq_true rfl⟩  trivial rfl hl.1 rfl (Nat.le_of_ble_eq_true rfl) kd_A_isPlain_11 ⟨Nat.le_of_ble_eq_true rfl, Nat.le_of_ble_eq_true rfl⟩ ?_
    refine zz_ifb_ne (tgt := 30) hx hb kd_A_isPlain_14 (by decide) (fun hbr14 => ?_) (fun hbr14 => ?_)
    · have hbr14 := of_decide_eq_true hbr14
      refine zz_iconst hx hb (v := 1) (rfl) kd_A_isPlain_30 ?_
      refine lv_goto (tgt := 35) hx hb kd_A_isPlain_31 (by decide) ?_
      exact W.zret (ty := .boolean) hx hb hr (by decide) (zz_endp (zz_t (decide_eq_true (by omega)))) (fun _ h => nomatch h) kd_A_isPlain_35
    · have hbr14 := of_decide_eq_false hbr14
      refine lv_iload_n hx hb kd_A_isPlain_17 rfl (lv_at hl 0 rfl) ?_
      refine zz_bipush hx hb kd_A_isPlain_18 (by decide) ?_
      refine zz_icmp_eq (tgt := 30) hx hb kd_A_isPlain_20 (by decide) (by omega) (fun hbr20 => ?_) (fun hbr20 => ?_)
      · refine zz_iconst hx hb (v := 1) (rfl) kd_A_isPlain_30 ?_
        refine lv_goto (tgt := 35) hx hb kd_A_isPlain_31 (by decide) ?_
        exact W.zret (ty := .boolean) hx hb hr (by decide) (zz_endp (zz_t (decide_eq_true (by omega)))) (fun _ h => nomatch h) kd_A_isPlain_35
      · refine lv_iload_n hx hb kd_A_isPlain_23 rfl (lv_at hl 0 rfl) ?_
        refine zz_pS ⟨hx, hb, hml, hown, hts⟩ hK (kc_A_isDashOrDot l D cI cW c (by omega) rfl) (zz_gS kw_217 kw_218 kw_37 kw_219) ⟨rfl, rfl⟩ kh_A_isDashOrDot ⟨Nat.le_of_ble_eq_true rfl, Nat.le_of_ble_eq_true rfl⟩  trivial rfl hl.1 rfl (Nat.le_of_ble_eq_true rfl) kd_A_isPlain_24 ⟨Nat.le_of_ble_eq_true rfl, Nat.le_of_ble_eq_true rfl⟩ ?_
        refine zz_ifb_eq (tgt := 34) hx hb kd_A_isPlain_27 (by decide) (fun hbr27 => ?_) (fun hbr27 => ?_)
        · have hbr27 := of_decide_eq_false hbr27
          refine zz_iconst hx hb (v := 0) (rfl) kd_A_isPlain_34 ?_
          exact W.zret (ty := .boolean) hx hb hr (by decide) (zz_endp (zz_f (decide_eq_false (by omega)))) (fun _ h => nomatch h) kd_A_isPlain_35
        · have hbr27 := of_decide_eq_true hbr27
          refine zz_iconst hx hb (v := 1) (rfl) kd_A_isPlain_30 ?_
          refine lv_goto (tgt := 35) hx hb kd_A_isPlain_31 (by decide) ?_
          exact W.zret (ty := .boolean) hx hb hr (by decide) (zz_endp (zz_t (decide_eq_true (by omega)))) (fun _ h => nomatch h) kd_A_isPlain_35
  · refine lv_iload_n hx hb kd_A_isPlain_4 rfl (lv_at hl 0 rfl) ?_
    refine zz_bipush hx hb kd_A_isPlain_5 (by decide) ?_
    refine zz_icmp_le (tgt := 30) hx hb kd_A_isPlain_7 (by decide) (by omega) (fun hbr7 => ?_) (fun hbr7 => ?_)
    · refine zz_iconst hx hb (v := 1) (rfl) kd_A_isPlain_30 ?_
      refine lv_goto (tgt := 35) hx hb kd_A_isPlain_31 (by decide) ?_
      exact W.zret (ty := .boolean) hx hb hr (by decide) (zz_endp (zz_t (decide_eq_true (by omega)))) (fun _ h => nomatch h) kd_A_isPlain_35
    · refine lv_iload_n hx hb kd_A_isPlain_10 rfl (lv_at hl 0 rfl) ?_
      refine zz_pS ⟨hx, hb, hml, hown, hts⟩ hK (kc_A_isWesternDigit l D cI cW c (by omega) rfl) (zz_gS kw_214 kw_215 kw_37 kw_216) ⟨rfl, rfl⟩ kh_A_isWesternDigit ⟨Nat.le_of_ble_eq_true rfl, Nat.le_of_ble_eq_true rfl⟩  trivial rfl hl.1 rfl (Nat.le_of_ble_eq_true rfl) kd_A_isPlain_11 ⟨Nat.le_of_ble_eq_true rfl, Nat.le_of_ble_eq_true rfl⟩ ?_
      refine zz_ifb_ne (tgt := 30) hx hb kd_A_isPlain_14 (by decide) (fun hbr14 => ?_) (fun hbr14 => ?_)
      · have hbr14 := of_decide_eq_true hbr14
        refine zz_iconst hx hb (v := 1) (rfl) kd_A_isPlain_30 ?_
        refine lv_goto (tgt := 35) hx hb kd_A_isPlain_31 (by decide) ?_
        exact W.zret (ty := .boolean) hx hb hr (by decide) (zz_endp (zz_t (decide_eq_true (by omega)))) (fun _ h => nomatch h) kd_A_isPlain_35
      · have hbr14 := of_decide_eq_false hbr14
        refine lv_iload_n hx hb kd_A_isPlain_17 rfl (lv_at hl 0 rfl) ?_
        refine zz_bipush hx hb kd_A_isPlain_18 (by decide) ?_
        refine zz_icmp_eq (tgt := 30) hx hb kd_A_isPlain_20 (by decide) (by omega) (fun hbr20 => ?_) (fun hbr20 => ?_)
        · refine zz_iconst hx hb (v := 1) (rfl) kd_A_isPlain_30 ?_
          refine lv_goto (tgt := 35) hx hb kd_A_isPlain_31 (by decide) ?_
          exact W.zret (ty := .boolean) hx hb hr (by decide) (zz_endp (zz_t (decide_eq_true (by omega)))) (fun _ h => nomatch h) kd_A_isPlain_35
        · refine lv_iload_n hx hb kd_A_isPlain_23 rfl (lv_at hl 0 rfl) ?_
          refine zz_pS ⟨hx, hb, hml, hown, hts⟩ hK (kc_A_isDashOrDot l D cI cW c (by omega) rfl) (zz_gS kw_217 kw_218 kw_37 kw_219) ⟨rfl, rfl⟩ kh_A_isDashOrDot ⟨Nat.le_of_ble_eq_true rfl, Nat.le_of_ble_eq_true rfl⟩  trivial rfl hl.1 rfl (Nat.le_of_ble_eq_true rfl) kd_A_isPlain_24 ⟨Nat.le_of_ble_eq_true rfl, Nat.le_of_ble_eq_true rfl⟩ ?_
          refine zz_ifb_eq (tgt := 34) hx hb kd_A_isPlain_27 (by decide) (fun hbr27 => ?_) (fun hbr27 => ?_)
          · have hbr27 := of_decide_eq_false hbr27
            refine zz_iconst hx hb (v := 0) (rfl) kd_A_isPlain_34 ?_
            exact W.zret (ty := .boolean) hx hb hr (by decide) (zz_endp (zz_f (decide_eq_false (by omega)))) (fun _ h => nomatch h) kd_A_isPlain_35
          · have hbr27 := of_decide_eq_true hbr27
            refine zz_iconst hx hb (v := 1) (rfl) kd_A_isPlain_30 ?_
            refine lv_goto (tgt := 35) hx hb kd_A_isPlain_31 (by decide) ?_
            exact W.zret (ty := .boolean) hx hb hr (by decide) (zz_endp (zz_t (decide_eq_true (by omega)))) (fun _ h => nomatch h) kd_A_isPlain_35
set_option maxHeartbeats 4000000 in
set_option maxRecDepth 100000 in
theorem kc_A_letterOf (l : Launch) (D : va_G) (cI cW : ClassId) (c : Int) (hc : -2147483648 ≤ c ∧ c ≤ 2147483647) {v : Int} (hv : 4 * (c - 124) = v) : Met l ky_A_letterOf kv_A_letterOf ({ frames := 0, cells := 0, slots := 0, locals := 0 }) (va_Pc [.int (zz_I (c))] (zz_P D cI cW (fun _ => True))) (zz_Qp (.int (zz_I v))) 0 0 (fun _ => False) := by
  subst hv
  refine Met.ofW (cc := kb_A_letterOf) (maxL := 1) (ret := (some .int)) (by decide) rfl ?_
  intro pg ev sg mg ag bl mt cd s1 Bd hml hv
  obtain ⟨rfl, hP, hK⟩ := hv
  have hx := Bd.exec
  have hb := Bd.bytes
  have hr := Bd.returns
  have hlocks := Bd.notSynchronized
  have hts : ∀ w ∈ zz_tbl, w.before _ sg = true := fun w h => atoms_spec (ws := kv_A_letterOf) Bd.pre w (List.mem_cons_of_mem _ h)
  have hown : sg.vm.findClass kn_A = some mg.cls := findClass_of_methodNamed Bd.named
  have hl := lv_entry ([.int (zz_I (c))]) (n := 1) (Nat.le_of_ble_eq_true rfl)
  rw [lg_entry_eq]
  generalize (lg_sl ([.int (zz_I (c))]) ++ List.replicate (1 - (lg_sl ([.int (zz_I (c))])).length) Slot.unset).toArray = ls at hl ⊢
  have hl : lv_has ls 1 [(0, .int (zz_I (c)))] := hl
  refine zz_iconst hx hb (v := 4) (rfl) kd_A_letterOf_0 ?_
  refine lv_iload_n hx hb kd_A_letterOf_1 rfl (lv_at hl 0 rfl) ?_
  refine zz_bipush hx hb kd_A_letterOf_2 (by decide) ?_
  refine zz_isub hx hb (v := c - 124) (rfl) kd_A_letterOf_4 ?_
  refine zz_imul hx hb (v := 4 * (c - 124)) (rfl) kd_A_letterOf_5 ?_
  exact W.iret hx hb hr (zz_endp (by rfl)) (fun _ h => nomatch h) kd_A_letterOf_6
set_option maxHeartbeats 4000000 in
set_option maxRecDepth 100000 in
theorem kc_A_markOf (l : Launch) (D : va_G) (cI cW : ClassId) (c : Int) (hc : -2147483648 ≤ c ∧ c ≤ 2147483647) {v : Int} (hv : 104 + c - 124 = v) : Met l ky_A_markOf kv_A_markOf ({ frames := 0, cells := 0, slots := 0, locals := 0 }) (va_Pc [.int (zz_I (c))] (zz_P D cI cW (fun _ => True))) (zz_Qp (.int (zz_I v))) 0 0 (fun _ => False) := by
  subst hv
  refine Met.ofW (cc := kb_A_markOf) (maxL := 1) (ret := (some .int)) (by decide) rfl ?_
  intro pg ev sg mg ag bl mt cd s1 Bd hml hv
  obtain ⟨rfl, hP, hK⟩ := hv
  have hx := Bd.exec
  have hb := Bd.bytes
  have hr := Bd.returns
  have hlocks := Bd.notSynchronized
  have hts : ∀ w ∈ zz_tbl, w.before _ sg = true := fun w h => atoms_spec (ws := kv_A_markOf) Bd.pre w (List.mem_cons_of_mem _ h)
  have hown : sg.vm.findClass kn_A = some mg.cls := findClass_of_methodNamed Bd.named
  have hl := lv_entry ([.int (zz_I (c))]) (n := 1) (Nat.le_of_ble_eq_true rfl)
  rw [lg_entry_eq]
  generalize (lg_sl ([.int (zz_I (c))]) ++ List.replicate (1 - (lg_sl ([.int (zz_I (c))])).length) Slot.unset).toArray = ls at hl ⊢
  have hl : lv_has ls 1 [(0, .int (zz_I (c)))] := hl
  refine zz_bipush hx hb kd_A_markOf_0 (by decide) ?_
  refine lv_iload_n hx hb kd_A_markOf_2 rfl (lv_at hl 0 rfl) ?_
  refine zz_iadd hx hb (v := 104 + c) (rfl) kd_A_markOf_3 ?_
  refine zz_bipush hx hb kd_A_markOf_4 (by decide) ?_
  refine zz_isub hx hb (v := (104 + c) - 124) (rfl) kd_A_markOf_6 ?_
  exact W.iret hx hb hr (zz_endp (by rfl)) (fun _ h => nomatch h) kd_A_markOf_7
set_option maxHeartbeats 4000000 in
set_option maxRecDepth 100000 in
theorem kc_A_markClass (l : Launch) (D : va_G) (cI cW : ClassId) (c : Int) (hc : -2147483648 ≤ c ∧ c ≤ 2147483647) {v : Int} (hv : ck_cls c = v) : Met l ky_A_markClass kv_A_markClass ({ frames := 0, cells := 0, slots := 0, locals := 0 }) (va_Pc [.int (zz_I (c))] (zz_P D cI cW (fun _ => True))) (zz_Qp (.int (zz_I v))) 0 0 (fun _ => False) := by
  subst hv
  refine Met.ofW (cc := kb_A_markClass) (maxL := 1) (ret := (some .int)) (by decide) rfl ?_
  intro pg ev sg mg ag bl mt cd s1 Bd hml hv
  obtain ⟨rfl, hP, hK⟩ := hv
  have hx := Bd.exec
  have hb := Bd.bytes
  have hr := Bd.returns
  have hlocks := Bd.notSynchronized
  have hts : ∀ w ∈ zz_tbl, w.before _ sg = true := fun w h => atoms_spec (ws := kv_A_markClass) Bd.pre w (List.mem_cons_of_mem _ h)
  have hown : sg.vm.findClass kn_A = some mg.cls := findClass_of_methodNamed Bd.named
  have hl := lv_entry ([.int (zz_I (c))]) (n := 1) (Nat.le_of_ble_eq_true rfl)
  rw [lg_entry_eq]
  generalize (lg_sl ([.int (zz_I (c))]) ++ List.replicate (1 - (lg_sl ([.int (zz_I (c))])).length) Slot.unset).toArray = ls at hl ⊢
  have hl : lv_has ls 1 [(0, .int (zz_I (c)))] := hl
  refine lv_iload_n hx hb kd_A_markClass_0 rfl (lv_at hl 0 rfl) ?_
  refine zz_bipush hx hb kd_A_markClass_1 (by decide) ?_
  refine zz_icmp_lt (tgt := 12) hx hb kd_A_markClass_3 (by decide) (by omega) (fun hbr3 => ?_) (fun hbr3 => ?_)
  · refine zz_iconst hx hb (v := 0) (rfl) kd_A_markClass_12 ?_
    exact W.iret hx hb hr (zz_endp (by unfold ck_cls; (repeat' split) <;> omega)) (fun _ h => nomatch h) kd_A_markClass_13
  · refine lv_iload_n hx hb kd_A_markClass_6 rfl (lv_at hl 0 rfl) ?_
    refine zz_bipush hx hb kd_A_markClass_7 (by decide) ?_
    refine zz_icmp_le (tgt := 14) hx hb kd_A_markClass_9 (by decide) (by omega) (fun hbr9 => ?_) (fun hbr9 => ?_)
    · refine lv_iload_n hx hb kd_A_markClass_14 rfl (lv_at hl 0 rfl) ?_
      refine zz_bipush hx hb kd_A_markClass_15 (by decide) ?_
      refine zz_icmp_gt (tgt := 22) hx hb kd_A_markClass_17 (by decide) (by omega) (fun hbr17 => ?_) (fun hbr17 => ?_)
      · refine lv_iload_n hx hb kd_A_markClass_22 rfl (lv_at hl 0 rfl) ?_
        refine zz_bipush hx hb kd_A_markClass_23 (by decide) ?_
        refine zz_icmp_gt (tgt := 32) hx hb kd_A_markClass_25 (by decide) (by omega) (fun hbr25 => ?_) (fun hbr25 => ?_)
        · refine zz_iconst hx hb (v := 3) (rfl) kd_A_markClass_32 ?_
          exact W.iret hx hb hr (zz_endp (by unfold ck_cls; (repeat' split) <;> omega)) (fun _ h => nomatch h) kd_A_markClass_33
        · refine zz_iconst hx hb (v := 2) (rfl) kd_A_markClass_28 ?_
          refine lv_goto (tgt := 33) hx hb kd_A_markClass_29 (by decide) ?_
          exact W.iret hx hb hr (zz_endp (by unfold ck_cls; (repeat' split) <;> omega)) (fun _ h => nomatch h) kd_A_markClass_33
      · refine zz_iconst hx hb (v := 1) (rfl) kd_A_markClass_20 ?_
        exact W.iret hx hb hr (zz_endp (by unfold ck_cls; (repeat' split) <;> omega)) (fun _ h => nomatch h) kd_A_markClass_21
    · refine zz_iconst hx hb (v := 0) (rfl) kd_A_markClass_12 ?_
      exact W.iret hx hb hr (zz_endp (by unfold ck_cls; (repeat' split) <;> omega)) (fun _ h => nomatch h) kd_A_markClass_13
set_option maxHeartbeats 4000000 in
set_option maxRecDepth 100000 in
theorem kc_A_latinFor (l : Launch) (D : va_G) (cI cW : ClassId) (c : Int) (hc : 0 ≤ c ∧ c ≤ 127) {v : Int} (hv : ck_lat c = v) : Met l ky_A_latinFor kv_A_latinFor ({ frames := 0, cells := 0, slots := 0, locals := 0 }) (va_Pc [.int (zz_I (c))] (zz_P D cI cW (fun _ => True))) (zz_Qp (.int (zz_I v))) 0 0 (fun _ => False) := by
  subst hv
  refine Met.ofW (cc := kb_A_latinFor) (maxL := 1) (ret := (some .int)) (by decide) rfl ?_
  intro pg ev sg mg ag bl mt cd s1 Bd hml hv
  obtain ⟨rfl, hP, hK⟩ := hv
  have hx := Bd.exec
  have hb := Bd.bytes
  have hr := Bd.returns
  have hlocks := Bd.notSynchronized
  have hts : ∀ w ∈ zz_tbl, w.before _ sg = true := fun w h => atoms_spec (ws := kv_A_latinFor) Bd.pre w (List.mem_cons_of_mem _ h)
  have hown : sg.vm.findClass kn_A = some mg.cls := findClass_of_methodNamed Bd.named
  have hl := lv_entry ([.int (zz_I (c))]) (n := 1) (Nat.le_of_ble_eq_true rfl)
  rw [lg_entry_eq]
  generalize (lg_sl ([.int (zz_I (c))]) ++ List.replicate (1 - (lg_sl ([.int (zz_I (c))])).length) Slot.unset).toArray = ls at hl ⊢
  have hl : lv_has ls 1 [(0, .int (zz_I (c)))] := hl
  refine lv_iload_n hx hb kd_A_latinFor_0 rfl (lv_at hl 0 rfl) ?_
  refine zz_bipush hx hb kd_A_latinFor_1 (by decide) ?_
  refine zz_icmp_lt (tgt := 26) hx hb kd_A_latinFor_3 (by decide) (by omega) (fun hbr3 => ?_) (fun hbr3 => ?_)
  · refine lv_iload_n hx hb kd_A_latinFor_26 rfl (lv_at hl 0 rfl) ?_
    refine zz_bipush hx hb kd_A_latinFor_27 (by decide) ?_
    refine zz_icmp_lt (tgt := 52) hx hb kd_A_latinFor_29 (by decide) (by omega) (fun hbr29 => ?_) (fun hbr29 => ?_)
    · refine lv_iload_n hx hb kd_A_latinFor_52 rfl (lv_at hl 0 rfl) ?_
      exact W.iret hx hb hr (zz_endp (by unfold ck_lat; (repeat' split) <;> omega)) (fun _ h => nomatch h) kd_A_latinFor_53
    · refine lv_iload_n hx hb kd_A_latinFor_32 rfl (lv_at hl 0 rfl) ?_
      refine zz_bipush hx hb kd_A_latinFor_33 (by decide) ?_
      refine zz_icmp_gt (tgt := 52) hx hb kd_A_latinFor_35 (by decide) (by omega) (fun hbr35 => ?_) (fun hbr35 => ?_)
      · refine lv_iload_n hx hb kd_A_latinFor_52 rfl (lv_at hl 0 rfl) ?_
        exact W.iret hx hb hr (zz_endp (by unfold ck_lat; (repeat' split) <;> omega)) (fun _ h => nomatch h) kd_A_latinFor_53
      · refine lv_iload_n hx hb kd_A_latinFor_38 rfl (lv_at hl 0 rfl) ?_
        refine zz_bipush hx hb kd_A_latinFor_39 (by decide) ?_
        refine zz_isub hx hb (v := c - 32) (rfl) kd_A_latinFor_41 ?_
        refine zz_iconst hx hb (v := 3) (rfl) kd_A_latinFor_42 ?_
        refine zz_irem hx hb (v := (c - 32) % 3) (rfl) kd_A_latinFor_43 (by omega) ?_
        refine zz_if_ne (tgt := 52) hx hb kd_A_latinFor_44 (by decide) (by omega) (fun hbr44 => ?_) (fun hbr44 => ?_)
        · refine lv_iload_n hx hb kd_A_latinFor_52 rfl (lv_at hl 0 rfl) ?_
          exact W.iret hx hb hr (zz_endp (by unfold ck_lat; (repeat' split) <;> omega)) (fun _ h => nomatch h) kd_A_latinFor_53
        · refine lv_iload_n hx hb kd_A_latinFor_47 rfl (lv_at hl 0 rfl) ?_
          refine zz_bipush hx hb kd_A_latinFor_48 (by decide) ?_
          refine zz_isub hx hb (v := c - 32) (rfl) kd_A_latinFor_50 ?_
          exact W.iret hx hb hr (zz_endp (by unfold ck_lat; (repeat' split) <;> omega)) (fun _ h => nomatch h) kd_A_latinFor_51
  · refine lv_iload_n hx hb kd_A_latinFor_6 rfl (lv_at hl 0 rfl) ?_
    refine zz_bipush hx hb kd_A_latinFor_7 (by decide) ?_
    refine zz_icmp_gt (tgt := 26) hx hb kd_A_latinFor_9 (by decide) (by omega) (fun hbr9 => ?_) (fun hbr9 => ?_)
    · refine lv_iload_n hx hb kd_A_latinFor_26 rfl (lv_at hl 0 rfl) ?_
      refine zz_bipush hx hb kd_A_latinFor_27 (by decide) ?_
      refine zz_icmp_lt (tgt := 52) hx hb kd_A_latinFor_29 (by decide) (by omega) (fun hbr29 => ?_) (fun hbr29 => ?_)
      · refine lv_iload_n hx hb kd_A_latinFor_52 rfl (lv_at hl 0 rfl) ?_
        exact W.iret hx hb hr (zz_endp (by unfold ck_lat; (repeat' split) <;> omega)) (fun _ h => nomatch h) kd_A_latinFor_53
      · refine lv_iload_n hx hb kd_A_latinFor_32 rfl (lv_at hl 0 rfl) ?_
        refine zz_bipush hx hb kd_A_latinFor_33 (by decide) ?_
        refine zz_icmp_gt (tgt := 52) hx hb kd_A_latinFor_35 (by decide) (by omega) (fun hbr35 => ?_) (fun hbr35 => ?_)
        · refine lv_iload_n hx hb kd_A_latinFor_52 rfl (lv_at hl 0 rfl) ?_
          exact W.iret hx hb hr (zz_endp (by unfold ck_lat; (repeat' split) <;> omega)) (fun _ h => nomatch h) kd_A_latinFor_53
        · refine lv_iload_n hx hb kd_A_latinFor_38 rfl (lv_at hl 0 rfl) ?_
          refine zz_bipush hx hb kd_A_latinFor_39 (by decide) ?_
          refine zz_isub hx hb (v := c - 32) (rfl) kd_A_latinFor_41 ?_
          refine zz_iconst hx hb (v := 3) (rfl) kd_A_latinFor_42 ?_
          refine zz_irem hx hb (v := (c - 32) % 3) (rfl) kd_A_latinFor_43 (by omega) ?_
          refine zz_if_ne (tgt := 52) hx hb kd_A_latinFor_44 (by decide) (by omega) (fun hbr44 => ?_) (fun hbr44 => ?_)
          · refine lv_iload_n hx hb kd_A_latinFor_52 rfl (lv_at hl 0 rfl) ?_
            exact W.iret hx hb hr (zz_endp (by unfold ck_lat; (repeat' split) <;> omega)) (fun _ h => nomatch h) kd_A_latinFor_53
          · refine lv_iload_n hx hb kd_A_latinFor_47 rfl (lv_at hl 0 rfl) ?_
            refine zz_bipush hx hb kd_A_latinFor_48 (by decide) ?_
            refine zz_isub hx hb (v := c - 32) (rfl) kd_A_latinFor_50 ?_
            exact W.iret hx hb hr (zz_endp (by unfold ck_lat; (repeat' split) <;> omega)) (fun _ h => nomatch h) kd_A_latinFor_51
    · refine lv_iload_n hx hb kd_A_latinFor_12 rfl (lv_at hl 0 rfl) ?_
      refine zz_bipush hx hb kd_A_latinFor_13 (by decide) ?_
      refine zz_isub hx hb (v := c - 16) (rfl) kd_A_latinFor_15 ?_
      refine zz_iconst hx hb (v := 2) (rfl) kd_A_latinFor_16 ?_
      refine zz_irem hx hb (v := (c - 16) % 2) (rfl) kd_A_latinFor_17 (by omega) ?_
      refine zz_if_ne (tgt := 26) hx hb kd_A_latinFor_18 (by decide) (by omega) (fun hbr18 => ?_) (fun hbr18 => ?_)
      · refine lv_iload_n hx hb kd_A_latinFor_26 rfl (lv_at hl 0 rfl) ?_
        refine zz_bipush hx hb kd_A_latinFor_27 (by decide) ?_
        refine zz_icmp_lt (tgt := 52) hx hb kd_A_latinFor_29 (by decide) (by omega) (fun hbr29 => ?_) (fun hbr29 => ?_)
        · refine lv_iload_n hx hb kd_A_latinFor_52 rfl (lv_at hl 0 rfl) ?_
          exact W.iret hx hb hr (zz_endp (by unfold ck_lat; (repeat' split) <;> omega)) (fun _ h => nomatch h) kd_A_latinFor_53
        · refine lv_iload_n hx hb kd_A_latinFor_32 rfl (lv_at hl 0 rfl) ?_
          refine zz_bipush hx hb kd_A_latinFor_33 (by decide) ?_
          refine zz_icmp_gt (tgt := 52) hx hb kd_A_latinFor_35 (by decide) (by omega) (fun hbr35 => ?_) (fun hbr35 => ?_)
          · refine lv_iload_n hx hb kd_A_latinFor_52 rfl (lv_at hl 0 rfl) ?_
            exact W.iret hx hb hr (zz_endp (by unfold ck_lat; (repeat' split) <;> omega)) (fun _ h => nomatch h) kd_A_latinFor_53
          · refine lv_iload_n hx hb kd_A_latinFor_38 rfl (lv_at hl 0 rfl) ?_
            refine zz_bipush hx hb kd_A_latinFor_39 (by decide) ?_
            refine zz_isub hx hb (v := c - 32) (rfl) kd_A_latinFor_41 ?_
            refine zz_iconst hx hb (v := 3) (rfl) kd_A_latinFor_42 ?_
            refine zz_irem hx hb (v := (c - 32) % 3) (rfl) kd_A_latinFor_43 (by omega) ?_
            refine zz_if_ne (tgt := 52) hx hb kd_A_latinFor_44 (by decide) (by omega) (fun hbr44 => ?_) (fun hbr44 => ?_)
            · refine lv_iload_n hx hb kd_A_latinFor_52 rfl (lv_at hl 0 rfl) ?_
              exact W.iret hx hb hr (zz_endp (by unfold ck_lat; (repeat' split) <;> omega)) (fun _ h => nomatch h) kd_A_latinFor_53
            · refine lv_iload_n hx hb kd_A_latinFor_47 rfl (lv_at hl 0 rfl) ?_
              refine zz_bipush hx hb kd_A_latinFor_48 (by decide) ?_
              refine zz_isub hx hb (v := c - 32) (rfl) kd_A_latinFor_50 ?_
              exact W.iret hx hb hr (zz_endp (by unfold ck_lat; (repeat' split) <;> omega)) (fun _ h => nomatch h) kd_A_latinFor_51
      · refine lv_iload_n hx hb kd_A_latinFor_21 rfl (lv_at hl 0 rfl) ?_
        refine zz_bipush hx hb kd_A_latinFor_22 (by decide) ?_
        refine zz_isub hx hb (v := c - 16) (rfl) kd_A_latinFor_24 ?_
        exact W.iret hx hb hr (zz_endp (by unfold ck_lat; (repeat' split) <;> omega)) (fun _ h => nomatch h) kd_A_latinFor_25
set_option maxHeartbeats 4000000 in
set_option maxRecDepth 100000 in
theorem kc_A_firstOfPrototype (l : Launch) (D : va_G) (cI cW : ClassId) (c : Int) (hc : 0 ≤ c ∧ c ≤ 127) {v : Int} (hv : ck_p1 c = v) : Met l ky_A_firstOfPrototype kv_A_firstOfPrototype ({ frames := 1, cells := 0, slots := 0, locals := 20 }) (va_Pc [.int (zz_I (c))] (zz_P D cI cW (fun _ => True))) (zz_Qp (.int (zz_I v))) 0 0 (fun _ => False) := by
  subst hv
  refine Met.ofW (cc := kb_A_firstOfPrototype) (maxL := 2) (ret := (some .int)) (by decide) rfl ?_
  intro pg ev sg mg ag bl mt cd s1 Bd hml hv
  obtain ⟨rfl, hP, hK⟩ := hv
  have hx := Bd.exec
  have hb := Bd.bytes
  have hr := Bd.returns
  have hlocks := Bd.notSynchronized
  have hts : ∀ w ∈ zz_tbl, w.before _ sg = true := fun w h => atoms_spec (ws := kv_A_firstOfPrototype) Bd.pre w (List.mem_cons_of_mem _ h)
  have hown : sg.vm.findClass kn_A = some mg.cls := findClass_of_methodNamed Bd.named
  have hl := lv_entry ([.int (zz_I (c))]) (n := 2) (Nat.le_of_ble_eq_true rfl)
  rw [lg_entry_eq]
  generalize (lg_sl ([.int (zz_I (c))]) ++ List.replicate (2 - (lg_sl ([.int (zz_I (c))])).length) Slot.unset).toArray = ls at hl ⊢
  have hl : lv_has ls 2 [(0, .int (zz_I (c)))] := hl
  refine lv_iload_n hx hb kd_A_firstOfPrototype_0 rfl (lv_at hl 0 rfl) ?_
  refine zz_pS ⟨hx, hb, hml, hown, hts⟩ hK (kc_A_latinFor l D cI cW c (by omega) rfl) (zz_gS kw_450 kw_451 kw_37 kw_452) ⟨rfl, rfl⟩ kh_A_latinFor ⟨Nat.le_of_ble_eq_true rfl, Nat.le_of_ble_eq_true rfl⟩  trivial rfl hl.1 rfl (Nat.le_of_ble_eq_true rfl) kd_A_firstOfPrototype_1 ⟨Nat.le_of_ble_eq_true rfl, Nat.le_of_ble_eq_true rfl⟩ ?_
  refine lv_istore_n hx hb kd_A_firstOfPrototype_4 rfl hl (by decide) rfl (fun ls hl => ?_)
  have hl : lv_has ls 2 [(1, .int (zz_I (ck_lat c))), (0, .int (zz_I (c)))] := hl
  refine lv_iload_n hx hb kd_A_firstOfPrototype_5 rfl (lv_at hl 0 rfl) ?_
  by_cases hs12 : ck_lat c = 12
  · refine zz_lookup (tgt := 104) hx hb kd_A_firstOfPrototype_6 (by decide) (by have := ck_lat_rg hc; omega) (zz_osh hs12) (by decide) ?_
    refine zz_bipush hx hb kd_A_firstOfPrototype_104 (by decide) ?_
    exact W.iret hx hb hr (zz_endp (by unfold ck_p1 ck_q1; (repeat' split) <;> omega)) (fun _ h => nomatch h) kd_A_firstOfPrototype_106
  by_cases hs55 : ck_lat c = 55
  · refine zz_lookup (tgt := 115) hx hb kd_A_firstOfPrototype_6 (by decide) (by have := ck_lat_rg hc; omega) ((zz_osw hs12).trans (zz_osh hs55)) (by decide) ?_
    refine zz_bipush hx hb kd_A_firstOfPrototype_115 (by decide) ?_
    exact W.iret hx hb hr (zz_endp (by unfold ck_p1 ck_q1; (repeat' split) <;> omega)) (fun _ h => nomatch h) kd_A_firstOfPrototype_117
  by_cases hs72 : ck_lat c = 72
  · refine zz_lookup (tgt := 107) hx hb kd_A_firstOfPrototype_6 (by decide) (by have := ck_lat_rg hc; omega) ((zz_osw hs12).trans ((zz_osw hs55).trans (zz_osh hs72))) (by decide) ?_
    refine lv_iload_n hx hb kd_A_firstOfPrototype_107 rfl (lv_at hl 0 rfl) ?_
    refine zz_bipush hx hb kd_A_firstOfPrototype_108 (by decide) ?_
    refine zz_isub hx hb (v := (ck_lat c) - 72) (rfl) kd_A_firstOfPrototype_110 ?_
    refine zz_bipush hx hb kd_A_firstOfPrototype_111 (by decide) ?_
    refine zz_iadd hx hb (v := ((ck_lat c) - 72) + 48) (rfl) kd_A_firstOfPrototype_113 ?_
    exact W.iret hx hb hr (zz_endp (by unfold ck_p1 ck_q1; (repeat' split) <;> omega)) (fun _ h => nomatch h) kd_A_firstOfPrototype_114
  by_cases hs73 : ck_lat c = 73
  · refine zz_lookup (tgt := 107) hx hb kd_A_firstOfPrototype_6 (by decide) (by have := ck_lat_rg hc; omega) ((zz_osw hs12).trans ((zz_osw hs55).trans ((zz_osw hs72).trans (zz_osh hs73)))) (by decide) ?_
    refine lv_iload_n hx hb kd_A_firstOfPrototype_107 rfl (lv_at hl 0 rfl) ?_
    refine zz_bipush hx hb kd_A_firstOfPrototype_108 (by decide) ?_
    refine zz_isub hx hb (v := (ck_lat c) - 72) (rfl) kd_A_firstOfPrototype_110 ?_
    refine zz_bipush hx hb kd_A_firstOfPrototype_111 (by decide) ?_
    refine zz_iadd hx hb (v := ((ck_lat c) - 72) + 48) (rfl) kd_A_firstOfPrototype_113 ?_
    exact W.iret hx hb hr (zz_endp (by unfold ck_p1 ck_q1; (repeat' split) <;> omega)) (fun _ h => nomatch h) kd_A_firstOfPrototype_114
  by_cases hs74 : ck_lat c = 74
  · refine zz_lookup (tgt := 107) hx hb kd_A_firstOfPrototype_6 (by decide) (by have := ck_lat_rg hc; omega) ((zz_osw hs12).trans ((zz_osw hs55).trans ((zz_osw hs72).trans ((zz_osw hs73).trans (zz_osh hs74))))) (by decide) ?_
    refine lv_iload_n hx hb kd_A_firstOfPrototype_107 rfl (lv_at hl 0 rfl) ?_
    refine zz_bipush hx hb kd_A_firstOfPrototype_108 (by decide) ?_
    refine zz_isub hx hb (v := (ck_lat c) - 72) (rfl) kd_A_firstOfPrototype_110 ?_
    refine zz_bipush hx hb kd_A_firstOfPrototype_111 (by decide) ?_
    refine zz_iadd hx hb (v := ((ck_lat c) - 72) + 48) (rfl) kd_A_firstOfPrototype_113 ?_
    exact W.iret hx hb hr (zz_endp (by unfold ck_p1 ck_q1; (repeat' split) <;> omega)) (fun _ h => nomatch h) kd_A_firstOfPrototype_114
  by_cases hs96 : ck_lat c = 96
  · refine zz_lookup (tgt := 118) hx hb kd_A_firstOfPrototype_6 (by decide) (by have := ck_lat_rg hc; omega) ((zz_osw hs12).trans ((zz_osw hs55).trans ((zz_osw hs72).trans ((zz_osw hs73).trans ((zz_osw hs74).trans (zz_osh hs96)))))) (by decide) ?_
    refine zz_bipush hx hb kd_A_firstOfPrototype_118 (by decide) ?_
    exact W.iret hx hb hr (zz_endp (by unfold ck_p1 ck_q1; (repeat' split) <;> omega)) (fun _ h => nomatch h) kd_A_firstOfPrototype_120
  by_cases hs97 : ck_lat c = 97
  · refine zz_lookup (tgt := 121) hx hb kd_A_firstOfPrototype_6 (by decide) (by have := ck_lat_rg hc; omega) ((zz_osw hs12).trans ((zz_osw hs55).trans ((zz_osw hs72).trans ((zz_osw hs73).trans ((zz_osw hs74).trans ((zz_osw hs96).trans (zz_osh hs97))))))) (by decide) ?_
    refine zz_bipush hx hb kd_A_firstOfPrototype_121 (by decide) ?_
    exact W.iret hx hb hr (zz_endp (by unfold ck_p1 ck_q1; (repeat' split) <;> omega)) (fun _ h => nomatch h) kd_A_firstOfPrototype_123
  by_cases hs100 : ck_lat c = 100
  · refine zz_lookup (tgt := 118) hx hb kd_A_firstOfPrototype_6 (by decide) (by have := ck_lat_rg hc; omega) ((zz_osw hs12).trans ((zz_osw hs55).trans ((zz_osw hs72).trans ((zz_osw hs73).trans ((zz_osw hs74).trans ((zz_osw hs96).trans ((zz_osw hs97).trans (zz_osh hs100)))))))) (by decide) ?_
    refine zz_bipush hx hb kd_A_firstOfPrototype_118 (by decide) ?_
    exact W.iret hx hb hr (zz_endp (by unfold ck_p1 ck_q1; (repeat' split) <;> omega)) (fun _ h => nomatch h) kd_A_firstOfPrototype_120
  by_cases hs101 : ck_lat c = 101
  · refine zz_lookup (tgt := 121) hx hb kd_A_firstOfPrototype_6 (by decide) (by have := ck_lat_rg hc; omega) ((zz_osw hs12).trans ((zz_osw hs55).trans ((zz_osw hs72).trans ((zz_osw hs73).trans ((zz_osw hs74).trans ((zz_osw hs96).trans ((zz_osw hs97).trans ((zz_osw hs100).trans (zz_osh hs101))))))))) (by decide) ?_
    refine zz_bipush hx hb kd_A_firstOfPrototype_121 (by decide) ?_
    exact W.iret hx hb hr (zz_endp (by unfold ck_p1 ck_q1; (repeat' split) <;> omega)) (fun _ h => nomatch h) kd_A_firstOfPrototype_123
  by_cases hs109 : ck_lat c = 109
  · refine zz_lookup (tgt := 124) hx hb kd_A_firstOfPrototype_6 (by decide) (by have := ck_lat_rg hc; omega) ((zz_osw hs12).trans ((zz_osw hs55).trans ((zz_osw hs72).trans ((zz_osw hs73).trans ((zz_osw hs74).trans ((zz_osw hs96).trans ((zz_osw hs97).trans ((zz_osw hs100).trans ((zz_osw hs101).trans (zz_osh hs109)))))))))) (by decide) ?_
    refine zz_bipush hx hb kd_A_firstOfPrototype_124 (by decide) ?_
    exact W.iret hx hb hr (zz_endp (by unfold ck_p1 ck_q1; (repeat' split) <;> omega)) (fun _ h => nomatch h) kd_A_firstOfPrototype_126
  by_cases hs118 : ck_lat c = 118
  · refine zz_lookup (tgt := 127) hx hb kd_A_firstOfPrototype_6 (by decide) (by have := ck_lat_rg hc; omega) ((zz_osw hs12).trans ((zz_osw hs55).trans ((zz_osw hs72).trans ((zz_osw hs73).trans ((zz_osw hs74).trans ((zz_osw hs96).trans ((zz_osw hs97).trans ((zz_osw hs100).trans ((zz_osw hs101).trans ((zz_osw hs109).trans (zz_osh hs118))))))))))) (by decide) ?_
    refine zz_bipush hx hb kd_A_firstOfPrototype_127 (by decide) ?_
    exact W.iret hx hb hr (zz_endp (by unfold ck_p1 ck_q1; (repeat' split) <;> omega)) (fun _ h => nomatch h) kd_A_firstOfPrototype_129
  refine zz_lookup (tgt := 130) hx hb kd_A_firstOfPrototype_6 (by decide) (by have := ck_lat_rg hc; omega) ((zz_osw hs12).trans ((zz_osw hs55).trans ((zz_osw hs72).trans ((zz_osw hs73).trans ((zz_osw hs74).trans ((zz_osw hs96).trans ((zz_osw hs97).trans ((zz_osw hs100).trans ((zz_osw hs101).trans ((zz_osw hs109).trans ((zz_osw hs118).trans (Op.lookupswitch.offset_nil _ _)))))))))))) (by decide) ?_
  refine lv_iload_n hx hb kd_A_firstOfPrototype_130 rfl (lv_at hl 0 rfl) ?_
  exact W.iret hx hb hr (zz_endp (by unfold ck_p1 ck_q1; (repeat' split) <;> omega)) (fun _ h => nomatch h) kd_A_firstOfPrototype_131
set_option maxHeartbeats 4000000 in
set_option maxRecDepth 100000 in
theorem kc_A_secondOfPrototype (l : Launch) (D : va_G) (cI cW : ClassId) (c : Int) (hc : 0 ≤ c ∧ c ≤ 127) {v : Int} (hv : ck_p2 c = v) : Met l ky_A_secondOfPrototype kv_A_secondOfPrototype ({ frames := 1, cells := 0, slots := 0, locals := 20 }) (va_Pc [.int (zz_I (c))] (zz_P D cI cW (fun _ => True))) (zz_Qp (.int (zz_I v))) 0 0 (fun _ => False) := by
  subst hv
  refine Met.ofW (cc := kb_A_secondOfPrototype) (maxL := 1) (ret := (some .int)) (by decide) rfl ?_
  intro pg ev sg mg ag bl mt cd s1 Bd hml hv
  obtain ⟨rfl, hP, hK⟩ := hv
  have hx := Bd.exec
  have hb := Bd.bytes
  have hr := Bd.returns
  have hlocks := Bd.notSynchronized
  have hts : ∀ w ∈ zz_tbl, w.before _ sg = true := fun w h => atoms_spec (ws := kv_A_secondOfPrototype) Bd.pre w (List.mem_cons_of_mem _ h)
  have hown : sg.vm.findClass kn_A = some mg.cls := findClass_of_methodNamed Bd.named
  have hl := lv_entry ([.int (zz_I (c))]) (n := 1) (Nat.le_of_ble_eq_true rfl)
  rw [lg_entry_eq]
  generalize (lg_sl ([.int (zz_I (c))]) ++ List.replicate (1 - (lg_sl ([.int (zz_I (c))])).length) Slot.unset).toArray = ls at hl ⊢
  have hl : lv_has ls 1 [(0, .int (zz_I (c)))] := hl
  refine lv_iload_n hx hb kd_A_secondOfPrototype_0 rfl (lv_at hl 0 rfl) ?_
  refine zz_pS ⟨hx, hb, hml, hown, hts⟩ hK (kc_A_latinFor l D cI cW c (by omega) rfl) (zz_gS kw_450 kw_451 kw_37 kw_452) ⟨rfl, rfl⟩ kh_A_latinFor ⟨Nat.le_of_ble_eq_true rfl, Nat.le_of_ble_eq_true rfl⟩  trivial rfl hl.1 rfl (Nat.le_of_ble_eq_true rfl) kd_A_secondOfPrototype_1 ⟨Nat.le_of_ble_eq_true rfl, Nat.le_of_ble_eq_true rfl⟩ ?_
  by_cases hs12 : ck_lat c = 12
  · refine zz_lookup (tgt := 40) hx hb kd_A_secondOfPrototype_4 (by decide) (by have := ck_lat_rg hc; omega) (zz_osh hs12) (by decide) ?_
    refine zz_bipush hx hb kd_A_secondOfPrototype_40 (by decide) ?_
    exact W.iret hx hb hr (zz_endp (by unfold ck_p2 ck_q2; (repeat' split) <;> omega)) (fun _ h => nomatch h) kd_A_secondOfPrototype_42
  by_cases hs55 : ck_lat c = 55
  · refine zz_lookup (tgt := 43) hx hb kd_A_secondOfPrototype_4 (by decide) (by have := ck_lat_rg hc; omega) ((zz_osw hs12).trans (zz_osh hs55)) (by decide) ?_
    refine zz_bipush hx hb kd_A_secondOfPrototype_43 (by decide) ?_
    exact W.iret hx hb hr (zz_endp (by unfold ck_p2 ck_q2; (repeat' split) <;> omega)) (fun _ h => nomatch h) kd_A_secondOfPrototype_45
  by_cases hs118 : ck_lat c = 118
  · refine zz_lookup (tgt := 46) hx hb kd_A_secondOfPrototype_4 (by decide) (by have := ck_lat_rg hc; omega) ((zz_osw hs12).trans ((zz_osw hs55).trans (zz_osh hs118))) (by decide) ?_
    refine zz_bipush hx hb kd_A_secondOfPrototype_46 (by decide) ?_
    exact W.iret hx hb hr (zz_endp (by unfold ck_p2 ck_q2; (repeat' split) <;> omega)) (fun _ h => nomatch h) kd_A_secondOfPrototype_48
  refine zz_lookup (tgt := 49) hx hb kd_A_secondOfPrototype_4 (by decide) (by have := ck_lat_rg hc; omega) ((zz_osw hs12).trans ((zz_osw hs55).trans ((zz_osw hs118).trans (Op.lookupswitch.offset_nil _ _)))) (by decide) ?_
  refine zz_iconst hx hb (v := -1) (rfl) kd_A_secondOfPrototype_49 ?_
  exact W.iret hx hb hr (zz_endp (by unfold ck_p2 ck_q2; (repeat' split) <;> omega)) (fun _ h => nomatch h) kd_A_secondOfPrototype_50
set_option maxHeartbeats 4000000 in
set_option maxRecDepth 100000 in
theorem kc_A_setOfLetter (l : Launch) (D : va_G) (cI cW : ClassId) (c : Int) (hc : 0 ≤ c ∧ c ≤ 127) (hs : (0 ≤ c ∧ c ≤ 95) ∨ (124 ≤ c ∧ c ≤ 127)) {v : Int} (hv : ((ck_set c : Nat) : Int) = v) : Met l ky_A_setOfLetter kv_A_setOfLetter ({ frames := 1, cells := 0, slots := 0, locals := 20 }) (va_Pc [.int (zz_I (c))] (zz_P D cI cW (fun _ => True))) (zz_Qp (.int (zz_I v))) 0 0 (fun _ => False) := by
  subst hv
  refine Met.ofW (cc := kb_A_setOfLetter) (maxL := 1) (ret := (some .int)) (by decide) rfl ?_
  intro pg ev sg mg ag bl mt cd s1 Bd hml hv
  obtain ⟨rfl, hP, hK⟩ := hv
  have hx := Bd.exec
  have hb := Bd.bytes
  have hr := Bd.returns
  have hlocks := Bd.notSynchronized
  have hts : ∀ w ∈ zz_tbl, w.before _ sg = true := fun w h => atoms_spec (ws := kv_A_setOfLetter) Bd.pre w (List.mem_cons_of_mem _ h)
  have hown : sg.vm.findClass kn_A = some mg.cls := findClass_of_methodNamed Bd.named
  have hl := lv_entry ([.int (zz_I (c))]) (n := 1) (Nat.le_of_ble_eq_true rfl)
  rw [lg_entry_eq]
  generalize (lg_sl ([.int (zz_I (c))]) ++ List.replicate (1 - (lg_sl ([.int (zz_I (c))])).length) Slot.unset).toArray = ls at hl ⊢
  have hl : lv_has ls 1 [(0, .int (zz_I (c)))] := hl
  refine lv_iload_n hx hb kd_A_setOfLetter_0 rfl (lv_at hl 0 rfl) ?_
  refine zz_bipush hx hb kd_A_setOfLetter_1 (by decide) ?_
  refine zz_icmp_le (tgt := 13) hx hb kd_A_setOfLetter_3 (by decide) (by omega) (fun hbr3 => ?_) (fun hbr3 => ?_)
  · refine zz_iconst hx hb (v := 1) (rfl) kd_A_setOfLetter_13 ?_
    exact W.iret hx hb hr (zz_endp (by unfold ck_set; (repeat' split) <;> omega)) (fun _ h => nomatch h) kd_A_setOfLetter_14
  · refine lv_iload_n hx hb kd_A_setOfLetter_6 rfl (lv_at hl 0 rfl) ?_
    refine zz_pS ⟨hx, hb, hml, hown, hts⟩ hK (kc_A_isComposed l D cI cW c (by omega) rfl) (zz_gS kw_189 kw_190 kw_37 kw_191) ⟨rfl, rfl⟩ kh_A_isComposed ⟨Nat.le_of_ble_eq_true rfl, Nat.le_of_ble_eq_true rfl⟩  trivial rfl hl.1 rfl (Nat.le_of_ble_eq_true rfl) kd_A_setOfLetter_7 ⟨Nat.le_of_ble_eq_true rfl, Nat.le_of_ble_eq_true rfl⟩ ?_
    refine zz_ifb_eq (tgt := 15) hx hb kd_A_setOfLetter_10 (by decide) (fun hbr10 => ?_) (fun hbr10 => ?_)
    · have hbr10 := of_decide_eq_false hbr10
      refine lv_iload_n hx hb kd_A_setOfLetter_15 rfl (lv_at hl 0 rfl) ?_
      refine zz_bipush hx hb kd_A_setOfLetter_16 (by decide) ?_
      refine zz_icmp_gt (tgt := 23) hx hb kd_A_setOfLetter_18 (by decide) (by omega) (fun hbr18 => ?_) (fun hbr18 => ?_)
      · refine lv_iload_n hx hb kd_A_setOfLetter_23 rfl (lv_at hl 0 rfl) ?_
        refine zz_bipush hx hb kd_A_setOfLetter_24 (by decide) ?_
        refine zz_icmp_gt (tgt := 31) hx hb kd_A_setOfLetter_26 (by decide) (by omega) (fun hbr26 => ?_) (fun hbr26 => ?_)
        · refine lv_iload_n hx hb kd_A_setOfLetter_31 rfl (lv_at hl 0 rfl) ?_
          refine zz_bipush hx hb kd_A_setOfLetter_32 (by decide) ?_
          refine zz_icmp_gt (tgt := 41) hx hb kd_A_setOfLetter_34 (by decide) (by omega) (fun hbr34 => ?_) (fun hbr34 => ?_)
          · refine lv_iload_n hx hb kd_A_setOfLetter_41 rfl (lv_at hl 0 rfl) ?_
            refine zz_bipush hx hb kd_A_setOfLetter_42 (by decide) ?_
            refine zz_icmp_gt (tgt := 51) hx hb kd_A_setOfLetter_44 (by decide) (by omega) (fun hbr44 => ?_) (fun hbr44 => ?_)
            · refine lv_iload_n hx hb kd_A_setOfLetter_51 rfl (lv_at hl 0 rfl) ?_
              refine zz_bipush hx hb kd_A_setOfLetter_52 (by decide) ?_
              refine zz_icmp_gt (tgt := 61) hx hb kd_A_setOfLetter_54 (by decide) (by omega) (fun hbr54 => ?_) (fun hbr54 => ?_)
              · refine lv_iload_n hx hb kd_A_setOfLetter_61 rfl (lv_at hl 0 rfl) ?_
                refine zz_bipush hx hb kd_A_setOfLetter_62 (by decide) ?_
                refine zz_icmp_gt (tgt := 71) hx hb kd_A_setOfLetter_64 (by decide) (by omega) (fun hbr64 => ?_) (fun hbr64 => ?_)
                · refine zz_sipush hx hb kd_A_setOfLetter_71 (by decide) ?_
                  exact W.iret hx hb hr (zz_endp (by unfold ck_set; (repeat' split) <;> omega)) (fun _ h => nomatch h) kd_A_setOfLetter_74
                · refine zz_sipush hx hb kd_A_setOfLetter_67 (by decide) ?_
                  exact W.iret hx hb hr (zz_endp (by unfold ck_set; (repeat' split) <;> omega)) (fun _ h => nomatch h) kd_A_setOfLetter_70
              · refine zz_sipush hx hb kd_A_setOfLetter_57 (by decide) ?_
                exact W.iret hx hb hr (zz_endp (by unfold ck_set; (repeat' split) <;> omega)) (fun _ h => nomatch h) kd_A_setOfLetter_60
            · refine zz_sipush hx hb kd_A_setOfLetter_47 (by decide) ?_
              exact W.iret hx hb hr (zz_endp (by unfold ck_set; (repeat' split) <;> omega)) (fun _ h => nomatch h) kd_A_setOfLetter_50
          · refine zz_sipush hx hb kd_A_setOfLetter_37 (by decide) ?_
            exact W.iret hx hb hr (zz_endp (by unfold ck_set; (repeat' split) <;> omega)) (fun _ h => nomatch h) kd_A_setOfLetter_40
        · refine zz_iconst hx hb (v := 4) (rfl) kd_A_setOfLetter_29 ?_
          exact W.iret hx hb hr (zz_endp (by unfold ck_set; (repeat' split) <;> omega)) (fun _ h => nomatch h) kd_A_setOfLetter_30
      · refine zz_iconst hx hb (v := 2) (rfl) kd_A_setOfLetter_21 ?_
        exact W.iret hx hb hr (zz_endp (by unfold ck_set; (repeat' split) <;> omega)) (fun _ h => nomatch h) kd_A_setOfLetter_22
    · have hbr10 := of_decide_eq_true hbr10
      refine zz_iconst hx hb (v := 1) (rfl) kd_A_setOfLetter_13 ?_
      exact W.iret hx hb hr (zz_endp (by unfold ck_set; (repeat' split) <;> omega)) (fun _ h => nomatch h) kd_A_setOfLetter_14
set_option maxHeartbeats 4000000 in
set_option maxRecDepth 100000 in
theorem kc_A_setOf (l : Launch) (D : va_G) (cI cW : ClassId) (c : Int) (hc : 0 ≤ c ∧ c ≤ 127) {v : Int} (hv : ((ck_set c : Nat) : Int) = v) : Met l ky_A_setOf kv_A_setOf ({ frames := 2, cells := 0, slots := 0, locals := 40 }) (va_Pc [.int (zz_I (c))] (zz_P D cI cW (fun _ => True))) (zz_Qp (.int (zz_I v))) 0 0 (fun _ => False) := by
  subst hv
  refine Met.ofW (cc := kb_A_setOf) (maxL := 1) (ret := (some .int)) (by decide) rfl ?_
  intro pg ev sg mg ag bl mt cd s1 Bd hml hv
  obtain ⟨rfl, hP, hK⟩ := hv
  have hx := Bd.exec
  have hb := Bd.bytes
  have hr := Bd.returns
  have hlocks := Bd.notSynchronized
  have hts : ∀ w ∈ zz_tbl, w.before _ sg = true := fun w h => atoms_spec (ws := kv_A_setOf) Bd.pre w (List.mem_cons_of_mem _ h)
  have hown : sg.vm.findClass kn_A = some mg.cls := findClass_of_methodNamed Bd.named
  have hl := lv_entry ([.int (zz_I (c))]) (n := 1) (Nat.le_of_ble_eq_true rfl)
  rw [lg_entry_eq]
  generalize (lg_sl ([.int (zz_I (c))]) ++ List.replicate (1 - (lg_sl ([.int (zz_I (c))])).length) Slot.unset).toArray = ls at hl ⊢
  have hl : lv_has ls 1 [(0, .int (zz_I (c)))] := hl
  refine lv_iload_n hx hb kd_A_setOf_0 rfl (lv_at hl 0 rfl) ?_
  refine zz_pS ⟨hx, hb, hml, hown, hts⟩ hK (kc_A_isEasternDigit l D cI cW c (by omega) rfl) (zz_gS kw_183 kw_184 kw_37 kw_185) ⟨rfl, rfl⟩ kh_A_isEasternDigit ⟨Nat.le_of_ble_eq_true rfl, Nat.le_of_ble_eq_true rfl⟩  trivial rfl hl.1 rfl (Nat.le_of_ble_eq_true rfl) kd_A_setOf_1 ⟨Nat.le_of_ble_eq_true rfl, Nat.le_of_ble_eq_true rfl⟩ ?_
  refine zz_ifb_eq (tgt := 11) hx hb kd_A_setOf_4 (by decide) (fun hbr4 => ?_) (fun hbr4 => ?_)
  · have hbr4 := of_decide_eq_false hbr4
    refine lv_iload_n hx hb kd_A_setOf_11 rfl (lv_at hl 0 rfl) ?_
    refine zz_pS ⟨hx, hb, hml, hown, hts⟩ hK (kc_A_isLetter l D cI cW c (by omega) rfl) (zz_gS kw_186 kw_187 kw_37 kw_188) ⟨rfl, rfl⟩ kh_A_isLetter ⟨Nat.le_of_ble_eq_true rfl, Nat.le_of_ble_eq_true rfl⟩  trivial rfl hl.1 rfl (Nat.le_of_ble_eq_true rfl) kd_A_setOf_12 ⟨Nat.le_of_ble_eq_true rfl, Nat.le_of_ble_eq_true rfl⟩ ?_
    refine zz_ifb_eq (tgt := 25) hx hb kd_A_setOf_15 (by decide) (fun hbr15 => ?_) (fun hbr15 => ?_)
    · have hbr15 := of_decide_eq_false hbr15
      refine zz_sipush hx hb kd_A_setOf_25 (by decide) ?_
      exact W.iret hx hb hr (zz_endp (by first | rfl | (unfold ck_set; (repeat' split) <;> omega))) (fun _ h => nomatch h) kd_A_setOf_28
    · have hbr15 := of_decide_eq_true hbr15
      refine lv_iload_n hx hb kd_A_setOf_18 rfl (lv_at hl 0 rfl) ?_
      refine zz_pS ⟨hx, hb, hml, hown, hts⟩ hK (kc_A_setOfLetter l D cI cW c (by omega) (by omega) rfl) (zz_gS kw_192 kw_193 kw_37 kw_194) ⟨rfl, rfl⟩ kh_A_setOfLetter ⟨Nat.le_of_ble_eq_true rfl, Nat.le_of_ble_eq_true rfl⟩  trivial rfl hl.1 rfl (Nat.le_of_ble_eq_true rfl) kd_A_setOf_19 ⟨Nat.le_of_ble_eq_true rfl, Nat.le_of_ble_eq_true rfl⟩ ?_
      refine lv_goto (tgt := 28) hx hb kd_A_setOf_22 (by decide) ?_
      exact W.iret hx hb hr (zz_endp (by first | rfl | (unfold ck_set; (repeat' split) <;> omega))) (fun _ h => nomatch h) kd_A_setOf_28
  · have hbr4 := of_decide_eq_true hbr4
    refine zz_sipush hx hb kd_A_setOf_7 (by decide) ?_
    exact W.iret hx hb hr (zz_endp (by first | rfl | (unfold ck_set; (repeat' split) <;> omega))) (fun _ h => nomatch h) kd_A_setOf_10
