set_option maxHeartbeats 4000000 in
set_option maxRecDepth 100000 in
theorem kc_M_in (l : Launch) (D : va_G) (cI cW : ClassId) (c : Int) (lo : Int) (hi : Int) (hc : -2147483648 ≤ c ∧ c ≤ 2147483647) (hlo : -2147483648 ≤ lo ∧ lo ≤ 2147483647) (hhi : -2147483648 ≤ hi ∧ hi ≤ 2147483647) {v : Int} (hv : zz_b (decide (lo ≤ c ∧ c ≤ hi)) = v) : Met l ky_M_in kv_M_in ({ frames := 0, cells := 0, slots := 0, locals := 0 }) (va_Pc [.int (zz_I (c)), .int (zz_I (lo)), .int (zz_I (hi))] (zz_P D cI cW (fun _ => True))) (zz_Qp (.int (zz_I v))) 0 0 (fun _ => False) := by
  subst hv
  refine Met.ofW (cc := kb_M_in) (maxL := 3) (ret := (some .boolean)) (by decide) rfl ?_
  intro pg ev sg mg ag bl mt cd s1 Bd hml hv
  obtain ⟨rfl, hP, hK⟩ := hv
  have hx := Bd.exec
  have hb := Bd.bytes
  have hr := Bd.returns
  have hlocks := Bd.notSynchronized
  have hts : ∀ w ∈ zz_tbl, w.before _ sg = true := fun w h => atoms_spec (ws := kv_M_in) Bd.pre w (List.mem_cons_of_mem _ h)
  have hown : sg.vm.findClass kn_M = some mg.cls := findClass_of_methodNamed Bd.named
  have hl := lv_entry ([.int (zz_I (c)), .int (zz_I (lo)), .int (zz_I (hi))]) (n := 3) (Nat.le_of_ble_eq_true rfl)
  rw [lg_entry_eq]
  generalize (lg_sl ([.int (zz_I (c)), .int (zz_I (lo)), .int (zz_I (hi))]) ++ List.replicate (3 - (lg_sl ([.int (zz_I (c)), .int (zz_I (lo)), .int (zz_I (hi))])).length) Slot.unset).toArray = ls at hl ⊢
  have hl : lv_has ls 3 [(0, .int (zz_I (c))), (1, .int (zz_I (lo))), (2, .int (zz_I (hi)))] := hl
  refine lv_iload_n hx hb kd_M_in_0 rfl (lv_at hl 0 rfl) ?_
  refine lv_iload_n hx hb kd_M_in_1 rfl (lv_at hl 1 rfl) ?_
  refine zz_icmp_lt (tgt := 14) hx hb kd_M_in_2 (by decide) (by omega) (fun hbr2 => ?_) (fun hbr2 => ?_)
  · refine zz_iconst hx hb (v := 0) (rfl) kd_M_in_14 ?_
    exact W.zret (ty := .boolean) hx hb hr (by decide) (zz_endp (zz_f (decide_eq_false (by omega)))) (fun _ h => nomatch h) kd_M_in_15
  · refine lv_iload_n hx hb kd_M_in_5 rfl (lv_at hl 0 rfl) ?_
    refine lv_iload_n hx hb kd_M_in_6 rfl (lv_at hl 2 rfl) ?_
    refine zz_icmp_gt (tgt := 14) hx hb kd_M_in_7 (by decide) (by omega) (fun hbr7 => ?_) (fun hbr7 => ?_)
    · refine zz_iconst hx hb (v := 0) (rfl) kd_M_in_14 ?_
      exact W.zret (ty := .boolean) hx hb hr (by decide) (zz_endp (zz_f (decide_eq_false (by omega)))) (fun _ h => nomatch h) kd_M_in_15
    · refine zz_iconst hx hb (v := 1) (rfl) kd_M_in_10 ?_
      refine lv_goto (tgt := 15) hx hb kd_M_in_11 (by decide) ?_
      exact W.zret (ty := .boolean) hx hb hr (by decide) (zz_endp (zz_t (decide_eq_true (by omega)))) (fun _ h => nomatch h) kd_M_in_15
set_option maxHeartbeats 4000000 in
set_option maxRecDepth 100000 in
theorem kc_M_isLetter (l : Launch) (D : va_G) (cI cW : ClassId) (c : Int) (hc : -2147483648 ≤ c ∧ c ≤ 2147483647) {v : Int} (hv : zz_b (ck_letter c) = v) : Met l ky_M_isLetter kv_M_isLetter ({ frames := 1, cells := 0, slots := 0, locals := 22 }) (va_Pc [.int (zz_I (c))] (zz_P D cI cW (fun _ => True))) (zz_Qp (.int (zz_I v))) 0 0 (fun _ => False) := by
  subst hv
  refine Met.ofW (cc := kb_M_isLetter) (maxL := 1) (ret := (some .boolean)) (by decide) rfl ?_
  intro pg ev sg mg ag bl mt cd s1 Bd hml hv
  obtain ⟨rfl, hP, hK⟩ := hv
  have hx := Bd.exec
  have hb := Bd.bytes
  have hr := Bd.returns
  have hlocks := Bd.notSynchronized
  have hts : ∀ w ∈ zz_tbl, w.before _ sg = true := fun w h => atoms_spec (ws := kv_M_isLetter) Bd.pre w (List.mem_cons_of_mem _ h)
  have hown : sg.vm.findClass kn_M = some mg.cls := findClass_of_methodNamed Bd.named
  have hl := lv_entry ([.int (zz_I (c))]) (n := 1) (Nat.le_of_ble_eq_true rfl)
  rw [lg_entry_eq]
  generalize (lg_sl ([.int (zz_I (c))]) ++ List.replicate (1 - (lg_sl ([.int (zz_I (c))])).length) Slot.unset).toArray = ls at hl ⊢
  have hl : lv_has ls 1 [(0, .int (zz_I (c)))] := hl
  refine lv_iload_n hx hb kd_M_isLetter_0 rfl (lv_at hl 0 rfl) ?_
  refine zz_iconst hx hb (v := 0) (rfl) kd_M_isLetter_1 ?_
  refine zz_bipush hx hb kd_M_isLetter_2 (by decide) ?_
  refine zz_pS ⟨hx, hb, hml, hown, hts⟩ hK (kc_M_in l D cI cW c 0 95 (by omega) (by omega) (by omega) rfl) (zz_gS kw_667 kw_668 kw_31 kw_669) ⟨rfl, rfl⟩ kh_M_in ⟨Nat.le_of_ble_eq_true rfl, Nat.le_of_ble_eq_true rfl⟩  trivial rfl hl.1 rfl (Nat.le_of_ble_eq_true rfl) kd_M_isLetter_4 ⟨Nat.le_of_ble_eq_true rfl, Nat.le_of_ble_eq_true rfl⟩ ?_
  refine zz_ifb_ne (tgt := 21) hx hb kd_M_isLetter_7 (by decide) (fun hbr7 => ?_) (fun hbr7 => ?_)
  · have hbr7 := of_decide_eq_true hbr7
    refine zz_iconst hx hb (v := 1) (rfl) kd_M_isLetter_21 ?_
    refine lv_goto (tgt := 26) hx hb kd_M_isLetter_22 (by decide) ?_
    exact W.zret (ty := .boolean) hx hb hr (by decide) (zz_endp (zz_t (decide_eq_true (by omega)))) (fun _ h => nomatch h) kd_M_isLetter_26
  · have hbr7 := of_decide_eq_false hbr7
    refine lv_iload_n hx hb kd_M_isLetter_10 rfl (lv_at hl 0 rfl) ?_
    refine zz_bipush hx hb kd_M_isLetter_11 (by decide) ?_
    refine zz_bipush hx hb kd_M_isLetter_13 (by decide) ?_
    refine zz_pS ⟨hx, hb, hml, hown, hts⟩ hK (kc_M_in l D cI cW c 124 127 (by omega) (by omega) (by omega) rfl) (zz_gS kw_667 kw_668 kw_31 kw_669) ⟨rfl, rfl⟩ kh_M_in ⟨Nat.le_of_ble_eq_true rfl, Nat.le_of_ble_eq_true rfl⟩  trivial rfl hl.1 rfl (Nat.le_of_ble_eq_true rfl) kd_M_isLetter_15 ⟨Nat.le_of_ble_eq_true rfl, Nat.le_of_ble_eq_true rfl⟩ ?_
    refine zz_ifb_eq (tgt := 25) hx hb kd_M_isLetter_18 (by decide) (fun hbr18 => ?_) (fun hbr18 => ?_)
    · have hbr18 := of_decide_eq_false hbr18
      refine zz_iconst hx hb (v := 0) (rfl) kd_M_isLetter_25 ?_
      exact W.zret (ty := .boolean) hx hb hr (by decide) (zz_endp (zz_f (decide_eq_false (by omega)))) (fun _ h => nomatch h) kd_M_isLetter_26
    · have hbr18 := of_decide_eq_true hbr18
      refine zz_iconst hx hb (v := 1) (rfl) kd_M_isLetter_21 ?_
      refine lv_goto (tgt := 26) hx hb kd_M_isLetter_22 (by decide) ?_
      exact W.zret (ty := .boolean) hx hb hr (by decide) (zz_endp (zz_t (decide_eq_true (by omega)))) (fun _ h => nomatch h) kd_M_isLetter_26
set_option maxHeartbeats 4000000 in
set_option maxRecDepth 100000 in
theorem kc_M_isMark (l : Launch) (D : va_G) (cI cW : ClassId) (c : Int) (hc : -2147483648 ≤ c ∧ c ≤ 2147483647) {v : Int} (hv : zz_b (ck_mark c) = v) : Met l ky_M_isMark kv_M_isMark ({ frames := 1, cells := 0, slots := 0, locals := 22 }) (va_Pc [.int (zz_I (c))] (zz_P D cI cW (fun _ => True))) (zz_Qp (.int (zz_I v))) 0 0 (fun _ => False) := by
  subst hv
  refine Met.ofW (cc := kb_M_isMark) (maxL := 1) (ret := (some .boolean)) (by decide) rfl ?_
  intro pg ev sg mg ag bl mt cd s1 Bd hml hv
  obtain ⟨rfl, hP, hK⟩ := hv
  have hx := Bd.exec
  have hb := Bd.bytes
  have hr := Bd.returns
  have hlocks := Bd.notSynchronized
  have hts : ∀ w ∈ zz_tbl, w.before _ sg = true := fun w h => atoms_spec (ws := kv_M_isMark) Bd.pre w (List.mem_cons_of_mem _ h)
  have hown : sg.vm.findClass kn_M = some mg.cls := findClass_of_methodNamed Bd.named
  have hl := lv_entry ([.int (zz_I (c))]) (n := 1) (Nat.le_of_ble_eq_true rfl)
  rw [lg_entry_eq]
  generalize (lg_sl ([.int (zz_I (c))]) ++ List.replicate (1 - (lg_sl ([.int (zz_I (c))])).length) Slot.unset).toArray = ls at hl ⊢
  have hl : lv_has ls 1 [(0, .int (zz_I (c)))] := hl
  refine lv_iload_n hx hb kd_M_isMark_0 rfl (lv_at hl 0 rfl) ?_
  refine zz_bipush hx hb kd_M_isMark_1 (by decide) ?_
  refine zz_bipush hx hb kd_M_isMark_3 (by decide) ?_
  refine zz_pS ⟨hx, hb, hml, hown, hts⟩ hK (kc_M_in l D cI cW c 104 111 (by omega) (by omega) (by omega) rfl) (zz_gS kw_667 kw_668 kw_31 kw_669) ⟨rfl, rfl⟩ kh_M_in ⟨Nat.le_of_ble_eq_true rfl, Nat.le_of_ble_eq_true rfl⟩  trivial rfl hl.1 rfl (Nat.le_of_ble_eq_true rfl) kd_M_isMark_5 ⟨Nat.le_of_ble_eq_true rfl, Nat.le_of_ble_eq_true rfl⟩ ?_
  exact W.zret (ty := .boolean) hx hb hr (zz_nb _) (zz_endp (by rfl)) (fun _ h => nomatch h) kd_M_isMark_8
set_option maxHeartbeats 4000000 in
set_option maxRecDepth 100000 in
theorem kc_M_classOf (l : Launch) (D : va_G) (cI cW : ClassId) (c : Int) (hc : -2147483648 ≤ c ∧ c ≤ 2147483647) {v : Int} (hv : ck_mc c = v) : Met l ky_M_classOf kv_M_classOf ({ frames := 0, cells := 0, slots := 0, locals := 0 }) (va_Pc [.int (zz_I (c))] (zz_P D cI cW (fun _ => True))) (zz_Qp (.int (zz_I v))) 0 0 (fun _ => False) := by
  subst hv
  refine Met.ofW (cc := kb_M_classOf) (maxL := 1) (ret := (some .int)) (by decide) rfl ?_
  intro pg ev sg mg ag bl mt cd s1 Bd hml hv
  obtain ⟨rfl, hP, hK⟩ := hv
  have hx := Bd.exec
  have hb := Bd.bytes
  have hr := Bd.returns
  have hlocks := Bd.notSynchronized
  have hts : ∀ w ∈ zz_tbl, w.before _ sg = true := fun w h => atoms_spec (ws := kv_M_classOf) Bd.pre w (List.mem_cons_of_mem _ h)
  have hown : sg.vm.findClass kn_M = some mg.cls := findClass_of_methodNamed Bd.named
  have hl := lv_entry ([.int (zz_I (c))]) (n := 1) (Nat.le_of_ble_eq_true rfl)
  rw [lg_entry_eq]
  generalize (lg_sl ([.int (zz_I (c))]) ++ List.replicate (1 - (lg_sl ([.int (zz_I (c))])).length) Slot.unset).toArray = ls at hl ⊢
  have hl : lv_has ls 1 [(0, .int (zz_I (c)))] := hl
  refine lv_iload_n hx hb kd_M_classOf_0 rfl (lv_at hl 0 rfl) ?_
  refine zz_bipush hx hb kd_M_classOf_1 (by decide) ?_
  refine zz_icmp_ge (tgt := 10) hx hb kd_M_classOf_3 (by decide) (by omega) (fun hbr3 => ?_) (fun hbr3 => ?_)
  · refine lv_iload_n hx hb kd_M_classOf_10 rfl (lv_at hl 0 rfl) ?_
    refine zz_bipush hx hb kd_M_classOf_11 (by decide) ?_
    refine zz_icmp_ge (tgt := 20) hx hb kd_M_classOf_13 (by decide) (by omega) (fun hbr13 => ?_) (fun hbr13 => ?_)
    · refine zz_iconst hx hb (v := 3) (rfl) kd_M_classOf_20 ?_
      exact W.iret hx hb hr (zz_endp (by unfold ck_mc; (repeat' split) <;> omega)) (fun _ h => nomatch h) kd_M_classOf_21
    · refine zz_iconst hx hb (v := 2) (rfl) kd_M_classOf_16 ?_
      refine lv_goto (tgt := 21) hx hb kd_M_classOf_17 (by decide) ?_
      exact W.iret hx hb hr (zz_endp (by unfold ck_mc; (repeat' split) <;> omega)) (fun _ h => nomatch h) kd_M_classOf_21
  · refine zz_iconst hx hb (v := 1) (rfl) kd_M_classOf_6 ?_
    refine lv_goto (tgt := 21) hx hb kd_M_classOf_7 (by decide) ?_
    exact W.iret hx hb hr (zz_endp (by unfold ck_mc; (repeat' split) <;> omega)) (fun _ h => nomatch h) kd_M_classOf_21
set_option maxHeartbeats 4000000 in
set_option maxRecDepth 100000 in
theorem kc_M_setOf (l : Launch) (D : va_G) (cI cW : ClassId) (c : Int) (hc : 0 ≤ c ∧ c ≤ 127) {v : Int} (hv : ((ck_set c : Nat) : Int) = v) : Met l ky_M_setOf kv_M_setOf ({ frames := 1, cells := 0, slots := 0, locals := 22 }) (va_Pc [.int (zz_I (c))] (zz_P D cI cW (fun _ => True))) (zz_Qp (.int (zz_I v))) 0 0 (fun _ => False) := by
  subst hv
  refine Met.ofW (cc := kb_M_setOf) (maxL := 1) (ret := (some .int)) (by decide) rfl ?_
  intro pg ev sg mg ag bl mt cd s1 Bd hml hv
  obtain ⟨rfl, hP, hK⟩ := hv
  have hx := Bd.exec
  have hb := Bd.bytes
  have hr := Bd.returns
  have hlocks := Bd.notSynchronized
  have hts : ∀ w ∈ zz_tbl, w.before _ sg = true := fun w h => atoms_spec (ws := kv_M_setOf) Bd.pre w (List.mem_cons_of_mem _ h)
  have hown : sg.vm.findClass kn_M = some mg.cls := findClass_of_methodNamed Bd.named
  have hl := lv_entry ([.int (zz_I (c))]) (n := 1) (Nat.le_of_ble_eq_true rfl)
  rw [lg_entry_eq]
  generalize (lg_sl ([.int (zz_I (c))]) ++ List.replicate (1 - (lg_sl ([.int (zz_I (c))])).length) Slot.unset).toArray = ls at hl ⊢
  have hl : lv_has ls 1 [(0, .int (zz_I (c)))] := hl
  refine lv_iload_n hx hb kd_M_setOf_0 rfl (lv_at hl 0 rfl) ?_
  refine zz_bipush hx hb kd_M_setOf_1 (by decide) ?_
  refine zz_icmp_lt (tgt := 12) hx hb kd_M_setOf_3 (by decide) (by omega) (fun hbr3 => ?_) (fun hbr3 => ?_)
  · refine zz_iconst hx hb (v := 1) (rfl) kd_M_setOf_12 ?_
    exact W.iret hx hb hr (zz_endp (by unfold ck_set; (repeat' split) <;> omega)) (fun _ h => nomatch h) kd_M_setOf_13
  · refine lv_iload_n hx hb kd_M_setOf_6 rfl (lv_at hl 0 rfl) ?_
    refine zz_bipush hx hb kd_M_setOf_7 (by decide) ?_
    refine zz_icmp_le (tgt := 14) hx hb kd_M_setOf_9 (by decide) (by omega) (fun hbr9 => ?_) (fun hbr9 => ?_)
    · refine lv_iload_n hx hb kd_M_setOf_14 rfl (lv_at hl 0 rfl) ?_
      refine zz_bipush hx hb kd_M_setOf_15 (by decide) ?_
      refine zz_icmp_ge (tgt := 32) hx hb kd_M_setOf_17 (by decide) (by omega) (fun hbr17 => ?_) (fun hbr17 => ?_)
      · refine lv_iload_n hx hb kd_M_setOf_32 rfl (lv_at hl 0 rfl) ?_
        refine zz_bipush hx hb kd_M_setOf_33 (by decide) ?_
        refine zz_icmp_ge (tgt := 42) hx hb kd_M_setOf_35 (by decide) (by omega) (fun hbr35 => ?_) (fun hbr35 => ?_)
        · refine lv_iload_n hx hb kd_M_setOf_42 rfl (lv_at hl 0 rfl) ?_
          refine zz_bipush hx hb kd_M_setOf_43 (by decide) ?_
          refine zz_icmp_ge (tgt := 66) hx hb kd_M_setOf_45 (by decide) (by omega) (fun hbr45 => ?_) (fun hbr45 => ?_)
          · refine lv_iload_n hx hb kd_M_setOf_66 rfl (lv_at hl 0 rfl) ?_
            refine zz_bipush hx hb kd_M_setOf_67 (by decide) ?_
            refine zz_icmp_ge (tgt := 88) hx hb kd_M_setOf_69 (by decide) (by omega) (fun hbr69 => ?_) (fun hbr69 => ?_)
            · refine lv_iload_n hx hb kd_M_setOf_88 rfl (lv_at hl 0 rfl) ?_
              refine zz_bipush hx hb kd_M_setOf_89 (by decide) ?_
              refine zz_bipush hx hb kd_M_setOf_91 (by decide) ?_
              refine zz_pS ⟨hx, hb, hml, hown, hts⟩ hK (kc_M_in l D cI cW c 100 103 (by omega) (by omega) (by omega) rfl) (zz_gS kw_667 kw_668 kw_31 kw_669) ⟨rfl, rfl⟩ kh_M_in ⟨Nat.le_of_ble_eq_true rfl, Nat.le_of_ble_eq_true rfl⟩  trivial rfl hl.1 rfl (Nat.le_of_ble_eq_true rfl) kd_M_setOf_93 ⟨Nat.le_of_ble_eq_true rfl, Nat.le_of_ble_eq_true rfl⟩ ?_
              refine zz_ifb_eq (tgt := 105) hx hb kd_M_setOf_96 (by decide) (fun hbr96 => ?_) (fun hbr96 => ?_)
              · have hbr96 := of_decide_eq_false hbr96
                refine zz_sipush hx hb kd_M_setOf_105 (by decide) ?_
                exact W.iret hx hb hr (zz_endp (by unfold ck_set; (repeat' split) <;> omega)) (fun _ h => nomatch h) kd_M_setOf_108
              · have hbr96 := of_decide_eq_true hbr96
                refine zz_sipush hx hb kd_M_setOf_99 (by decide) ?_
                refine lv_goto (tgt := 108) hx hb kd_M_setOf_102 (by decide) ?_
                exact W.iret hx hb hr (zz_endp (by unfold ck_set; (repeat' split) <;> omega)) (fun _ h => nomatch h) kd_M_setOf_108
            · refine lv_iload_n hx hb kd_M_setOf_72 rfl (lv_at hl 0 rfl) ?_
              refine zz_bipush hx hb kd_M_setOf_73 (by decide) ?_
              refine zz_icmp_ge (tgt := 84) hx hb kd_M_setOf_75 (by decide) (by omega) (fun hbr75 => ?_) (fun hbr75 => ?_)
              · refine zz_sipush hx hb kd_M_setOf_84 (by decide) ?_
                exact W.iret hx hb hr (zz_endp (by unfold ck_set; (repeat' split) <;> omega)) (fun _ h => nomatch h) kd_M_setOf_87
              · refine zz_sipush hx hb kd_M_setOf_78 (by decide) ?_
                refine lv_goto (tgt := 87) hx hb kd_M_setOf_81 (by decide) ?_
                exact W.iret hx hb hr (zz_endp (by unfold ck_set; (repeat' split) <;> omega)) (fun _ h => nomatch h) kd_M_setOf_87
          · refine lv_iload_n hx hb kd_M_setOf_48 rfl (lv_at hl 0 rfl) ?_
            refine zz_bipush hx hb kd_M_setOf_49 (by decide) ?_
            refine zz_icmp_ge (tgt := 59) hx hb kd_M_setOf_51 (by decide) (by omega) (fun hbr51 => ?_) (fun hbr51 => ?_)
            · refine zz_bipush hx hb kd_M_setOf_59 (by decide) ?_
              refine zz_sipush hx hb kd_M_setOf_61 (by decide) ?_
              refine zz_iadd hx hb (v := 32 + 1024) (rfl) kd_M_setOf_64 ?_
              exact W.iret hx hb hr (zz_endp (by unfold ck_set; (repeat' split) <;> omega)) (fun _ h => nomatch h) kd_M_setOf_65
            · refine zz_bipush hx hb kd_M_setOf_54 (by decide) ?_
              refine lv_goto (tgt := 61) hx hb kd_M_setOf_56 (by decide) ?_
              refine zz_sipush hx hb kd_M_setOf_61 (by decide) ?_
              refine zz_iadd hx hb (v := 16 + 1024) (rfl) kd_M_setOf_64 ?_
              exact W.iret hx hb hr (zz_endp (by unfold ck_set; (repeat' split) <;> omega)) (fun _ h => nomatch h) kd_M_setOf_65
        · refine zz_sipush hx hb kd_M_setOf_38 (by decide) ?_
          exact W.iret hx hb hr (zz_endp (by unfold ck_set; (repeat' split) <;> omega)) (fun _ h => nomatch h) kd_M_setOf_41
      · refine lv_iload_n hx hb kd_M_setOf_20 rfl (lv_at hl 0 rfl) ?_
        refine zz_bipush hx hb kd_M_setOf_21 (by decide) ?_
        refine zz_icmp_ge (tgt := 30) hx hb kd_M_setOf_23 (by decide) (by omega) (fun hbr23 => ?_) (fun hbr23 => ?_)
        · refine zz_iconst hx hb (v := 4) (rfl) kd_M_setOf_30 ?_
          exact W.iret hx hb hr (zz_endp (by unfold ck_set; (repeat' split) <;> omega)) (fun _ h => nomatch h) kd_M_setOf_31
        · refine zz_iconst hx hb (v := 2) (rfl) kd_M_setOf_26 ?_
          refine lv_goto (tgt := 31) hx hb kd_M_setOf_27 (by decide) ?_
          exact W.iret hx hb hr (zz_endp (by unfold ck_set; (repeat' split) <;> omega)) (fun _ h => nomatch h) kd_M_setOf_31
    · refine zz_iconst hx hb (v := 1) (rfl) kd_M_setOf_12 ?_
      exact W.iret hx hb hr (zz_endp (by unfold ck_set; (repeat' split) <;> omega)) (fun _ h => nomatch h) kd_M_setOf_13
set_option maxHeartbeats 4000000 in
set_option maxRecDepth 100000 in
theorem kc_M_prototype (l : Launch) (D : va_G) (cI cW : ClassId) (c : Int) (hc : 0 ≤ c ∧ c ≤ 127) {v : Int} (hv : ck_pt c = v) : Met l ky_M_prototype kv_M_prototype ({ frames := 1, cells := 0, slots := 0, locals := 22 }) (va_Pc [.int (zz_I (c))] (zz_P D cI cW (fun _ => True))) (zz_Qp (.int (zz_I v))) 0 0 (fun _ => False) := by
  subst hv
  refine Met.ofW (cc := kb_M_prototype) (maxL := 2) (ret := (some .int)) (by decide) rfl ?_
  intro pg ev sg mg ag bl mt cd s1 Bd hml hv
  obtain ⟨rfl, hP, hK⟩ := hv
  have hx := Bd.exec
  have hb := Bd.bytes
  have hr := Bd.returns
  have hlocks := Bd.notSynchronized
  have hts : ∀ w ∈ zz_tbl, w.before _ sg = true := fun w h => atoms_spec (ws := kv_M_prototype) Bd.pre w (List.mem_cons_of_mem _ h)
  have hown : sg.vm.findClass kn_M = some mg.cls := findClass_of_methodNamed Bd.named
  have hl := lv_entry ([.int (zz_I (c))]) (n := 2) (Nat.le_of_ble_eq_true rfl)
  rw [lg_entry_eq]
  generalize (lg_sl ([.int (zz_I (c))]) ++ List.replicate (2 - (lg_sl ([.int (zz_I (c))])).length) Slot.unset).toArray = ls at hl ⊢
  have hl : lv_has ls 2 [(0, .int (zz_I (c)))] := hl
  refine lv_iload_n hx hb kd_M_prototype_0 rfl (lv_at hl 0 rfl) ?_
  refine lv_istore_n hx hb kd_M_prototype_1 rfl hl (by decide) rfl (fun ls hl => ?_)
  have hl : lv_has ls 2 [(1, .int (zz_I (c))), (0, .int (zz_I (c)))] := hl
  refine lv_iload_n hx hb kd_M_prototype_2 rfl (lv_at hl 1 rfl) ?_
  refine zz_bipush hx hb kd_M_prototype_3 (by decide) ?_
  refine zz_bipush hx hb kd_M_prototype_5 (by decide) ?_
  refine zz_pS ⟨hx, hb, hml, hown, hts⟩ hK (kc_M_in l D cI cW c 16 30 (by omega) (by omega) (by omega) rfl) (zz_gS kw_667 kw_668 kw_31 kw_669) ⟨rfl, rfl⟩ kh_M_in ⟨Nat.le_of_ble_eq_true rfl, Nat.le_of_ble_eq_true rfl⟩  trivial rfl hl.1 rfl (Nat.le_of_ble_eq_true rfl) kd_M_prototype_7 ⟨Nat.le_of_ble_eq_true rfl, Nat.le_of_ble_eq_true rfl⟩ ?_
  have jn24 : ∀ (b1 : Int) (ls : Array Slot), ((16 ≤ c ∧ c ≤ 30 ∧ c % 2 = 0 ∧ b1 = c - 16) ∨ (¬ (16 ≤ c ∧ c ≤ 30 ∧ c % 2 = 0) ∧ b1 = c)) → lv_has ls 2 [(0, .int (zz_I (c))), (1, .int (zz_I (b1)))] → W pg l ev (headSpec kv_M_prototype ({ frames := 1, cells := 0, slots := 0, locals := 22 })).room sg mg [.int (zz_I (c))].toArray bl mt cd sg.heap [] 0 0 (MQ bl (zz_Qp (.int (zz_I (ck_pt c)))) [.int (zz_I (c))].toArray sg 0 0 (fun _ => False)) (F0 mg 24 ls []) := by
    intro b1 ls hb1 hl
    refine lv_iload_n hx hb kd_M_prototype_24 rfl (lv_at hl 0 rfl) ?_
    refine zz_bipush hx hb kd_M_prototype_25 (by decide) ?_
    refine zz_bipush hx hb kd_M_prototype_27 (by decide) ?_
    refine zz_pS ⟨hx, hb, hml, hown, hts⟩ hK (kc_M_in l D cI cW c 32 47 (by omega) (by omega) (by omega) rfl) (zz_gS kw_667 kw_668 kw_31 kw_669) ⟨rfl, rfl⟩ kh_M_in ⟨Nat.le_of_ble_eq_true rfl, Nat.le_of_ble_eq_true rfl⟩  trivial rfl hl.1 rfl (Nat.le_of_ble_eq_true rfl) kd_M_prototype_29 ⟨Nat.le_of_ble_eq_true rfl, Nat.le_of_ble_eq_true rfl⟩ ?_
    have jn49 : ∀ (b2 : Int) (ls : Array Slot), (b2 = ck_lat c) → lv_has ls 2 [(0, .int (zz_I (c))), (1, .int (zz_I (b2)))] → W pg l ev (headSpec kv_M_prototype ({ frames := 1, cells := 0, slots := 0, locals := 22 })).room sg mg [.int (zz_I (c))].toArray bl mt cd sg.heap [] 0 0 (MQ bl (zz_Qp (.int (zz_I (ck_pt c)))) [.int (zz_I (c))].toArray sg 0 0 (fun _ => False)) (F0 mg 49 ls []) := by
      intro b2 ls hb2 hl
      refine lv_iload_n hx hb kd_M_prototype_49 rfl (lv_at hl 1 rfl) ?_
      by_cases hs12 : b2 = 12
      · refine zz_lookup (tgt := 148) hx hb kd_M_prototype_50 (by decide) (by have := ck_lat_rg hc; omega) (zz_osh hs12) (by decide) ?_
        refine zz_sipush hx hb kd_M_prototype_148 (by decide) ?_
        exact W.iret hx hb hr (zz_endp (by unfold ck_pt ck_p1 ck_p2; rw [← hb2]; unfold ck_q1 ck_q2; (repeat' split) <;> omega)) (fun _ h => nomatch h) kd_M_prototype_151
      by_cases hs55 : b2 = 55
      · refine zz_lookup (tgt := 152) hx hb kd_M_prototype_50 (by decide) (by have := ck_lat_rg hc; omega) ((zz_osw hs12).trans (zz_osh hs55)) (by decide) ?_
        refine zz_ldc (z := 49050) hx hb hown (hts _ kw_676) (by decide) kd_M_prototype_152 ?_
        exact W.iret hx hb hr (zz_endp (by unfold ck_pt ck_p1 ck_p2; rw [← hb2]; unfold ck_q1 ck_q2; (repeat' split) <;> omega)) (fun _ h => nomatch h) kd_M_prototype_154
      by_cases hs72 : b2 = 72
      · refine zz_lookup (tgt := 158) hx hb kd_M_prototype_50 (by decide) (by have := ck_lat_rg hc; omega) ((zz_osw hs12).trans ((zz_osw hs55).trans (zz_osh hs72))) (by decide) ?_
        refine lv_iload_n hx hb kd_M_prototype_158 rfl (lv_at hl 1 rfl) ?_
        refine zz_bipush hx hb kd_M_prototype_159 (by decide) ?_
        refine zz_isub hx hb (v := b2 - 24) (rfl) kd_M_prototype_161 ?_
        refine zz_sipush hx hb kd_M_prototype_162 (by decide) ?_
        refine zz_imul hx hb (v := (b2 - 24) * 1000) (rfl) kd_M_prototype_165 ?_
        exact W.iret hx hb hr (zz_endp (by unfold ck_pt ck_p1 ck_p2; rw [← hb2]; unfold ck_q1 ck_q2; (repeat' split) <;> omega)) (fun _ h => nomatch h) kd_M_prototype_166
      by_cases hs73 : b2 = 73
      · refine zz_lookup (tgt := 158) hx hb kd_M_prototype_50 (by decide) (by have := ck_lat_rg hc; omega) ((zz_osw hs12).trans ((zz_osw hs55).trans ((zz_osw hs72).trans (zz_osh hs73)))) (by decide) ?_
        refine lv_iload_n hx hb kd_M_prototype_158 rfl (lv_at hl 1 rfl) ?_
        refine zz_bipush hx hb kd_M_prototype_159 (by decide) ?_
        refine zz_isub hx hb (v := b2 - 24) (rfl) kd_M_prototype_161 ?_
        refine zz_sipush hx hb kd_M_prototype_162 (by decide) ?_
        refine zz_imul hx hb (v := (b2 - 24) * 1000) (rfl) kd_M_prototype_165 ?_
        exact W.iret hx hb hr (zz_endp (by unfold ck_pt ck_p1 ck_p2; rw [← hb2]; unfold ck_q1 ck_q2; (repeat' split) <;> omega)) (fun _ h => nomatch h) kd_M_prototype_166
      by_cases hs74 : b2 = 74
      · refine zz_lookup (tgt := 158) hx hb kd_M_prototype_50 (by decide) (by have := ck_lat_rg hc; omega) ((zz_osw hs12).trans ((zz_osw hs55).trans ((zz_osw hs72).trans ((zz_osw hs73).trans (zz_osh hs74))))) (by decide) ?_
        refine lv_iload_n hx hb kd_M_prototype_158 rfl (lv_at hl 1 rfl) ?_
        refine zz_bipush hx hb kd_M_prototype_159 (by decide) ?_
        refine zz_isub hx hb (v := b2 - 24) (rfl) kd_M_prototype_161 ?_
        refine zz_sipush hx hb kd_M_prototype_162 (by decide) ?_
        refine zz_imul hx hb (v := (b2 - 24) * 1000) (rfl) kd_M_prototype_165 ?_
        exact W.iret hx hb hr (zz_endp (by unfold ck_pt ck_p1 ck_p2; rw [← hb2]; unfold ck_q1 ck_q2; (repeat' split) <;> omega)) (fun _ h => nomatch h) kd_M_prototype_166
      by_cases hs96 : b2 = 96
      · refine zz_lookup (tgt := 167) hx hb kd_M_prototype_50 (by decide) (by have := ck_lat_rg hc; omega) ((zz_osw hs12).trans ((zz_osw hs55).trans ((zz_osw hs72).trans ((zz_osw hs73).trans ((zz_osw hs74).trans (zz_osh hs96)))))) (by decide) ?_
        refine zz_sipush hx hb kd_M_prototype_167 (by decide) ?_
        exact W.iret hx hb hr (zz_endp (by unfold ck_pt ck_p1 ck_p2; rw [← hb2]; unfold ck_q1 ck_q2; (repeat' split) <;> omega)) (fun _ h => nomatch h) kd_M_prototype_170
      by_cases hs97 : b2 = 97
      · refine zz_lookup (tgt := 171) hx hb kd_M_prototype_50 (by decide) (by have := ck_lat_rg hc; omega) ((zz_osw hs12).trans ((zz_osw hs55).trans ((zz_osw hs72).trans ((zz_osw hs73).trans ((zz_osw hs74).trans ((zz_osw hs96).trans (zz_osh hs97))))))) (by decide) ?_
        refine zz_sipush hx hb kd_M_prototype_171 (by decide) ?_
        exact W.iret hx hb hr (zz_endp (by unfold ck_pt ck_p1 ck_p2; rw [← hb2]; unfold ck_q1 ck_q2; (repeat' split) <;> omega)) (fun _ h => nomatch h) kd_M_prototype_174
      by_cases hs100 : b2 = 100
      · refine zz_lookup (tgt := 167) hx hb kd_M_prototype_50 (by decide) (by have := ck_lat_rg hc; omega) ((zz_osw hs12).trans ((zz_osw hs55).trans ((zz_osw hs72).trans ((zz_osw hs73).trans ((zz_osw hs74).trans ((zz_osw hs96).trans ((zz_osw hs97).trans (zz_osh hs100)))))))) (by decide) ?_
        refine zz_sipush hx hb kd_M_prototype_167 (by decide) ?_
        exact W.iret hx hb hr (zz_endp (by unfold ck_pt ck_p1 ck_p2; rw [← hb2]; unfold ck_q1 ck_q2; (repeat' split) <;> omega)) (fun _ h => nomatch h) kd_M_prototype_170
      by_cases hs101 : b2 = 101
      · refine zz_lookup (tgt := 171) hx hb kd_M_prototype_50 (by decide) (by have := ck_lat_rg hc; omega) ((zz_osw hs12).trans ((zz_osw hs55).trans ((zz_osw hs72).trans ((zz_osw hs73).trans ((zz_osw hs74).trans ((zz_osw hs96).trans ((zz_osw hs97).trans ((zz_osw hs100).trans (zz_osh hs101))))))))) (by decide) ?_
        refine zz_sipush hx hb kd_M_prototype_171 (by decide) ?_
        exact W.iret hx hb hr (zz_endp (by unfold ck_pt ck_p1 ck_p2; rw [← hb2]; unfold ck_q1 ck_q2; (repeat' split) <;> omega)) (fun _ h => nomatch h) kd_M_prototype_174
      by_cases hs109 : b2 = 109
      · refine zz_lookup (tgt := 175) hx hb kd_M_prototype_50 (by decide) (by have := ck_lat_rg hc; omega) ((zz_osw hs12).trans ((zz_osw hs55).trans ((zz_osw hs72).trans ((zz_osw hs73).trans ((zz_osw hs74).trans ((zz_osw hs96).trans ((zz_osw hs97).trans ((zz_osw hs100).trans ((zz_osw hs101).trans (zz_osh hs109)))))))))) (by decide) ?_
        refine zz_ldc (z := 105000) hx hb hown (hts _ kw_678) (by decide) kd_M_prototype_175 ?_
        exact W.iret hx hb hr (zz_endp (by unfold ck_pt ck_p1 ck_p2; rw [← hb2]; unfold ck_q1 ck_q2; (repeat' split) <;> omega)) (fun _ h => nomatch h) kd_M_prototype_177
      by_cases hs118 : b2 = 118
      · refine zz_lookup (tgt := 155) hx hb kd_M_prototype_50 (by decide) (by have := ck_lat_rg hc; omega) ((zz_osw hs12).trans ((zz_osw hs55).trans ((zz_osw hs72).trans ((zz_osw hs73).trans ((zz_osw hs74).trans ((zz_osw hs96).trans ((zz_osw hs97).trans ((zz_osw hs100).trans ((zz_osw hs101).trans ((zz_osw hs109).trans (zz_osh hs118))))))))))) (by decide) ?_
        refine zz_ldc (z := 114115) hx hb hown (hts _ kw_677) (by decide) kd_M_prototype_155 ?_
        exact W.iret hx hb hr (zz_endp (by unfold ck_pt ck_p1 ck_p2; rw [← hb2]; unfold ck_q1 ck_q2; (repeat' split) <;> omega)) (fun _ h => nomatch h) kd_M_prototype_157
      refine zz_lookup (tgt := 178) hx hb kd_M_prototype_50 (by decide) (by have := ck_lat_rg hc; omega) ((zz_osw hs12).trans ((zz_osw hs55).trans ((zz_osw hs72).trans ((zz_osw hs73).trans ((zz_osw hs74).trans ((zz_osw hs96).trans ((zz_osw hs97).trans ((zz_osw hs100).trans ((zz_osw hs101).trans ((zz_osw hs109).trans ((zz_osw hs118).trans (Op.lookupswitch.offset_nil _ _)))))))))))) (by decide) ?_
      refine zz_sipush hx hb kd_M_prototype_178 (by decide) ?_
      refine lv_iload_n hx hb kd_M_prototype_181 rfl (lv_at hl 1 rfl) ?_
      refine zz_imul hx hb (v := 1000 * b2) (rfl) kd_M_prototype_182 ?_
      exact W.iret hx hb hr (zz_endp (by unfold ck_pt ck_p1 ck_p2; rw [← hb2]; unfold ck_q1 ck_q2; (repeat' split) <;> omega)) (fun _ h => nomatch h) kd_M_prototype_183
    refine zz_ifb_eq (tgt := 49) hx hb kd_M_prototype_32 (by decide) (fun hbr32 => ?_) (fun hbr32 => ?_)
    · have hbr32 := of_decide_eq_false hbr32
      exact jn49 b1 ls (by unfold ck_lat; (repeat' split) <;> omega) (lv_sub hl [0, 1] rfl)
    · have hbr32 := of_decide_eq_true hbr32
      refine lv_iload_n hx hb kd_M_prototype_35 rfl (lv_at hl 0 rfl) ?_
      refine zz_bipush hx hb kd_M_prototype_36 (by decide) ?_
      refine zz_isub hx hb (v := c - 32) (rfl) kd_M_prototype_38 ?_
      refine zz_iconst hx hb (v := 3) (rfl) kd_M_prototype_39 ?_
      refine zz_irem hx hb (v := (c - 32) % 3) (rfl) kd_M_prototype_40 (by omega) ?_
      refine zz_if_ne (tgt := 49) hx hb kd_M_prototype_41 (by decide) (by omega) (fun hbr41 => ?_) (fun hbr41 => ?_)
      · exact jn49 b1 ls (by unfold ck_lat; (repeat' split) <;> omega) (lv_sub hl [0, 1] rfl)
      · refine lv_iload_n hx hb kd_M_prototype_44 rfl (lv_at hl 0 rfl) ?_
        refine zz_bipush hx hb kd_M_prototype_45 (by decide) ?_
        refine zz_isub hx hb (v := c - 32) (rfl) kd_M_prototype_47 ?_
        refine lv_istore_n hx hb kd_M_prototype_48 rfl hl (by decide) rfl (fun ls hl => ?_)
        have hl : lv_has ls 2 [(1, .int (zz_I (c - 32))), (0, .int (zz_I (c)))] := hl
        exact jn49 (c - 32) ls (by unfold ck_lat; (repeat' split) <;> omega) (lv_sub hl [1, 0] rfl)
  refine zz_ifb_eq (tgt := 24) hx hb kd_M_prototype_10 (by decide) (fun hbr10 => ?_) (fun hbr10 => ?_)
  · have hbr10 := of_decide_eq_false hbr10
    exact jn24 c ls (by omega) (lv_sub hl [1, 0] rfl)
  · have hbr10 := of_decide_eq_true hbr10
    refine lv_iload_n hx hb kd_M_prototype_13 rfl (lv_at hl 1 rfl) ?_
    refine zz_iconst hx hb (v := 2) (rfl) kd_M_prototype_14 ?_
    refine zz_irem hx hb (v := c % 2) (rfl) kd_M_prototype_15 (by omega) ?_
    refine zz_if_ne (tgt := 24) hx hb kd_M_prototype_16 (by decide) (by omega) (fun hbr16 => ?_) (fun hbr16 => ?_)
    · exact jn24 c ls (by omega) (lv_sub hl [1, 0] rfl)
    · refine lv_iload_n hx hb kd_M_prototype_19 rfl (lv_at hl 1 rfl) ?_
      refine zz_bipush hx hb kd_M_prototype_20 (by decide) ?_
      refine zz_isub hx hb (v := c - 16) (rfl) kd_M_prototype_22 ?_
      refine lv_istore_n hx hb kd_M_prototype_23 rfl hl (by decide) rfl (fun ls hl => ?_)
      have hl : lv_has ls 2 [(1, .int (zz_I (c - 16))), (0, .int (zz_I (c)))] := hl
      exact jn24 (c - 16) ls (by omega) (lv_sub hl [1, 0] rfl)
set_option maxHeartbeats 4000000 in
set_option maxRecDepth 100000 in
theorem kc_M_thrown (l : Launch) (D : va_G) (cI cW : ClassId) (o : Nat) (t : Nat) (z : Nat) (w : Nat) (y : Nat) (d : Nat) (th : Int) (k : Nat) (bg : Nat)  {v : Int} (hv : th = v) : Met l ky_M_thrown kv_M_thrown ({ frames := 0, cells := 0, slots := 0, locals := 0 }) (va_Pc [.ref o] (zz_P D cI cW (va_P D kcl [(o, .inr (5, [.int (zz_I (th)), .ref t, .ref z, .int (zz_I (((k : Nat) : Int))), .ref w, .ref y, .ref d, .int (zz_I (((bg : Nat) : Int)))]))]))) (zz_Qp (.int (zz_I v))) 0 0 (fun _ => False) := by
  subst hv
  refine Met.ofW (cc := kb_M_thrown) (maxL := 1) (ret := (some .int)) (by decide) rfl ?_
  intro pg ev sg mg ag bl mt cd s1 Bd hml hv
  obtain ⟨rfl, hP, hK⟩ := hv
  have hP : va_P D kcl [(o, .inr (5, [.int (zz_I (th)), .ref t, .ref z, .int (zz_I (((k : Nat) : Int))), .ref w, .ref y, .ref d, .int (zz_I (((bg : Nat) : Int)))]))] sg.heap := hP
  have hx := Bd.exec
  have hb := Bd.bytes
  have hr := Bd.returns
  have hlocks := Bd.notSynchronized
  have hts : ∀ w ∈ zz_tbl, w.before _ sg = true := fun w h => atoms_spec (ws := kv_M_thrown) Bd.pre w (List.mem_cons_of_mem _ h)
  have hown : sg.vm.findClass kn_M = some mg.cls := findClass_of_methodNamed Bd.named
  have hl := lv_entry ([.ref o]) (n := 1) (Nat.le_of_ble_eq_true rfl)
  rw [lg_entry_eq]
  generalize (lg_sl ([.ref o]) ++ List.replicate (1 - (lg_sl ([.ref o])).length) Slot.unset).toArray = ls at hl ⊢
  have hl : lv_has ls 1 [(0, .ref o)] := hl
  refine lv_aload_n hx hb kd_M_thrown_0 rfl (lv_at hl 0 rfl) ?_
  refine va_get (D := D) (ci := 5) (v := .int (zz_I (th))) (C := kn_M) (T := kf_M) (N := 8) hx hb hts ki_M hown hK hP 0 rfl rfl 0 (by decide) (hts _ kw_601) (fun _ h9 => h9) rfl kd_M_thrown_1 ?_
  exact W.iret hx hb hr (zz_endp (by rfl)) (fun _ h => nomatch h) kd_M_thrown_4
set_option maxHeartbeats 4000000 in
set_option maxRecDepth 100000 in
theorem kc_M_refuse (l : Launch) (D : va_G) (cI cW : ClassId) (o : Nat) (t : Nat) (z : Nat) (w : Nat) (y : Nat) (d : Nat) (th : Int) (k : Nat) (bg : Nat) (c : Int)  (hN : zz_N [o]) : Met l ky_M_refuse kv_M_refuse ({ frames := 0, cells := 0, slots := 0, locals := 0 }) (va_Pc [.ref o, .int (zz_I (c))] (zz_P D cI cW (va_P D kcl [(o, .inr (5, [.int (zz_I (th)), .ref t, .ref z, .int (zz_I (((k : Nat) : Int))), .ref w, .ref y, .ref d, .int (zz_I (((bg : Nat) : Int)))]))]))) (zz_Qw (fun (u : Unit) => some (.int (zz_I 0))) (fun (u : Unit) H => (True) ∧ va_P D kcl [(o, .inr (5, [.int (zz_I (c)), .ref t, .ref z, .int (zz_I (((k : Nat) : Int))), .ref w, .ref y, .ref d, .int (zz_I (((bg : Nat) : Int)))]))] H) (zz_F [(o, .inr (5, [.int (zz_I (th)), .ref t, .ref z, .int (zz_I (((k : Nat) : Int))), .ref w, .ref y, .ref d, .int (zz_I (((bg : Nat) : Int)))]))])) 0 0 (zz_F [(o, .inr (5, [.int (zz_I (th)), .ref t, .ref z, .int (zz_I (((k : Nat) : Int))), .ref w, .ref y, .ref d, .int (zz_I (((bg : Nat) : Int)))]))]) := by
  refine Met.ofW (cc := kb_M_refuse) (maxL := 2) (ret := (some .int)) (by decide) rfl ?_
  intro pg ev sg mg ag bl mt cd s1 Bd hml hv
  obtain ⟨rfl, hP, hK⟩ := hv
  have hP : va_P D kcl [(o, .inr (5, [.int (zz_I (th)), .ref t, .ref z, .int (zz_I (((k : Nat) : Int))), .ref w, .ref y, .ref d, .int (zz_I (((bg : Nat) : Int)))]))] sg.heap := hP
  have hx := Bd.exec
  have hb := Bd.bytes
  have hr := Bd.returns
  have hlocks := Bd.notSynchronized
  have hts : ∀ w ∈ zz_tbl, w.before _ sg = true := fun w h => atoms_spec (ws := kv_M_refuse) Bd.pre w (List.mem_cons_of_mem _ h)
  have hown : sg.vm.findClass kn_M = some mg.cls := findClass_of_methodNamed Bd.named
  have hD : va_D (zz_F [(o, .inr (5, [.int (zz_I (th)), .ref t, .ref z, .int (zz_I (((k : Nat) : Int))), .ref w, .ref y, .ref d, .int (zz_I (((bg : Nat) : Int)))]))]) [(o, .inr (5, [.int (zz_I (th)), .ref t, .ref z, .int (zz_I (((k : Nat) : Int))), .ref w, .ref y, .ref d, .int (zz_I (((bg : Nat) : Int)))]))] := zz_Dof hN rfl
  have hS : va_S (zz_F [(o, .inr (5, [.int (zz_I (th)), .ref t, .ref z, .int (zz_I (((k : Nat) : Int))), .ref w, .ref y, .ref d, .int (zz_I (((bg : Nat) : Int)))]))]) sg.heap sg.heap [] := va_S.rf
  have hl := lv_entry ([.ref o, .int (zz_I (c))]) (n := 2) (Nat.le_of_ble_eq_true rfl)
  rw [lg_entry_eq]
  generalize (lg_sl ([.ref o, .int (zz_I (c))]) ++ List.replicate (2 - (lg_sl ([.ref o, .int (zz_I (c))])).length) Slot.unset).toArray = ls at hl ⊢
  have hl : lv_has ls 2 [(0, .ref o), (1, .int (zz_I (c)))] := hl
  refine lv_aload_n hx hb kd_M_refuse_0 rfl (lv_at hl 0 rfl) ?_
  refine lv_iload_n hx hb kd_M_refuse_1 rfl (lv_at hl 1 rfl) ?_
  refine va_put (D := D) (ci := 5) (v := .int (zz_I (c))) (ty := .int) (C := kn_M) (T := kf_M) (N := 8) hx hb hts ki_M kt_M kk_M km_M hown hK hP hD hS 0 rfl rfl 0 (by decide) (hts _ kw_601) (fun _ h9 => h9) rfl (by decide +kernel) rfl rfl (Nat.le_of_ble_eq_true rfl) kd_M_refuse_2 (fun H locs hP hD hS => ?_)
  have hP : va_P D kcl [(o, .inr (5, [.int (zz_I (c)), .ref t, .ref z, .int (zz_I (((k : Nat) : Int))), .ref w, .ref y, .ref d, .int (zz_I (((bg : Nat) : Int)))]))] H := hP
  have hD : va_D (zz_F [(o, .inr (5, [.int (zz_I (th)), .ref t, .ref z, .int (zz_I (((k : Nat) : Int))), .ref w, .ref y, .ref d, .int (zz_I (((bg : Nat) : Int)))]))]) [(o, .inr (5, [.int (zz_I (c)), .ref t, .ref z, .int (zz_I (((k : Nat) : Int))), .ref w, .ref y, .ref d, .int (zz_I (((bg : Nat) : Int)))]))] := hD
  refine zz_iconst hx hb (v := 0) (rfl) kd_M_refuse_5 ?_
  exact W.iret hx hb hr (zz_endw (()) (rfl) ⟨trivial, hP⟩ hS) hS.2.2 kd_M_refuse_6
set_option maxHeartbeats 4000000 in
set_option maxRecDepth 100000 in
theorem kc_M_setOfText (l : Launch) (D : va_G) (cI cW : ClassId) (o : Nat) (t : Nat) (z : Nat) (w : Nat) (y : Nat) (d : Nat) (th : Int) (k : Nat) (bg : Nat) (T : Nat → Int) (Sz : Nat → Int) (x : Nat) (n : Nat) (G : Nat → Int) (hx_G : x < 14) (hs_G : Sz x = ((n : Nat) : Int)) (hn_G : n ≤ 48) (ht_G : ∀ q, q < n → T (48 * x + q) = G q) (hg_G : ck_ok G n) {v : Int} (hv : ((ck_com G n : Nat) : Int) = v) : Met l ky_M_setOfText kv_M_setOfText ({ frames := 2, cells := 0, slots := 0, locals := 42 }) (va_Pc [.ref o, .int (zz_I (((x : Nat) : Int)))] (zz_P D cI cW (va_P D kcl [(o, .inr (5, [.int (zz_I (th)), .ref t, .ref z, .int (zz_I (((k : Nat) : Int))), .ref w, .ref y, .ref d, .int (zz_I (((bg : Nat) : Int)))])), (t, .inl (cI, 672, .inl (zz_A (T)))), (z, .inl (cI, 14, .inl (zz_A (Sz))))]))) (zz_Qp (.int (zz_I v))) 0 0 (fun _ => False) := by
  subst hv
  refine Met.ofW (cc := kb_M_setOfText) (maxL := 4) (ret := (some .int)) (by decide) rfl ?_
  intro pg ev sg mg ag bl mt cd s1 Bd hml hv
  obtain ⟨rfl, hP, hK⟩ := hv
  have hP : va_P D kcl [(o, .inr (5, [.int (zz_I (th)), .ref t, .ref z, .int (zz_I (((k : Nat) : Int))), .ref w, .ref y, .ref d, .int (zz_I (((bg : Nat) : Int)))])), (t, .inl (cI, 672, .inl (zz_A (T)))), (z, .inl (cI, 14, .inl (zz_A (Sz))))] sg.heap := hP
  have hx := Bd.exec
  have hb := Bd.bytes
  have hr := Bd.returns
  have hlocks := Bd.notSynchronized
  have hts : ∀ w ∈ zz_tbl, w.before _ sg = true := fun w h => atoms_spec (ws := kv_M_setOfText) Bd.pre w (List.mem_cons_of_mem _ h)
  have hown : sg.vm.findClass kn_M = some mg.cls := findClass_of_methodNamed Bd.named
  have hl := lv_entry ([.ref o, .int (zz_I (((x : Nat) : Int)))]) (n := 4) (Nat.le_of_ble_eq_true rfl)
  rw [lg_entry_eq]
  generalize (lg_sl ([.ref o, .int (zz_I (((x : Nat) : Int)))]) ++ List.replicate (4 - (lg_sl ([.ref o, .int (zz_I (((x : Nat) : Int)))])).length) Slot.unset).toArray = ls at hl ⊢
  have hl : lv_has ls 4 [(0, .ref o), (1, .int (zz_I (((x : Nat) : Int))))] := hl
  refine zz_sipush hx hb kd_M_setOfText_0 (by decide) ?_
  refine lv_istore_n hx hb kd_M_setOfText_3 rfl hl (by decide) rfl (fun ls hl => ?_)
  have hl : lv_has ls 4 [(2, .int (zz_I (4095))), (0, .ref o), (1, .int (zz_I (((x : Nat) : Int))))] := hl
  refine zz_iconst hx hb (v := 0) (rfl) kd_M_setOfText_4 ?_
  refine lv_istore_n hx hb kd_M_setOfText_5 rfl hl (by decide) rfl (fun ls hl => ?_)
  have hl : lv_has ls 4 [(3, .int (zz_I (0))), (2, .int (zz_I (4095))), (0, .ref o), (1, .int (zz_I (((x : Nat) : Int))))] := hl
  have lp6 : ∀ (fuel : Nat) (i : Nat) (ls : Array Slot), n - i < fuel → (i ≤ n) → lv_has ls 4 [(0, .ref o), (1, .int (zz_I (((x : Nat) : Int)))), (2, .int (zz_I (((ck_com G i : Nat) : Int)))), (3, .int (zz_I (((i : Nat) : Int))))] → W pg l ev (headSpec kv_M_setOfText ({ frames := 2, cells := 0, slots := 0, locals := 42 })).room sg mg [.ref o, .int (zz_I (((x : Nat) : Int)))].toArray bl mt cd sg.heap [] 0 0 (MQ bl (zz_Qp (.int (zz_I (((ck_com G n : Nat) : Int))))) [.ref o, .int (zz_I (((x : Nat) : Int)))].toArray sg 0 0 (fun _ => False)) (F0 mg 6 ls []) := by
    intro fuel
    induction fuel with
    | zero => intro i ls hfu; exact absurd hfu (Nat.not_lt_zero _)
    | succ fuel ih6 =>
      intro i ls hfu hi hl
      refine lv_iload_n hx hb kd_M_setOfText_6 rfl (lv_at hl 3 rfl) ?_
      refine lv_aload_n hx hb kd_M_setOfText_7 rfl (lv_at hl 0 rfl) ?_
      refine va_get (D := D) (ci := 5) (v := .ref z) (C := kn_M) (T := kf_M) (N := 8) hx hb hts ki_M hown hK hP 0 rfl rfl 2 (by decide) (hts _ kw_603) (fun _ h9 => h9) rfl kd_M_setOfText_8 ?_
      refine lv_iload_n hx hb kd_M_setOfText_11 rfl (lv_at hl 1 rfl) ?_
      refine zz_iald hx hb hK hP 2 0 rfl rfl (by omega) (v := ((n : Nat) : Int)) (hs_G) kd_M_setOfText_12 ?_
      refine zz_icmp_ge (tgt := 39) hx hb kd_M_setOfText_13 (by decide) (by omega) (fun hbr13 => ?_) (fun hbr13 => ?_)
      · refine lv_iload_n hx hb kd_M_setOfText_39 rfl (lv_at hl 2 rfl) ?_
        exact W.iret hx hb hr (zz_endp (by have e : i = n := (by omega); rw [e])) (fun _ h => nomatch h) kd_M_setOfText_40
      · refine lv_iload_n hx hb kd_M_setOfText_16 rfl (lv_at hl 2 rfl) ?_
        refine lv_aload_n hx hb kd_M_setOfText_17 rfl (lv_at hl 0 rfl) ?_
        refine va_get (D := D) (ci := 5) (v := .ref t) (C := kn_M) (T := kf_M) (N := 8) hx hb hts ki_M hown hK hP 0 rfl rfl 1 (by decide) (hts _ kw_602) (fun _ h9 => h9) rfl kd_M_setOfText_18 ?_
        refine zz_bipush hx hb kd_M_setOfText_21 (by decide) ?_
        refine lv_iload_n hx hb kd_M_setOfText_23 rfl (lv_at hl 1 rfl) ?_
        refine zz_imul hx hb (v := 48 * ((x : Nat) : Int)) (rfl) kd_M_setOfText_24 ?_
        refine lv_iload_n hx hb kd_M_setOfText_25 rfl (lv_at hl 3 rfl) ?_
        refine zz_iadd hx hb (v := ((48 * x + i : Nat) : Int)) (by omega) kd_M_setOfText_26 ?_
        refine zz_iald hx hb hK hP 1 0 rfl rfl (by omega) (v := G i) (ht_G i (by omega)) kd_M_setOfText_27 ?_
        refine zz_pS ⟨hx, hb, hml, hown, hts⟩ hK (kc_M_setOf l D cI cW (G i) (hg_G i (by omega)) rfl) (zz_gS kw_691 kw_692 kw_31 kw_693) ⟨rfl, rfl⟩ kh_M_setOf ⟨Nat.le_of_ble_eq_true rfl, Nat.le_of_ble_eq_true rfl⟩  trivial rfl hl.1 rfl (Nat.le_of_ble_eq_true rfl) kd_M_setOfText_28 ⟨Nat.le_of_ble_eq_true rfl, Nat.le_of_ble_eq_true rfl⟩ ?_
        refine zz_iand (x := ck_com G i) (y := ck_set (G i)) hx hb (v := (((ck_com G i) &&& (ck_set (G i)) : Nat) : Int)) (rfl) kd_M_setOfText_31 ?_
        refine lv_istore_n hx hb kd_M_setOfText_32 rfl hl (by decide) rfl (fun ls hl => ?_)
        have hl : lv_has ls 4 [(2, .int (zz_I ((((ck_com G i) &&& (ck_set (G i)) : Nat) : Int)))), (0, .ref o), (1, .int (zz_I (((x : Nat) : Int)))), (3, .int (zz_I (((i : Nat) : Int))))] := hl
        refine zz_iinc (k := 3) hx hb kd_M_setOfText_33 hl rfl rfl (by decide) rfl (fun ls hl => ?_)
        have hl : lv_has ls 4 [(3, .int (zz_I (((i : Nat) : Int) + 1))), (2, .int (zz_I ((((ck_com G i) &&& (ck_set (G i)) : Nat) : Int)))), (0, .ref o), (1, .int (zz_I (((x : Nat) : Int))))] := hl
        refine lv_goto (tgt := 6) hx hb kd_M_setOfText_36 (by decide) ?_
        exact ih6 (i + 1) ls (by omega) (by omega) (lv_sub hl [2, 3, 1, 0] rfl)
  exact lp6 _ 0 ls (Nat.lt_succ_self _) (Nat.zero_le _) (lv_sub hl [2, 3, 1, 0] rfl)
set_option maxHeartbeats 4000000 in
set_option maxRecDepth 100000 in
theorem kc_M_many (l : Launch) (D : va_G) (cI cW : ClassId) (o : Nat) (t : Nat) (z : Nat) (w : Nat) (y : Nat) (d : Nat) (th : Int) (k : Nat) (bg : Nat) (T : Nat → Int) (Sz : Nat → Int) (n : Nat) (G : Nat → Int) (lo : Int) (hi : Int) (hs_G : Sz 12 = ((n : Nat) : Int)) (hn_G : n ≤ 48) (ht_G : ∀ q, q < n → T (576 + q) = G q) (hg_G : ck_ok G n) (hlo : -2147483648 ≤ lo ∧ lo ≤ 2147483647) (hhi : -2147483648 ≤ hi ∧ hi ≤ 2147483647) {v : Int} (hv : ((ck_cnt lo hi G n : Nat) : Int) = v) : Met l ky_M_many kv_M_many ({ frames := 1, cells := 0, slots := 0, locals := 22 }) (va_Pc [.ref o, .int (zz_I (lo)), .int (zz_I (hi))] (zz_P D cI cW (va_P D kcl [(o, .inr (5, [.int (zz_I (th)), .ref t, .ref z, .int (zz_I (((k : Nat) : Int))), .ref w, .ref y, .ref d, .int (zz_I (((bg : Nat) : Int)))])), (t, .inl (cI, 672, .inl (zz_A (T)))), (z, .inl (cI, 14, .inl (zz_A (Sz))))]))) (zz_Qp (.int (zz_I v))) 0 0 (fun _ => False) := by
  subst hv
  refine Met.ofW (cc := kb_M_many) (maxL := 5) (ret := (some .int)) (by decide) rfl ?_
  intro pg ev sg mg ag bl mt cd s1 Bd hml hv
  obtain ⟨rfl, hP, hK⟩ := hv
  have hP : va_P D kcl [(o, .inr (5, [.int (zz_I (th)), .ref t, .ref z, .int (zz_I (((k : Nat) : Int))), .ref w, .ref y, .ref d, .int (zz_I (((bg : Nat) : Int)))])), (t, .inl (cI, 672, .inl (zz_A (T)))), (z, .inl (cI, 14, .inl (zz_A (Sz))))] sg.heap := hP
  have hx := Bd.exec
  have hb := Bd.bytes
  have hr := Bd.returns
  have hlocks := Bd.notSynchronized
  have hts : ∀ w ∈ zz_tbl, w.before _ sg = true := fun w h => atoms_spec (ws := kv_M_many) Bd.pre w (List.mem_cons_of_mem _ h)
  have hown : sg.vm.findClass kn_M = some mg.cls := findClass_of_methodNamed Bd.named
  have hl := lv_entry ([.ref o, .int (zz_I (lo)), .int (zz_I (hi))]) (n := 5) (Nat.le_of_ble_eq_true rfl)
  rw [lg_entry_eq]
  generalize (lg_sl ([.ref o, .int (zz_I (lo)), .int (zz_I (hi))]) ++ List.replicate (5 - (lg_sl ([.ref o, .int (zz_I (lo)), .int (zz_I (hi))])).length) Slot.unset).toArray = ls at hl ⊢
  have hl : lv_has ls 5 [(0, .ref o), (1, .int (zz_I (lo))), (2, .int (zz_I (hi)))] := hl
  refine zz_iconst hx hb (v := 0) (rfl) kd_M_many_0 ?_
  refine lv_istore_n hx hb kd_M_many_1 rfl hl (by decide) rfl (fun ls hl => ?_)
  have hl : lv_has ls 5 [(3, .int (zz_I (0))), (0, .ref o), (1, .int (zz_I (lo))), (2, .int (zz_I (hi)))] := hl
  refine zz_iconst hx hb (v := 0) (rfl) kd_M_many_2 ?_
  refine lv_istore hx hb kd_M_many_3 hl (by decide) rfl (fun ls hl => ?_)
  have hl : lv_has ls 5 [(4, .int (zz_I (0))), (3, .int (zz_I (0))), (0, .ref o), (1, .int (zz_I (lo))), (2, .int (zz_I (hi)))] := hl
  have lp5 : ∀ (fuel : Nat) (i : Nat) (ls : Array Slot), n - i < fuel → (i ≤ n) → lv_has ls 5 [(0, .ref o), (1, .int (zz_I (lo))), (2, .int (zz_I (hi))), (3, .int (zz_I (((ck_cnt lo hi G i : Nat) : Int)))), (4, .int (zz_I (((i : Nat) : Int))))] → W pg l ev (headSpec kv_M_many ({ frames := 1, cells := 0, slots := 0, locals := 22 })).room sg mg [.ref o, .int (zz_I (lo)), .int (zz_I (hi))].toArray bl mt cd sg.heap [] 0 0 (MQ bl (zz_Qp (.int (zz_I (((ck_cnt lo hi G n : Nat) : Int))))) [.ref o, .int (zz_I (lo)), .int (zz_I (hi))].toArray sg 0 0 (fun _ => False)) (F0 mg 5 ls []) := by
    intro fuel
    induction fuel with
    | zero => intro i ls hfu; exact absurd hfu (Nat.not_lt_zero _)
    | succ fuel ih5 =>
      intro i ls hfu hi0 hl
      refine lv_iload hx hb kd_M_many_5 (lv_at hl 4 rfl) ?_
      refine lv_aload_n hx hb kd_M_many_7 rfl (lv_at hl 0 rfl) ?_
      refine va_get (D := D) (ci := 5) (v := .ref z) (C := kn_M) (T := kf_M) (N := 8) hx hb hts ki_M hown hK hP 0 rfl rfl 2 (by decide) (hts _ kw_603) (fun _ h9 => h9) rfl kd_M_many_8 ?_
      refine zz_bipush hx hb kd_M_many_11 (by decide) ?_
      refine zz_iald hx hb hK hP 2 0 rfl rfl (by omega) (v := ((n : Nat) : Int)) (hs_G) kd_M_many_13 ?_
      refine zz_icmp_ge (tgt := 50) hx hb kd_M_many_14 (by decide) (by omega) (fun hbr14 => ?_) (fun hbr14 => ?_)
      · refine lv_iload_n hx hb kd_M_many_50 rfl (lv_at hl 3 rfl) ?_
        exact W.iret hx hb hr (zz_endp (by have e : i = n := (by omega); rw [e])) (fun _ h => nomatch h) kd_M_many_51
      · refine lv_aload_n hx hb kd_M_many_17 rfl (lv_at hl 0 rfl) ?_
        refine va_get (D := D) (ci := 5) (v := .ref t) (C := kn_M) (T := kf_M) (N := 8) hx hb hts ki_M hown hK hP 0 rfl rfl 1 (by decide) (hts _ kw_602) (fun _ h9 => h9) rfl kd_M_many_18 ?_
        refine zz_sipush hx hb kd_M_many_21 (by decide) ?_
        refine lv_iload hx hb kd_M_many_24 (lv_at hl 4 rfl) ?_
        refine zz_iadd hx hb (v := ((576 + i : Nat) : Int)) (by omega) kd_M_many_26 ?_
        refine zz_iald hx hb hK hP 1 0 rfl rfl (by omega) (v := G i) (ht_G i (by omega)) kd_M_many_27 ?_
        refine lv_iload_n hx hb kd_M_many_28 rfl (lv_at hl 1 rfl) ?_
        refine lv_iload_n hx hb kd_M_many_29 rfl (lv_at hl 2 rfl) ?_
        refine zz_pS ⟨hx, hb, hml, hown, hts⟩ hK (kc_M_in l D cI cW (G i) lo hi (by have := hg_G i (by omega); omega) (by omega) (by omega) rfl) (zz_gS kw_667 kw_668 kw_31 kw_669) ⟨rfl, rfl⟩ kh_M_in ⟨Nat.le_of_ble_eq_true rfl, Nat.le_of_ble_eq_true rfl⟩  trivial rfl hl.1 rfl (Nat.le_of_ble_eq_true rfl) kd_M_many_30 ⟨Nat.le_of_ble_eq_true rfl, Nat.le_of_ble_eq_true rfl⟩ ?_
        refine zz_ifb_eq (tgt := 42) hx hb kd_M_many_33 (by decide) (fun hbr33 => ?_) (fun hbr33 => ?_)
        · have hbr33 := of_decide_eq_false hbr33
          refine lv_iload_n hx hb kd_M_many_42 rfl (lv_at hl 3 rfl) ?_
          refine lv_istore_n hx hb kd_M_many_43 rfl hl (by decide) rfl (fun ls hl => ?_)
          have hl : lv_has ls 5 [(3, .int (zz_I (((ck_cnt lo hi G i : Nat) : Int)))), (0, .ref o), (1, .int (zz_I (lo))), (2, .int (zz_I (hi))), (4, .int (zz_I (((i : Nat) : Int))))] := hl
          refine zz_iinc (k := 4) hx hb kd_M_many_44 hl rfl rfl (by decide) rfl (fun ls hl => ?_)
          have hl : lv_has ls 5 [(4, .int (zz_I (((i : Nat) : Int) + 1))), (3, .int (zz_I (((ck_cnt lo hi G i : Nat) : Int)))), (0, .ref o), (1, .int (zz_I (lo))), (2, .int (zz_I (hi)))] := hl
          refine lv_goto (tgt := 5) hx hb kd_M_many_47 (by decide) ?_
          rw [← ck_cnt_n (k := i) (by assumption)] at hl
          exact ih5 (i + 1) ls (by omega) (by omega) (lv_sub hl [2, 3, 4, 1, 0] rfl)
        · have hbr33 := of_decide_eq_true hbr33
          refine lv_iload_n hx hb kd_M_many_36 rfl (lv_at hl 3 rfl) ?_
          refine zz_iconst hx hb (v := 1) (rfl) kd_M_many_37 ?_
          refine zz_iadd hx hb (v := ((ck_cnt lo hi G (i + 1) : Nat) : Int)) (ck_cnt_s (by assumption)) kd_M_many_38 ?_
          refine lv_goto (tgt := 43) hx hb kd_M_many_39 (by decide) ?_
          refine lv_istore_n hx hb kd_M_many_43 rfl hl (by decide) rfl (fun ls hl => ?_)
          have hl : lv_has ls 5 [(3, .int (zz_I (((ck_cnt lo hi G (i + 1) : Nat) : Int)))), (0, .ref o), (1, .int (zz_I (lo))), (2, .int (zz_I (hi))), (4, .int (zz_I (((i : Nat) : Int))))] := hl
          refine zz_iinc (k := 4) hx hb kd_M_many_44 hl rfl rfl (by decide) rfl (fun ls hl => ?_)
          have hl : lv_has ls 5 [(4, .int (zz_I (((i : Nat) : Int) + 1))), (3, .int (zz_I (((ck_cnt lo hi G (i + 1) : Nat) : Int)))), (0, .ref o), (1, .int (zz_I (lo))), (2, .int (zz_I (hi)))] := hl
          refine lv_goto (tgt := 5) hx hb kd_M_many_47 (by decide) ?_
          exact ih5 (i + 1) ls (by omega) (by omega) (lv_sub hl [2, 3, 4, 1, 0] rfl)
  exact lp5 _ 0 ls (Nat.lt_succ_self _) (Nat.zero_le _) (lv_sub hl [2, 3, 4, 1, 0] rfl)
set_option maxHeartbeats 4000000 in
set_option maxRecDepth 100000 in
theorem kc_M_isCovered (l : Launch) (D : va_G) (cI cW : ClassId) (o : Nat) (t : Nat) (z : Nat) (w : Nat) (y : Nat) (d : Nat) (th : Int) (k : Nat) (bg : Nat) (T : Nat → Int) (Sz : Nat → Int) (n : Nat) (G : Nat → Int) (s : Nat) (hs_G : Sz 12 = ((n : Nat) : Int)) (hn_G : n ≤ 48) (ht_G : ∀ q, q < n → T (576 + q) = G q) (hg_G : ck_ok G n) (hs : s ≤ 4096) {v : Int} (hv : zz_b (!ck_any (ck_off s) G n) = v) : Met l ky_M_isCovered kv_M_isCovered ({ frames := 2, cells := 0, slots := 0, locals := 42 }) (va_Pc [.ref o, .int (zz_I (((s : Nat) : Int)))] (zz_P D cI cW (va_P D kcl [(o, .inr (5, [.int (zz_I (th)), .ref t, .ref z, .int (zz_I (((k : Nat) : Int))), .ref w, .ref y, .ref d, .int (zz_I (((bg : Nat) : Int)))])), (t, .inl (cI, 672, .inl (zz_A (T)))), (z, .inl (cI, 14, .inl (zz_A (Sz))))]))) (zz_Qp (.int (zz_I v))) 0 0 (fun _ => False) := by
  subst hv
  refine Met.ofW (cc := kb_M_isCovered) (maxL := 4) (ret := (some .boolean)) (by decide) rfl ?_
  intro pg ev sg mg ag bl mt cd s1 Bd hml hv
  obtain ⟨rfl, hP, hK⟩ := hv
  have hP : va_P D kcl [(o, .inr (5, [.int (zz_I (th)), .ref t, .ref z, .int (zz_I (((k : Nat) : Int))), .ref w, .ref y, .ref d, .int (zz_I (((bg : Nat) : Int)))])), (t, .inl (cI, 672, .inl (zz_A (T)))), (z, .inl (cI, 14, .inl (zz_A (Sz))))] sg.heap := hP
  have hx := Bd.exec
  have hb := Bd.bytes
  have hr := Bd.returns
  have hlocks := Bd.notSynchronized
  have hts : ∀ w ∈ zz_tbl, w.before _ sg = true := fun w h => atoms_spec (ws := kv_M_isCovered) Bd.pre w (List.mem_cons_of_mem _ h)
  have hown : sg.vm.findClass kn_M = some mg.cls := findClass_of_methodNamed Bd.named
  have hl := lv_entry ([.ref o, .int (zz_I (((s : Nat) : Int)))]) (n := 4) (Nat.le_of_ble_eq_true rfl)
  rw [lg_entry_eq]
  generalize (lg_sl ([.ref o, .int (zz_I (((s : Nat) : Int)))]) ++ List.replicate (4 - (lg_sl ([.ref o, .int (zz_I (((s : Nat) : Int)))])).length) Slot.unset).toArray = ls at hl ⊢
  have hl : lv_has ls 4 [(0, .ref o), (1, .int (zz_I (((s : Nat) : Int))))] := hl
  refine zz_iconst hx hb (v := zz_b (!ck_any (ck_off s) G 0)) (rfl) kd_M_isCovered_0 ?_
  refine lv_istore_n hx hb kd_M_isCovered_1 rfl hl (by decide) rfl (fun ls hl => ?_)
  have hl : lv_has ls 4 [(2, .int (zz_I (zz_b (!ck_any (ck_off s) G 0)))), (0, .ref o), (1, .int (zz_I (((s : Nat) : Int))))] := hl
  refine zz_iconst hx hb (v := 0) (rfl) kd_M_isCovered_2 ?_
  refine lv_istore_n hx hb kd_M_isCovered_3 rfl hl (by decide) rfl (fun ls hl => ?_)
  have hl : lv_has ls 4 [(3, .int (zz_I (0))), (2, .int (zz_I (zz_b (!ck_any (ck_off s) G 0)))), (0, .ref o), (1, .int (zz_I (((s : Nat) : Int))))] := hl
  have lp4 : ∀ (fuel : Nat) (i : Nat) (ls : Array Slot), n - i < fuel → (i ≤ n) → lv_has ls 4 [(0, .ref o), (1, .int (zz_I (((s : Nat) : Int)))), (2, .int (zz_I (zz_b (!ck_any (ck_off s) G i)))), (3, .int (zz_I (((i : Nat) : Int))))] → W pg l ev (headSpec kv_M_isCovered ({ frames := 2, cells := 0, slots := 0, locals := 42 })).room sg mg [.ref o, .int (zz_I (((s : Nat) : Int)))].toArray bl mt cd sg.heap [] 0 0 (MQ bl (zz_Qp (.int (zz_I (zz_b (!ck_any (ck_off s) G n))))) [.ref o, .int (zz_I (((s : Nat) : Int)))].toArray sg 0 0 (fun _ => False)) (F0 mg 4 ls []) := by
    intro fuel
    induction fuel with
    | zero => intro i ls hfu; exact absurd hfu (Nat.not_lt_zero _)
    | succ fuel ih4 =>
      intro i ls hfu hi hl
      refine lv_iload_n hx hb kd_M_isCovered_4 rfl (lv_at hl 3 rfl) ?_
      refine lv_aload_n hx hb kd_M_isCovered_5 rfl (lv_at hl 0 rfl) ?_
      refine va_get (D := D) (ci := 5) (v := .ref z) (C := kn_M) (T := kf_M) (N := 8) hx hb hts ki_M hown hK hP 0 rfl rfl 2 (by decide) (hts _ kw_603) (fun _ h9 => h9) rfl kd_M_isCovered_6 ?_
      refine zz_bipush hx hb kd_M_isCovered_9 (by decide) ?_
      refine zz_iald hx hb hK hP 2 0 rfl rfl (by omega) (v := ((n : Nat) : Int)) (hs_G) kd_M_isCovered_11 ?_
      refine zz_icmp_ge (tgt := 51) hx hb kd_M_isCovered_12 (by decide) (by omega) (fun hbr12 => ?_) (fun hbr12 => ?_)
      · refine lv_iload_n hx hb kd_M_isCovered_51 rfl (lv_at hl 2 rfl) ?_
        exact W.zret (ty := .boolean) hx hb hr (zz_nb _) (zz_endp (by have e : i = n := (by omega); rw [e])) (fun _ h => nomatch h) kd_M_isCovered_52
      · refine lv_iload_n hx hb kd_M_isCovered_15 rfl (lv_at hl 2 rfl) ?_
        refine zz_ifb_eq (tgt := 43) hx hb kd_M_isCovered_16 (by decide) (fun hbr16 => ?_) (fun hbr16 => ?_)
        · refine zz_iconst hx hb (v := zz_b (!ck_any (ck_off s) G (i + 1))) (zz_f (by first | exact ck_cov_0 (by assumption) | exact ck_cov_2 (by omega))) kd_M_isCovered_43 ?_
          refine lv_istore_n hx hb kd_M_isCovered_44 rfl hl (by decide) rfl (fun ls hl => ?_)
          have hl : lv_has ls 4 [(2, .int (zz_I (zz_b (!ck_any (ck_off s) G (i + 1))))), (0, .ref o), (1, .int (zz_I (((s : Nat) : Int)))), (3, .int (zz_I (((i : Nat) : Int))))] := hl
          refine zz_iinc (k := 3) hx hb kd_M_isCovered_45 hl rfl rfl (by decide) rfl (fun ls hl => ?_)
          have hl : lv_has ls 4 [(3, .int (zz_I (((i : Nat) : Int) + 1))), (2, .int (zz_I (zz_b (!ck_any (ck_off s) G (i + 1))))), (0, .ref o), (1, .int (zz_I (((s : Nat) : Int))))] := hl
          refine lv_goto (tgt := 4) hx hb kd_M_isCovered_48 (by decide) ?_
          exact ih4 (i + 1) ls (by omega) (by omega) (lv_sub hl [2, 3, 1, 0] rfl)
        · refine lv_aload_n hx hb kd_M_isCovered_19 rfl (lv_at hl 0 rfl) ?_
          refine va_get (D := D) (ci := 5) (v := .ref t) (C := kn_M) (T := kf_M) (N := 8) hx hb hts ki_M hown hK hP 0 rfl rfl 1 (by decide) (hts _ kw_602) (fun _ h9 => h9) rfl kd_M_isCovered_20 ?_
          refine zz_sipush hx hb kd_M_isCovered_23 (by decide) ?_
          refine lv_iload_n hx hb kd_M_isCovered_26 rfl (lv_at hl 3 rfl) ?_
          refine zz_iadd hx hb (v := ((576 + i : Nat) : Int)) (by omega) kd_M_isCovered_27 ?_
          refine zz_iald hx hb hK hP 1 0 rfl rfl (by omega) (v := G i) (ht_G i (by omega)) kd_M_isCovered_28 ?_
          refine zz_pS ⟨hx, hb, hml, hown, hts⟩ hK (kc_M_setOf l D cI cW (G i) (hg_G i (by omega)) rfl) (zz_gS kw_691 kw_692 kw_31 kw_693) ⟨rfl, rfl⟩ kh_M_setOf ⟨Nat.le_of_ble_eq_true rfl, Nat.le_of_ble_eq_true rfl⟩  trivial rfl hl.1 rfl (Nat.le_of_ble_eq_true rfl) kd_M_isCovered_29 ⟨Nat.le_of_ble_eq_true rfl, Nat.le_of_ble_eq_true rfl⟩ ?_
          refine lv_iload_n hx hb kd_M_isCovered_32 rfl (lv_at hl 1 rfl) ?_
          refine zz_iconst hx hb (v := 1) (rfl) kd_M_isCovered_33 ?_
          refine zz_ior (x := s) (y := 1) hx hb (v := ((1 ||| s : Nat) : Int)) (by rw [Nat.or_comm]) kd_M_isCovered_34 ?_
          refine zz_iand (x := ck_set (G i)) (y := 1 ||| s) hx hb (v := (((ck_set (G i)) &&& (1 ||| s) : Nat) : Int)) (rfl) kd_M_isCovered_35 ?_
          refine zz_if_eq (tgt := 43) hx hb kd_M_isCovered_36 (by decide) (by have := ck_and_lt (ck_set_lt (G i)) (y := 1 ||| s); omega) (fun hbr36 => ?_) (fun hbr36 => ?_)
          · refine zz_iconst hx hb (v := zz_b (!ck_any (ck_off s) G (i + 1))) (zz_f (by first | exact ck_cov_0 (by assumption) | exact ck_cov_2 (by omega))) kd_M_isCovered_43 ?_
            refine lv_istore_n hx hb kd_M_isCovered_44 rfl hl (by decide) rfl (fun ls hl => ?_)
            have hl : lv_has ls 4 [(2, .int (zz_I (zz_b (!ck_any (ck_off s) G (i + 1))))), (0, .ref o), (1, .int (zz_I (((s : Nat) : Int)))), (3, .int (zz_I (((i : Nat) : Int))))] := hl
            refine zz_iinc (k := 3) hx hb kd_M_isCovered_45 hl rfl rfl (by decide) rfl (fun ls hl => ?_)
            have hl : lv_has ls 4 [(3, .int (zz_I (((i : Nat) : Int) + 1))), (2, .int (zz_I (zz_b (!ck_any (ck_off s) G (i + 1))))), (0, .ref o), (1, .int (zz_I (((s : Nat) : Int))))] := hl
            refine lv_goto (tgt := 4) hx hb kd_M_isCovered_48 (by decide) ?_
            exact ih4 (i + 1) ls (by omega) (by omega) (lv_sub hl [2, 3, 1, 0] rfl)
          · refine zz_iconst hx hb (v := zz_b (!ck_any (ck_off s) G (i + 1))) (zz_t (ck_cov_1 (by assumption) (by omega))) kd_M_isCovered_39 ?_
            refine lv_goto (tgt := 44) hx hb kd_M_isCovered_40 (by decide) ?_
            refine lv_istore_n hx hb kd_M_isCovered_44 rfl hl (by decide) rfl (fun ls hl => ?_)
            have hl : lv_has ls 4 [(2, .int (zz_I (zz_b (!ck_any (ck_off s) G (i + 1))))), (0, .ref o), (1, .int (zz_I (((s : Nat) : Int)))), (3, .int (zz_I (((i : Nat) : Int))))] := hl
            refine zz_iinc (k := 3) hx hb kd_M_isCovered_45 hl rfl rfl (by decide) rfl (fun ls hl => ?_)
            have hl : lv_has ls 4 [(3, .int (zz_I (((i : Nat) : Int) + 1))), (2, .int (zz_I (zz_b (!ck_any (ck_off s) G (i + 1))))), (0, .ref o), (1, .int (zz_I (((s : Nat) : Int))))] := hl
            refine lv_goto (tgt := 4) hx hb kd_M_isCovered_48 (by decide) ?_
            exact ih4 (i + 1) ls (by omega) (by omega) (lv_sub hl [2, 3, 1, 0] rfl)
  exact lp4 _ 0 ls (Nat.lt_succ_self _) (Nat.zero_le _) (lv_sub hl [2, 3, 1, 0] rfl)
set_option maxHeartbeats 4000000 in
set_option maxRecDepth 100000 in
theorem kc_M_isSame (l : Launch) (D : va_G) (cI cW : ClassId) (o : Nat) (t : Nat) (z : Nat) (w : Nat) (y : Nat) (d : Nat) (th : Int) (k : Nat) (bg : Nat) (T : Nat → Int) (Sz : Nat → Int) (x : Nat) (u : Nat) (n : Nat) (G : Nat → Int) (n2 : Nat) (G2 : Nat → Int) (hx_G : x < 14) (hs_G : Sz x = ((n : Nat) : Int)) (hn_G : n ≤ 48) (ht_G : ∀ q, q < n → T (48 * x + q) = G q) (hg_G : ck_ok G n) (hx_G2 : u < 14) (hs_G2 : Sz u = ((n2 : Nat) : Int)) (hn_G2 : n2 ≤ 48) (ht_G2 : ∀ q, q < n2 → T (48 * u + q) = G2 q) (hg_G2 : ck_ok G2 n2) {v : Int} (hv : zz_b (ck_sm n n2 G G2 n) = v) : Met l ky_M_isSame kv_M_isSame ({ frames := 0, cells := 0, slots := 0, locals := 0 }) (va_Pc [.ref o, .int (zz_I (((x : Nat) : Int))), .int (zz_I (((u : Nat) : Int)))] (zz_P D cI cW (va_P D kcl [(o, .inr (5, [.int (zz_I (th)), .ref t, .ref z, .int (zz_I (((k : Nat) : Int))), .ref w, .ref y, .ref d, .int (zz_I (((bg : Nat) : Int)))])), (t, .inl (cI, 672, .inl (zz_A (T)))), (z, .inl (cI, 14, .inl (zz_A (Sz))))]))) (zz_Qp (.int (zz_I v))) 0 0 (fun _ => False) := by
  subst hv
  refine Met.ofW (cc := kb_M_isSame) (maxL := 5) (ret := (some .boolean)) (by decide) rfl ?_
  intro pg ev sg mg ag bl mt cd s1 Bd hml hv
  obtain ⟨rfl, hP, hK⟩ := hv
  have hP : va_P D kcl [(o, .inr (5, [.int (zz_I (th)), .ref t, .ref z, .int (zz_I (((k : Nat) : Int))), .ref w, .ref y, .ref d, .int (zz_I (((bg : Nat) : Int)))])), (t, .inl (cI, 672, .inl (zz_A (T)))), (z, .inl (cI, 14, .inl (zz_A (Sz))))] sg.heap := hP
  have hx := Bd.exec
  have hb := Bd.bytes
  have hr := Bd.returns
  have hlocks := Bd.notSynchronized
  have hts : ∀ w ∈ zz_tbl, w.before _ sg = true := fun w h => atoms_spec (ws := kv_M_isSame) Bd.pre w (List.mem_cons_of_mem _ h)
  have hown : sg.vm.findClass kn_M = some mg.cls := findClass_of_methodNamed Bd.named
  have hl := lv_entry ([.ref o, .int (zz_I (((x : Nat) : Int))), .int (zz_I (((u : Nat) : Int)))]) (n := 5) (Nat.le_of_ble_eq_true rfl)
  rw [lg_entry_eq]
  generalize (lg_sl ([.ref o, .int (zz_I (((x : Nat) : Int))), .int (zz_I (((u : Nat) : Int)))]) ++ List.replicate (5 - (lg_sl ([.ref o, .int (zz_I (((x : Nat) : Int))), .int (zz_I (((u : Nat) : Int)))])).length) Slot.unset).toArray = ls at hl ⊢
  have hl : lv_has ls 5 [(0, .ref o), (1, .int (zz_I (((x : Nat) : Int)))), (2, .int (zz_I (((u : Nat) : Int))))] := hl
  refine lv_aload_n hx hb kd_M_isSame_0 rfl (lv_at hl 0 rfl) ?_
  refine va_get (D := D) (ci := 5) (v := .ref z) (C := kn_M) (T := kf_M) (N := 8) hx hb hts ki_M hown hK hP 0 rfl rfl 2 (by decide) (hts _ kw_603) (fun _ h9 => h9) rfl kd_M_isSame_1 ?_
  refine lv_iload_n hx hb kd_M_isSame_4 rfl (lv_at hl 1 rfl) ?_
  refine zz_iald hx hb hK hP 2 0 rfl rfl (by omega) (v := ((n : Nat) : Int)) (hs_G) kd_M_isSame_5 ?_
  refine lv_aload_n hx hb kd_M_isSame_6 rfl (lv_at hl 0 rfl) ?_
  refine va_get (D := D) (ci := 5) (v := .ref z) (C := kn_M) (T := kf_M) (N := 8) hx hb hts ki_M hown hK hP 0 rfl rfl 2 (by decide) (hts _ kw_603) (fun _ h9 => h9) rfl kd_M_isSame_7 ?_
  refine lv_iload_n hx hb kd_M_isSame_10 rfl (lv_at hl 2 rfl) ?_
  refine zz_iald hx hb hK hP 2 0 rfl rfl (by omega) (v := ((n2 : Nat) : Int)) (hs_G2) kd_M_isSame_11 ?_
  have jn20 : ∀  (ls : Array Slot), lv_has ls 5 [(0, .ref o), (1, .int (zz_I (((x : Nat) : Int)))), (2, .int (zz_I (((u : Nat) : Int))))] → W pg l ev (headSpec kv_M_isSame ({ frames := 0, cells := 0, slots := 0, locals := 0 })).room sg mg [.ref o, .int (zz_I (((x : Nat) : Int))), .int (zz_I (((u : Nat) : Int)))].toArray bl mt cd sg.heap [] 0 0 (MQ bl (zz_Qp (.int (zz_I (zz_b (ck_sm n n2 G G2 n))))) [.ref o, .int (zz_I (((x : Nat) : Int))), .int (zz_I (((u : Nat) : Int)))].toArray sg 0 0 (fun _ => False)) (F0 mg 20 ls [.int (zz_I (zz_b (decide (n = n2))))]) := by
    intro  ls  hl
    refine lv_istore_n hx hb kd_M_isSame_20 rfl hl (by decide) rfl (fun ls hl => ?_)
    have hl : lv_has ls 5 [(3, .int (zz_I (zz_b (decide (n = n2))))), (0, .ref o), (1, .int (zz_I (((x : Nat) : Int)))), (2, .int (zz_I (((u : Nat) : Int))))] := hl
    refine zz_iconst hx hb (v := 0) (rfl) kd_M_isSame_21 ?_
    refine lv_istore hx hb kd_M_isSame_22 hl (by decide) rfl (fun ls hl => ?_)
    have hl : lv_has ls 5 [(4, .int (zz_I (0))), (3, .int (zz_I (zz_b (decide (n = n2))))), (0, .ref o), (1, .int (zz_I (((x : Nat) : Int)))), (2, .int (zz_I (((u : Nat) : Int))))] := hl
    have lp24 : ∀ (fuel : Nat) (i : Nat) (ls : Array Slot), n - i < fuel → (i ≤ n) → lv_has ls 5 [(0, .ref o), (1, .int (zz_I (((x : Nat) : Int)))), (2, .int (zz_I (((u : Nat) : Int)))), (3, .int (zz_I (zz_b (ck_sm n n2 G G2 i)))), (4, .int (zz_I (((i : Nat) : Int))))] → W pg l ev (headSpec kv_M_isSame ({ frames := 0, cells := 0, slots := 0, locals := 0 })).room sg mg [.ref o, .int (zz_I (((x : Nat) : Int))), .int (zz_I (((u : Nat) : Int)))].toArray bl mt cd sg.heap [] 0 0 (MQ bl (zz_Qp (.int (zz_I (zz_b (ck_sm n n2 G G2 n))))) [.ref o, .int (zz_I (((x : Nat) : Int))), .int (zz_I (((u : Nat) : Int)))].toArray sg 0 0 (fun _ => False)) (F0 mg 24 ls []) := by
      intro fuel
      induction fuel with
      | zero => intro i ls hfu; exact absurd hfu (Nat.not_lt_zero _)
      | succ fuel ih24 =>
        intro i ls hfu hi hl
        refine lv_iload hx hb kd_M_isSame_24 (lv_at hl 4 rfl) ?_
        refine lv_aload_n hx hb kd_M_isSame_26 rfl (lv_at hl 0 rfl) ?_
        refine va_get (D := D) (ci := 5) (v := .ref z) (C := kn_M) (T := kf_M) (N := 8) hx hb hts ki_M hown hK hP 0 rfl rfl 2 (by decide) (hts _ kw_603) (fun _ h9 => h9) rfl kd_M_isSame_27 ?_
        refine lv_iload_n hx hb kd_M_isSame_30 rfl (lv_at hl 1 rfl) ?_
        refine zz_iald hx hb hK hP 2 0 rfl rfl (by omega) (v := ((n : Nat) : Int)) (hs_G) kd_M_isSame_31 ?_
        refine zz_icmp_ge (tgt := 78) hx hb kd_M_isSame_32 (by decide) (by omega) (fun hbr32 => ?_) (fun hbr32 => ?_)
        · refine lv_iload_n hx hb kd_M_isSame_78 rfl (lv_at hl 3 rfl) ?_
          exact W.zret (ty := .boolean) hx hb hr (zz_nb _) (zz_endp (by rw [ck_sm_end (n := n) hi (by first | exact Or.inl (by omega) | exact Or.inr (by assumption))])) (fun _ h => nomatch h) kd_M_isSame_79
        · refine lv_iload_n hx hb kd_M_isSame_35 rfl (lv_at hl 3 rfl) ?_
          refine zz_ifb_eq (tgt := 78) hx hb kd_M_isSame_36 (by decide) (fun hbr36 => ?_) (fun hbr36 => ?_)
          · refine lv_iload_n hx hb kd_M_isSame_78 rfl (lv_at hl 3 rfl) ?_
            exact W.zret (ty := .boolean) hx hb hr (zz_nb _) (zz_endp (by rw [ck_sm_end (n := n) hi (by first | exact Or.inl (by omega) | exact Or.inr (by assumption))])) (fun _ h => nomatch h) kd_M_isSame_79
          · refine lv_aload_n hx hb kd_M_isSame_39 rfl (lv_at hl 0 rfl) ?_
            refine va_get (D := D) (ci := 5) (v := .ref t) (C := kn_M) (T := kf_M) (N := 8) hx hb hts ki_M hown hK hP 0 rfl rfl 1 (by decide) (hts _ kw_602) (fun _ h9 => h9) rfl kd_M_isSame_40 ?_
            refine zz_bipush hx hb kd_M_isSame_43 (by decide) ?_
            refine lv_iload_n hx hb kd_M_isSame_45 rfl (lv_at hl 1 rfl) ?_
            refine zz_imul hx hb (v := 48 * ((x : Nat) : Int)) (rfl) kd_M_isSame_46 ?_
            refine lv_iload hx hb kd_M_isSame_47 (lv_at hl 4 rfl) ?_
            refine zz_iadd hx hb (v := ((48 * x + i : Nat) : Int)) (by omega) kd_M_isSame_49 ?_
            refine zz_iald hx hb hK hP 1 0 rfl rfl (by omega) (v := G i) (ht_G i (by omega)) kd_M_isSame_50 ?_
            refine lv_aload_n hx hb kd_M_isSame_51 rfl (lv_at hl 0 rfl) ?_
            refine va_get (D := D) (ci := 5) (v := .ref t) (C := kn_M) (T := kf_M) (N := 8) hx hb hts ki_M hown hK hP 0 rfl rfl 1 (by decide) (hts _ kw_602) (fun _ h9 => h9) rfl kd_M_isSame_52 ?_
            refine zz_bipush hx hb kd_M_isSame_55 (by decide) ?_
            refine lv_iload_n hx hb kd_M_isSame_57 rfl (lv_at hl 2 rfl) ?_
            refine zz_imul hx hb (v := 48 * ((u : Nat) : Int)) (rfl) kd_M_isSame_58 ?_
            refine lv_iload hx hb kd_M_isSame_59 (lv_at hl 4 rfl) ?_
            refine zz_iadd hx hb (v := ((48 * u + i : Nat) : Int)) (by omega) kd_M_isSame_61 ?_
            refine zz_iald hx hb hK hP 1 0 rfl rfl (by have := ck_sm_len (g := G) (h := G2) (n := n) (n2 := n2) (k := i) (by assumption); omega) (v := G2 i) (ht_G2 i (by have := ck_sm_len (g := G) (h := G2) (n := n) (n2 := n2) (k := i) (by assumption); omega)) kd_M_isSame_62 ?_
            refine zz_icmp_ne (tgt := 70) hx hb kd_M_isSame_63 (by decide) (by have := ck_sm_len (g := G) (h := G2) (n := n) (n2 := n2) (k := i) (by assumption); have := hg_G i (by omega); have := hg_G2 i (by omega); omega) (fun hbr63 => ?_) (fun hbr63 => ?_)
            · refine zz_iconst hx hb (v := zz_b (ck_sm n n2 G G2 (i + 1))) (zz_f (ck_sm_0 (by assumption))) kd_M_isSame_70 ?_
              refine lv_istore_n hx hb kd_M_isSame_71 rfl hl (by decide) rfl (fun ls hl => ?_)
              have hl : lv_has ls 5 [(3, .int (zz_I (zz_b (ck_sm n n2 G G2 (i + 1))))), (0, .ref o), (1, .int (zz_I (((x : Nat) : Int)))), (2, .int (zz_I (((u : Nat) : Int)))), (4, .int (zz_I (((i : Nat) : Int))))] := hl
              refine zz_iinc (k := 4) hx hb kd_M_isSame_72 hl rfl rfl (by decide) rfl (fun ls hl => ?_)
              have hl : lv_has ls 5 [(4, .int (zz_I (((i : Nat) : Int) + 1))), (3, .int (zz_I (zz_b (ck_sm n n2 G G2 (i + 1))))), (0, .ref o), (1, .int (zz_I (((x : Nat) : Int)))), (2, .int (zz_I (((u : Nat) : Int))))] := hl
              refine lv_goto (tgt := 24) hx hb kd_M_isSame_75 (by decide) ?_
              exact ih24 (i + 1) ls (by omega) (by omega) (lv_sub hl [2, 3, 4, 1, 0] rfl)
            · refine zz_iconst hx hb (v := zz_b (ck_sm n n2 G G2 (i + 1))) (zz_t (ck_sm_1 (by assumption) (by assumption))) kd_M_isSame_66 ?_
              refine lv_goto (tgt := 71) hx hb kd_M_isSame_67 (by decide) ?_
              refine lv_istore_n hx hb kd_M_isSame_71 rfl hl (by decide) rfl (fun ls hl => ?_)
              have hl : lv_has ls 5 [(3, .int (zz_I (zz_b (ck_sm n n2 G G2 (i + 1))))), (0, .ref o), (1, .int (zz_I (((x : Nat) : Int)))), (2, .int (zz_I (((u : Nat) : Int)))), (4, .int (zz_I (((i : Nat) : Int))))] := hl
              refine zz_iinc (k := 4) hx hb kd_M_isSame_72 hl rfl rfl (by decide) rfl (fun ls hl => ?_)
              have hl : lv_has ls 5 [(4, .int (zz_I (((i : Nat) : Int) + 1))), (3, .int (zz_I (zz_b (ck_sm n n2 G G2 (i + 1))))), (0, .ref o), (1, .int (zz_I (((x : Nat) : Int)))), (2, .int (zz_I (((u : Nat) : Int))))] := hl
              refine lv_goto (tgt := 24) hx hb kd_M_isSame_75 (by decide) ?_
              exact ih24 (i + 1) ls (by omega) (by omega) (lv_sub hl [2, 3, 4, 1, 0] rfl)
    exact lp24 _ 0 ls (Nat.lt_succ_self _) (Nat.zero_le _) (lv_sub hl [2, 3, 4, 1, 0] rfl)
  refine zz_icmp_ne (tgt := 19) hx hb kd_M_isSame_12 (by decide) (by omega) (fun hbr12 => ?_) (fun hbr12 => ?_)
  · refine zz_iconst hx hb (v := zz_b (decide (n = n2))) (zz_f (decide_eq_false (by omega))) kd_M_isSame_19 ?_
    exact jn20  ls  (lv_sub hl [0, 1, 2] rfl)
  · refine zz_iconst hx hb (v := zz_b (decide (n = n2))) (zz_t (decide_eq_true (by omega))) kd_M_isSame_15 ?_
    refine lv_goto (tgt := 20) hx hb kd_M_isSame_16 (by decide) ?_
    exact jn20  ls  (lv_sub hl [0, 1, 2] rfl)
set_option maxHeartbeats 4000000 in
set_option maxRecDepth 100000 in
theorem kc_M_add (l : Launch) (D : va_G) (cI cW : ClassId) (o : Nat) (t : Nat) (z : Nat) (w : Nat) (y : Nat) (d : Nat) (th : Int) (k : Nat) (bg : Nat) (Ln : Nat → Int) (r : Nat) (c : Int) (j : Nat) (Rw : Nat → Int) (f : Nat → Int) (hr0 : r < 2) (hL : Ln r = ((j : Nat) : Int)) (hj : j < 160) (hN : zz_N [o, w, y]) : Met l ky_M_add kv_M_add ({ frames := 0, cells := 0, slots := 0, locals := 0 }) (va_Pc [.ref o, .int (zz_I (((r : Nat) : Int))), .int (zz_I (c))] (zz_P D cI cW (va_P D kcl [(o, .inr (5, [.int (zz_I (th)), .ref t, .ref z, .int (zz_I (((k : Nat) : Int))), .ref w, .ref y, .ref d, .int (zz_I (((bg : Nat) : Int)))])), (w, .inl (cI, 320, .inl (zz_A (ck_bs (160 * r) Rw f)))), (y, .inl (cI, 2, .inl (zz_A (Ln))))]))) (zz_Qw (fun (u : Unit) => none) (fun (u : Unit) H => (True) ∧ va_P D kcl [(o, .inr (5, [.int (zz_I (th)), .ref t, .ref z, .int (zz_I (((k : Nat) : Int))), .ref w, .ref y, .ref d, .int (zz_I (((bg : Nat) : Int)))])), (w, .inl (cI, 320, .inl (zz_A (ck_bs (160 * r) Rw (zz_u f j c))))), (y, .inl (cI, 2, .inl (zz_A (zz_u Ln r ((j + 1 : Nat) : Int)))))] H) (zz_F [(o, .inr (5, [.int (zz_I (th)), .ref t, .ref z, .int (zz_I (((k : Nat) : Int))), .ref w, .ref y, .ref d, .int (zz_I (((bg : Nat) : Int)))])), (w, .inl (cI, 320, .inl (zz_A (ck_bs (160 * r) Rw f)))), (y, .inl (cI, 2, .inl (zz_A (Ln))))])) 0 0 (zz_F [(o, .inr (5, [.int (zz_I (th)), .ref t, .ref z, .int (zz_I (((k : Nat) : Int))), .ref w, .ref y, .ref d, .int (zz_I (((bg : Nat) : Int)))])), (w, .inl (cI, 320, .inl (zz_A (ck_bs (160 * r) Rw f)))), (y, .inl (cI, 2, .inl (zz_A (Ln))))]) := by
  refine Met.ofW (cc := kb_M_add) (maxL := 3) (ret := none) (by decide) rfl ?_
  intro pg ev sg mg ag bl mt cd s1 Bd hml hv
  obtain ⟨rfl, hP, hK⟩ := hv
  have hP : va_P D kcl [(o, .inr (5, [.int (zz_I (th)), .ref t, .ref z, .int (zz_I (((k : Nat) : Int))), .ref w, .ref y, .ref d, .int (zz_I (((bg : Nat) : Int)))])), (w, .inl (cI, 320, .inl (zz_A (ck_bs (160 * r) Rw f)))), (y, .inl (cI, 2, .inl (zz_A (Ln))))] sg.heap := hP
  have hx := Bd.exec
  have hb := Bd.bytes
  have hr := Bd.returns
  have hlocks := Bd.notSynchronized
  have hts : ∀ w ∈ zz_tbl, w.before _ sg = true := fun w h => atoms_spec (ws := kv_M_add) Bd.pre w (List.mem_cons_of_mem _ h)
  have hown : sg.vm.findClass kn_M = some mg.cls := findClass_of_methodNamed Bd.named
  have hD : va_D (zz_F [(o, .inr (5, [.int (zz_I (th)), .ref t, .ref z, .int (zz_I (((k : Nat) : Int))), .ref w, .ref y, .ref d, .int (zz_I (((bg : Nat) : Int)))])), (w, .inl (cI, 320, .inl (zz_A (ck_bs (160 * r) Rw f)))), (y, .inl (cI, 2, .inl (zz_A (Ln))))]) [(o, .inr (5, [.int (zz_I (th)), .ref t, .ref z, .int (zz_I (((k : Nat) : Int))), .ref w, .ref y, .ref d, .int (zz_I (((bg : Nat) : Int)))])), (w, .inl (cI, 320, .inl (zz_A (ck_bs (160 * r) Rw f)))), (y, .inl (cI, 2, .inl (zz_A (Ln))))] := zz_Dof hN rfl
  have hS : va_S (zz_F [(o, .inr (5, [.int (zz_I (th)), .ref t, .ref z, .int (zz_I (((k : Nat) : Int))), .ref w, .ref y, .ref d, .int (zz_I (((bg : Nat) : Int)))])), (w, .inl (cI, 320, .inl (zz_A (ck_bs (160 * r) Rw f)))), (y, .inl (cI, 2, .inl (zz_A (Ln))))]) sg.heap sg.heap [] := va_S.rf
  have hl := lv_entry ([.ref o, .int (zz_I (((r : Nat) : Int))), .int (zz_I (c))]) (n := 3) (Nat.le_of_ble_eq_true rfl)
  rw [lg_entry_eq]
  generalize (lg_sl ([.ref o, .int (zz_I (((r : Nat) : Int))), .int (zz_I (c))]) ++ List.replicate (3 - (lg_sl ([.ref o, .int (zz_I (((r : Nat) : Int))), .int (zz_I (c))])).length) Slot.unset).toArray = ls at hl ⊢
  have hl : lv_has ls 3 [(0, .ref o), (1, .int (zz_I (((r : Nat) : Int)))), (2, .int (zz_I (c)))] := hl
  refine lv_aload_n hx hb kd_M_add_0 rfl (lv_at hl 0 rfl) ?_
  refine va_get (D := D) (ci := 5) (v := .ref w) (C := kn_M) (T := kf_M) (N := 8) hx hb hts ki_M hown hK hP 0 rfl rfl 4 (by decide) (hts _ kw_605) (fun _ h9 => h9) rfl kd_M_add_1 ?_
  refine zz_sipush hx hb kd_M_add_4 (by decide) ?_
  refine lv_iload_n hx hb kd_M_add_7 rfl (lv_at hl 1 rfl) ?_
  refine zz_imul hx hb (v := 160 * ((r : Nat) : Int)) (rfl) kd_M_add_8 ?_
  refine lv_aload_n hx hb kd_M_add_9 rfl (lv_at hl 0 rfl) ?_
  refine va_get (D := D) (ci := 5) (v := .ref y) (C := kn_M) (T := kf_M) (N := 8) hx hb hts ki_M hown hK hP 0 rfl rfl 5 (by decide) (hts _ kw_606) (fun _ h9 => h9) rfl kd_M_add_10 ?_
  refine lv_iload_n hx hb kd_M_add_13 rfl (lv_at hl 1 rfl) ?_
  refine zz_iald hx hb hK hP 2 0 rfl rfl (by omega) (v := ((j : Nat) : Int)) (hL) kd_M_add_14 ?_
  refine zz_iadd hx hb (v := ((160 * r + j : Nat) : Int)) (by omega) kd_M_add_15 ?_
  refine lv_iload_n hx hb kd_M_add_16 rfl (lv_at hl 2 rfl) ?_
  refine zz_iast (k := (160 * r + j)) hx hb hK hP hD hS 1 0 rfl rfl (by omega) (rfl) kd_M_add_17 (fun H locs hP hD hS => ?_)
  have hP : va_P D kcl [(o, .inr (5, [.int (zz_I (th)), .ref t, .ref z, .int (zz_I (((k : Nat) : Int))), .ref w, .ref y, .ref d, .int (zz_I (((bg : Nat) : Int)))])), (w, .inl (cI, 320, .inl (zz_A (zz_u (ck_bs (160 * r) Rw f) (160 * r + j) (c))))), (y, .inl (cI, 2, .inl (zz_A (Ln))))] H := hP
  have hD : va_D (zz_F [(o, .inr (5, [.int (zz_I (th)), .ref t, .ref z, .int (zz_I (((k : Nat) : Int))), .ref w, .ref y, .ref d, .int (zz_I (((bg : Nat) : Int)))])), (w, .inl (cI, 320, .inl (zz_A (ck_bs (160 * r) Rw f)))), (y, .inl (cI, 2, .inl (zz_A (Ln))))]) [(o, .inr (5, [.int (zz_I (th)), .ref t, .ref z, .int (zz_I (((k : Nat) : Int))), .ref w, .ref y, .ref d, .int (zz_I (((bg : Nat) : Int)))])), (w, .inl (cI, 320, .inl (zz_A (zz_u (ck_bs (160 * r) Rw f) (160 * r + j) (c))))), (y, .inl (cI, 2, .inl (zz_A (Ln))))] := hD
  refine lv_aload_n hx hb kd_M_add_18 rfl (lv_at hl 0 rfl) ?_
  refine va_get (D := D) (ci := 5) (v := .ref y) (C := kn_M) (T := kf_M) (N := 8) hx hb hts ki_M hown hK hP 0 rfl rfl 5 (by decide) (hts _ kw_606) (fun _ h9 => h9) rfl kd_M_add_19 ?_
  refine lv_iload_n hx hb kd_M_add_22 rfl (lv_at hl 1 rfl) ?_
  refine lv_dup2_11 hx hb kd_M_add_23 rfl rfl ?_
  refine zz_iald hx hb hK hP 2 0 rfl rfl (by omega) (v := ((j : Nat) : Int)) (hL) kd_M_add_24 ?_
  refine zz_iconst hx hb (v := 1) (rfl) kd_M_add_25 ?_
  refine zz_iadd hx hb (v := ((j + 1 : Nat) : Int)) (by omega) kd_M_add_26 ?_
  refine zz_iast (k := r) hx hb hK hP hD hS 2 0 rfl rfl (by omega) (rfl) kd_M_add_27 (fun H locs hP hD hS => ?_)
  have hP : va_P D kcl [(o, .inr (5, [.int (zz_I (th)), .ref t, .ref z, .int (zz_I (((k : Nat) : Int))), .ref w, .ref y, .ref d, .int (zz_I (((bg : Nat) : Int)))])), (w, .inl (cI, 320, .inl (zz_A (zz_u (ck_bs (160 * r) Rw f) (160 * r + j) (c))))), (y, .inl (cI, 2, .inl (zz_A (zz_u Ln r (((j + 1 : Nat) : Int))))))] H := hP
  have hD : va_D (zz_F [(o, .inr (5, [.int (zz_I (th)), .ref t, .ref z, .int (zz_I (((k : Nat) : Int))), .ref w, .ref y, .ref d, .int (zz_I (((bg : Nat) : Int)))])), (w, .inl (cI, 320, .inl (zz_A (ck_bs (160 * r) Rw f)))), (y, .inl (cI, 2, .inl (zz_A (Ln))))]) [(o, .inr (5, [.int (zz_I (th)), .ref t, .ref z, .int (zz_I (((k : Nat) : Int))), .ref w, .ref y, .ref d, .int (zz_I (((bg : Nat) : Int)))])), (w, .inl (cI, 320, .inl (zz_A (zz_u (ck_bs (160 * r) Rw f) (160 * r + j) (c))))), (y, .inl (cI, 2, .inl (zz_A (zz_u Ln r (((j + 1 : Nat) : Int))))))] := hD
  rw [ck_bs_u] at hP
  exact W.vret hx hb hr (zz_endw (()) (rfl) ⟨trivial, hP⟩ hS) hS.2.2 kd_M_add_28
set_option maxHeartbeats 4000000 in
set_option maxRecDepth 100000 in
theorem kc_M_settle (l : Launch) (D : va_G) (cI cW : ClassId) (o : Nat) (t : Nat) (z : Nat) (w : Nat) (y : Nat) (d : Nat) (th : Int) (k : Nat) (bg : Nat) (Ln : Nat → Int) (r : Nat) (n : Nat) (Rw : Nat → Int) (f : Nat → Int) (hr0 : r < 2) (hL : Ln r = ((n : Nat) : Int)) (hn : n ≤ 160) (hg : ck_ok f n) (hN : zz_N [o, w, y]) : Met l ky_M_settle kv_M_settle ({ frames := 2, cells := 0, slots := 0, locals := 42 }) (va_Pc [.ref o, .int (zz_I (((r : Nat) : Int)))] (zz_P D cI cW (va_P D kcl [(o, .inr (5, [.int (zz_I (th)), .ref t, .ref z, .int (zz_I (((k : Nat) : Int))), .ref w, .ref y, .ref d, .int (zz_I (((bg : Nat) : Int)))])), (w, .inl (cI, 320, .inl (zz_A (ck_bs (160 * r) Rw f)))), (y, .inl (cI, 2, .inl (zz_A (Ln))))]))) (zz_Qw (fun (u : Unit) => none) (fun (u : Unit) H => (True) ∧ va_P D kcl [(o, .inr (5, [.int (zz_I (th)), .ref t, .ref z, .int (zz_I (((k : Nat) : Int))), .ref w, .ref y, .ref d, .int (zz_I (((bg : Nat) : Int)))])), (w, .inl (cI, 320, .inl (zz_A (ck_bs (160 * r) Rw (ck_st f n).2)))), (y, .inl (cI, 2, .inl (zz_A (Ln))))] H) (zz_F [(o, .inr (5, [.int (zz_I (th)), .ref t, .ref z, .int (zz_I (((k : Nat) : Int))), .ref w, .ref y, .ref d, .int (zz_I (((bg : Nat) : Int)))])), (w, .inl (cI, 320, .inl (zz_A (ck_bs (160 * r) Rw f)))), (y, .inl (cI, 2, .inl (zz_A (Ln))))])) 0 0 (zz_F [(o, .inr (5, [.int (zz_I (th)), .ref t, .ref z, .int (zz_I (((k : Nat) : Int))), .ref w, .ref y, .ref d, .int (zz_I (((bg : Nat) : Int)))])), (w, .inl (cI, 320, .inl (zz_A (ck_bs (160 * r) Rw f)))), (y, .inl (cI, 2, .inl (zz_A (Ln))))]) := by
  refine Met.ofW (cc := kb_M_settle) (maxL := 5) (ret := none) (by decide) rfl ?_
  intro pg ev sg mg ag bl mt cd s1 Bd hml hv
  obtain ⟨rfl, hP, hK⟩ := hv
  have hP : va_P D kcl [(o, .inr (5, [.int (zz_I (th)), .ref t, .ref z, .int (zz_I (((k : Nat) : Int))), .ref w, .ref y, .ref d, .int (zz_I (((bg : Nat) : Int)))])), (w, .inl (cI, 320, .inl (zz_A (ck_bs (160 * r) Rw f)))), (y, .inl (cI, 2, .inl (zz_A (Ln))))] sg.heap := hP
  have hx := Bd.exec
  have hb := Bd.bytes
  have hr := Bd.returns
  have hlocks := Bd.notSynchronized
  have hts : ∀ w ∈ zz_tbl, w.before _ sg = true := fun w h => atoms_spec (ws := kv_M_settle) Bd.pre w (List.mem_cons_of_mem _ h)
  have hown : sg.vm.findClass kn_M = some mg.cls := findClass_of_methodNamed Bd.named
  have hD : va_D (zz_F [(o, .inr (5, [.int (zz_I (th)), .ref t, .ref z, .int (zz_I (((k : Nat) : Int))), .ref w, .ref y, .ref d, .int (zz_I (((bg : Nat) : Int)))])), (w, .inl (cI, 320, .inl (zz_A (ck_bs (160 * r) Rw f)))), (y, .inl (cI, 2, .inl (zz_A (Ln))))]) [(o, .inr (5, [.int (zz_I (th)), .ref t, .ref z, .int (zz_I (((k : Nat) : Int))), .ref w, .ref y, .ref d, .int (zz_I (((bg : Nat) : Int)))])), (w, .inl (cI, 320, .inl (zz_A (ck_bs (160 * r) Rw f)))), (y, .inl (cI, 2, .inl (zz_A (Ln))))] := zz_Dof hN rfl
  have hS : va_S (zz_F [(o, .inr (5, [.int (zz_I (th)), .ref t, .ref z, .int (zz_I (((k : Nat) : Int))), .ref w, .ref y, .ref d, .int (zz_I (((bg : Nat) : Int)))])), (w, .inl (cI, 320, .inl (zz_A (ck_bs (160 * r) Rw f)))), (y, .inl (cI, 2, .inl (zz_A (Ln))))]) sg.heap sg.heap [] := va_S.rf
  have hl := lv_entry ([.ref o, .int (zz_I (((r : Nat) : Int)))]) (n := 5) (Nat.le_of_ble_eq_true rfl)
  rw [lg_entry_eq]
  generalize (lg_sl ([.ref o, .int (zz_I (((r : Nat) : Int)))]) ++ List.replicate (5 - (lg_sl ([.ref o, .int (zz_I (((r : Nat) : Int)))])).length) Slot.unset).toArray = ls at hl ⊢
  have hl : lv_has ls 5 [(0, .ref o), (1, .int (zz_I (((r : Nat) : Int))))] := hl
  refine zz_iconst hx hb (v := 1) (rfl) kd_M_settle_0 ?_
  refine lv_istore_n hx hb kd_M_settle_1 rfl hl (by decide) rfl (fun ls hl => ?_)
  have hl : lv_has ls 5 [(2, .int (zz_I (1))), (0, .ref o), (1, .int (zz_I (((r : Nat) : Int))))] := hl
  have lp2 : ∀ (fuel : Nat) (j : Nat) (ls : Array Slot) (H : Heap) (locs : List Loc), n - j < fuel → (1 ≤ j) → (j ≤ max n 1) → lv_has ls 5 [(0, .ref o), (1, .int (zz_I (((r : Nat) : Int)))), (2, .int (zz_I (((j : Nat) : Int))))] → va_P D kcl [(o, .inr (5, [.int (zz_I (th)), .ref t, .ref z, .int (zz_I (((k : Nat) : Int))), .ref w, .ref y, .ref d, .int (zz_I (((bg : Nat) : Int)))])), (w, .inl (cI, 320, .inl (zz_A (ck_bs (160 * r) Rw (ck_st f j).2)))), (y, .inl (cI, 2, .inl (zz_A (Ln))))] H → va_D (zz_F [(o, .inr (5, [.int (zz_I (th)), .ref t, .ref z, .int (zz_I (((k : Nat) : Int))), .ref w, .ref y, .ref d, .int (zz_I (((bg : Nat) : Int)))])), (w, .inl (cI, 320, .inl (zz_A (ck_bs (160 * r) Rw f)))), (y, .inl (cI, 2, .inl (zz_A (Ln))))]) [(o, .inr (5, [.int (zz_I (th)), .ref t, .ref z, .int (zz_I (((k : Nat) : Int))), .ref w, .ref y, .ref d, .int (zz_I (((bg : Nat) : Int)))])), (w, .inl (cI, 320, .inl (zz_A (ck_bs (160 * r) Rw (ck_st f j).2)))), (y, .inl (cI, 2, .inl (zz_A (Ln))))] → va_S (zz_F [(o, .inr (5, [.int (zz_I (th)), .ref t, .ref z, .int (zz_I (((k : Nat) : Int))), .ref w, .ref y, .ref d, .int (zz_I (((bg : Nat) : Int)))])), (w, .inl (cI, 320, .inl (zz_A (ck_bs (160 * r) Rw f)))), (y, .inl (cI, 2, .inl (zz_A (Ln))))]) sg.heap H locs → W pg l ev (headSpec kv_M_settle ({ frames := 2, cells := 0, slots := 0, locals := 42 })).room sg mg [.ref o, .int (zz_I (((r : Nat) : Int)))].toArray bl mt cd H locs 0 0 (MQ bl (zz_Qw (fun (u : Unit) => none) (fun (u : Unit) H => (True) ∧ va_P D kcl [(o, .inr (5, [.int (zz_I (th)), .ref t, .ref z, .int (zz_I (((k : Nat) : Int))), .ref w, .ref y, .ref d, .int (zz_I (((bg : Nat) : Int)))])), (w, .inl (cI, 320, .inl (zz_A (ck_bs (160 * r) Rw (ck_st f n).2)))), (y, .inl (cI, 2, .inl (zz_A (Ln))))] H) (zz_F [(o, .inr (5, [.int (zz_I (th)), .ref t, .ref z, .int (zz_I (((k : Nat) : Int))), .ref w, .ref y, .ref d, .int (zz_I (((bg : Nat) : Int)))])), (w, .inl (cI, 320, .inl (zz_A (ck_bs (160 * r) Rw f)))), (y, .inl (cI, 2, .inl (zz_A (Ln))))])) [.ref o, .int (zz_I (((r : Nat) : Int)))].toArray sg 0 0 (zz_F [(o, .inr (5, [.int (zz_I (th)), .ref t, .ref z, .int (zz_I (((k : Nat) : Int))), .ref w, .ref y, .ref d, .int (zz_I (((bg : Nat) : Int)))])), (w, .inl (cI, 320, .inl (zz_A (ck_bs (160 * r) Rw f)))), (y, .inl (cI, 2, .inl (zz_A (Ln))))])) (F0 mg 2 ls []) := by
    intro fuel
    induction fuel with
    | zero => intro j ls H locs hfu; exact absurd hfu (Nat.not_lt_zero _)
    | succ fuel ih2 =>
      intro j ls H locs hfu h1 hk hl hP hD hS
      refine lv_iload_n hx hb kd_M_settle_2 rfl (lv_at hl 2 rfl) ?_
      refine lv_aload_n hx hb kd_M_settle_3 rfl (lv_at hl 0 rfl) ?_
      refine va_get (D := D) (ci := 5) (v := .ref y) (C := kn_M) (T := kf_M) (N := 8) hx hb hts ki_M hown hK hP 0 rfl rfl 5 (by decide) (hts _ kw_606) (fun _ h9 => h9) rfl kd_M_settle_4 ?_
      refine lv_iload_n hx hb kd_M_settle_7 rfl (lv_at hl 1 rfl) ?_
      refine zz_iald hx hb hK hP 2 0 rfl rfl (by omega) (v := ((n : Nat) : Int)) (hL) kd_M_settle_8 ?_
      refine zz_icmp_ge (tgt := 122) hx hb kd_M_settle_9 (by decide) (by omega) (fun hbr9 => ?_) (fun hbr9 => ?_)
      · rw [ck_st_end h1 hk hbr9] at hP
        exact W.vret hx hb hr (zz_endw (()) (rfl) ⟨trivial, hP⟩ hS) hS.2.2 kd_M_settle_122
      · refine zz_sipush hx hb kd_M_settle_12 (by decide) ?_
        refine lv_iload_n hx hb kd_M_settle_15 rfl (lv_at hl 1 rfl) ?_
        refine zz_imul hx hb (v := 160 * ((r : Nat) : Int)) (rfl) kd_M_settle_16 ?_
        refine lv_iload_n hx hb kd_M_settle_17 rfl (lv_at hl 2 rfl) ?_
        refine zz_iadd hx hb (v := ((160 * r + j : Nat) : Int)) (by omega) kd_M_settle_18 ?_
        refine lv_istore_n hx hb kd_M_settle_19 rfl hl (by decide) rfl (fun ls hl => ?_)
        have hl : lv_has ls 5 [(3, .int (zz_I (((160 * r + j : Nat) : Int)))), (0, .ref o), (1, .int (zz_I (((r : Nat) : Int)))), (2, .int (zz_I (((j : Nat) : Int))))] := hl
        have lp20 : ∀ (fuel : Nat) (p : Nat) (ls : Array Slot) (H : Heap) (locs : List Loc), p < fuel → (p ≤ j) → (ck_ps (ck_st f j).2 (f j) p = ck_ps (ck_st f j).2 (f j) j) → lv_has ls 5 [(0, .ref o), (1, .int (zz_I (((r : Nat) : Int)))), (2, .int (zz_I (((j : Nat) : Int)))), (3, .int (zz_I (((160 * r + p : Nat) : Int))))] → va_P D kcl [(o, .inr (5, [.int (zz_I (th)), .ref t, .ref z, .int (zz_I (((k : Nat) : Int))), .ref w, .ref y, .ref d, .int (zz_I (((bg : Nat) : Int)))])), (w, .inl (cI, 320, .inl (zz_A (ck_bs (160 * r) Rw (zz_u (ck_mv (ck_st f j).2 p j) p (f j)))))), (y, .inl (cI, 2, .inl (zz_A (Ln))))] H → va_D (zz_F [(o, .inr (5, [.int (zz_I (th)), .ref t, .ref z, .int (zz_I (((k : Nat) : Int))), .ref w, .ref y, .ref d, .int (zz_I (((bg : Nat) : Int)))])), (w, .inl (cI, 320, .inl (zz_A (ck_bs (160 * r) Rw f)))), (y, .inl (cI, 2, .inl (zz_A (Ln))))]) [(o, .inr (5, [.int (zz_I (th)), .ref t, .ref z, .int (zz_I (((k : Nat) : Int))), .ref w, .ref y, .ref d, .int (zz_I (((bg : Nat) : Int)))])), (w, .inl (cI, 320, .inl (zz_A (ck_bs (160 * r) Rw (zz_u (ck_mv (ck_st f j).2 p j) p (f j)))))), (y, .inl (cI, 2, .inl (zz_A (Ln))))] → va_S (zz_F [(o, .inr (5, [.int (zz_I (th)), .ref t, .ref z, .int (zz_I (((k : Nat) : Int))), .ref w, .ref y, .ref d, .int (zz_I (((bg : Nat) : Int)))])), (w, .inl (cI, 320, .inl (zz_A (ck_bs (160 * r) Rw f)))), (y, .inl (cI, 2, .inl (zz_A (Ln))))]) sg.heap H locs → W pg l ev (headSpec kv_M_settle ({ frames := 2, cells := 0, slots := 0, locals := 42 })).room sg mg [.ref o, .int (zz_I (((r : Nat) : Int)))].toArray bl mt cd H locs 0 0 (MQ bl (zz_Qw (fun (u : Unit) => none) (fun (u : Unit) H => (True) ∧ va_P D kcl [(o, .inr (5, [.int (zz_I (th)), .ref t, .ref z, .int (zz_I (((k : Nat) : Int))), .ref w, .ref y, .ref d, .int (zz_I (((bg : Nat) : Int)))])), (w, .inl (cI, 320, .inl (zz_A (ck_bs (160 * r) Rw (ck_st f n).2)))), (y, .inl (cI, 2, .inl (zz_A (Ln))))] H) (zz_F [(o, .inr (5, [.int (zz_I (th)), .ref t, .ref z, .int (zz_I (((k : Nat) : Int))), .ref w, .ref y, .ref d, .int (zz_I (((bg : Nat) : Int)))])), (w, .inl (cI, 320, .inl (zz_A (ck_bs (160 * r) Rw f)))), (y, .inl (cI, 2, .inl (zz_A (Ln))))])) [.ref o, .int (zz_I (((r : Nat) : Int)))].toArray sg 0 0 (zz_F [(o, .inr (5, [.int (zz_I (th)), .ref t, .ref z, .int (zz_I (((k : Nat) : Int))), .ref w, .ref y, .ref d, .int (zz_I (((bg : Nat) : Int)))])), (w, .inl (cI, 320, .inl (zz_A (ck_bs (160 * r) Rw f)))), (y, .inl (cI, 2, .inl (zz_A (Ln))))])) (F0 mg 20 ls []) := by
          intro fuel
          induction fuel with
          | zero => intro p ls H locs hfu; exact absurd hfu (Nat.not_lt_zero _)
          | succ fuel ih20 =>
            intro p ls H locs hfu hp0 hq hl hP hD hS
            refine lv_iload_n hx hb kd_M_settle_20 rfl (lv_at hl 3 rfl) ?_
            refine zz_sipush hx hb kd_M_settle_21 (by decide) ?_
            refine lv_iload_n hx hb kd_M_settle_24 rfl (lv_at hl 1 rfl) ?_
            refine zz_imul hx hb (v := 160 * ((r : Nat) : Int)) (rfl) kd_M_settle_25 ?_
            refine zz_icmp_le (tgt := 116) hx hb kd_M_settle_26 (by decide) (by omega) (fun hbr26 => ?_) (fun hbr26 => ?_)
            · have hp : p = ck_ps (ck_st f j).2 (f j) j := by rw [← hq, show p = 0 by omega, ck_ps_0]
              refine zz_iinc (k := 2) hx hb kd_M_settle_116 hl rfl rfl (by decide) rfl (fun ls hl => ?_)
              have hl : lv_has ls 5 [(2, .int (zz_I (((j : Nat) : Int) + 1))), (0, .ref o), (1, .int (zz_I (((r : Nat) : Int)))), (3, .int (zz_I (((160 * r + p : Nat) : Int))))] := hl
              refine lv_goto (tgt := 2) hx hb kd_M_settle_119 (by decide) ?_
              rw [hp, ck_st_in] at hP hD
              exact ih2 (j + 1) ls _ _ (by omega) (by omega) (by omega) (lv_sub hl [1, 2, 0] rfl) hP hD hS
            · refine lv_aload_n hx hb kd_M_settle_29 rfl (lv_at hl 0 rfl) ?_
              refine va_get (D := D) (ci := 5) (v := .ref w) (C := kn_M) (T := kf_M) (N := 8) hx hb hts ki_M hown hK hP 0 rfl rfl 4 (by decide) (hts _ kw_605) (fun _ h9 => h9) rfl kd_M_settle_30 ?_
              refine lv_iload_n hx hb kd_M_settle_33 rfl (lv_at hl 3 rfl) ?_
              refine zz_iald hx hb hK hP 1 0 rfl rfl (by omega) (v := f j) ((ck_bs_at (q := p)).trans zz_us) kd_M_settle_34 ?_
              refine zz_pS ⟨hx, hb, hml, hown, hts⟩ hK (kc_M_isMark l D cI cW (f j) (by have := hg j (by omega); omega) rfl) (zz_gS kw_664 kw_665 kw_31 kw_666) ⟨rfl, rfl⟩ kh_M_isMark ⟨Nat.le_of_ble_eq_true rfl, Nat.le_of_ble_eq_true rfl⟩  trivial rfl hl.1 rfl (Nat.le_of_ble_eq_true rfl) kd_M_settle_35 ⟨Nat.le_of_ble_eq_true rfl, Nat.le_of_ble_eq_true rfl⟩ ?_
              refine zz_ifb_eq (tgt := 116) hx hb kd_M_settle_38 (by decide) (fun hbr38 => ?_) (fun hbr38 => ?_)
              · have hp : p = ck_ps (ck_st f j).2 (f j) j := by rw [← hq, ck_ps_no (by assumption)]
                refine zz_iinc (k := 2) hx hb kd_M_settle_116 hl rfl rfl (by decide) rfl (fun ls hl => ?_)
                have hl : lv_has ls 5 [(2, .int (zz_I (((j : Nat) : Int) + 1))), (0, .ref o), (1, .int (zz_I (((r : Nat) : Int)))), (3, .int (zz_I (((160 * r + p : Nat) : Int))))] := hl
                refine lv_goto (tgt := 2) hx hb kd_M_settle_119 (by decide) ?_
                rw [hp, ck_st_in] at hP hD
                exact ih2 (j + 1) ls _ _ (by omega) (by omega) (by omega) (lv_sub hl [1, 2, 0] rfl) hP hD hS
              · refine lv_aload_n hx hb kd_M_settle_41 rfl (lv_at hl 0 rfl) ?_
                refine va_get (D := D) (ci := 5) (v := .ref w) (C := kn_M) (T := kf_M) (N := 8) hx hb hts ki_M hown hK hP 0 rfl rfl 4 (by decide) (hts _ kw_605) (fun _ h9 => h9) rfl kd_M_settle_42 ?_
                refine lv_iload_n hx hb kd_M_settle_45 rfl (lv_at hl 3 rfl) ?_
                refine zz_iconst hx hb (v := 1) (rfl) kd_M_settle_46 ?_
                refine zz_isub hx hb (v := ((160 * r + (p - 1) : Nat) : Int)) (by omega) kd_M_settle_47 ?_
                refine zz_iald hx hb hK hP 1 0 rfl rfl (by omega) (v := (ck_st f j).2 (p - 1)) ((ck_bs_at (q := p - 1)).trans (ck_um1 (by omega))) kd_M_settle_48 ?_
                refine zz_pS ⟨hx, hb, hml, hown, hts⟩ hK (kc_M_isMark l D cI cW ((ck_st f j).2 (p - 1)) (by have := ck_st_ok (f := f) j (fun q hq => hg q (by omega)) (p - 1) (by omega); omega) rfl) (zz_gS kw_664 kw_665 kw_31 kw_666) ⟨rfl, rfl⟩ kh_M_isMark ⟨Nat.le_of_ble_eq_true rfl, Nat.le_of_ble_eq_true rfl⟩  trivial rfl hl.1 rfl (Nat.le_of_ble_eq_true rfl) kd_M_settle_49 ⟨Nat.le_of_ble_eq_true rfl, Nat.le_of_ble_eq_true rfl⟩ ?_
                refine zz_ifb_eq (tgt := 116) hx hb kd_M_settle_52 (by decide) (fun hbr52 => ?_) (fun hbr52 => ?_)
                · have hp : p = ck_ps (ck_st f j).2 (f j) j := by rw [← hq, ck_ps_nx (by omega) (by assumption) (by assumption)]
                  refine zz_iinc (k := 2) hx hb kd_M_settle_116 hl rfl rfl (by decide) rfl (fun ls hl => ?_)
                  have hl : lv_has ls 5 [(2, .int (zz_I (((j : Nat) : Int) + 1))), (0, .ref o), (1, .int (zz_I (((r : Nat) : Int)))), (3, .int (zz_I (((160 * r + p : Nat) : Int))))] := hl
                  refine lv_goto (tgt := 2) hx hb kd_M_settle_119 (by decide) ?_
                  rw [hp, ck_st_in] at hP hD
                  exact ih2 (j + 1) ls _ _ (by omega) (by omega) (by omega) (lv_sub hl [1, 2, 0] rfl) hP hD hS
                · refine lv_aload_n hx hb kd_M_settle_55 rfl (lv_at hl 0 rfl) ?_
                  refine va_get (D := D) (ci := 5) (v := .ref w) (C := kn_M) (T := kf_M) (N := 8) hx hb hts ki_M hown hK hP 0 rfl rfl 4 (by decide) (hts _ kw_605) (fun _ h9 => h9) rfl kd_M_settle_56 ?_
                  refine lv_iload_n hx hb kd_M_settle_59 rfl (lv_at hl 3 rfl) ?_
                  refine zz_iald hx hb hK hP 1 0 rfl rfl (by omega) (v := f j) ((ck_bs_at (q := p)).trans zz_us) kd_M_settle_60 ?_
                  refine zz_pS ⟨hx, hb, hml, hown, hts⟩ hK (kc_M_classOf l D cI cW (f j) (by have := hg j (by omega); omega) rfl) (zz_gS kw_670 kw_671 kw_31 kw_672) ⟨rfl, rfl⟩ kh_M_classOf ⟨Nat.le_of_ble_eq_true rfl, Nat.le_of_ble_eq_true rfl⟩  trivial rfl hl.1 rfl (Nat.le_of_ble_eq_true rfl) kd_M_settle_61 ⟨Nat.le_of_ble_eq_true rfl, Nat.le_of_ble_eq_true rfl⟩ ?_
                  refine lv_aload_n hx hb kd_M_settle_64 rfl (lv_at hl 0 rfl) ?_
                  refine va_get (D := D) (ci := 5) (v := .ref w) (C := kn_M) (T := kf_M) (N := 8) hx hb hts ki_M hown hK hP 0 rfl rfl 4 (by decide) (hts _ kw_605) (fun _ h9 => h9) rfl kd_M_settle_65 ?_
                  refine lv_iload_n hx hb kd_M_settle_68 rfl (lv_at hl 3 rfl) ?_
                  refine zz_iconst hx hb (v := 1) (rfl) kd_M_settle_69 ?_
                  refine zz_isub hx hb (v := ((160 * r + (p - 1) : Nat) : Int)) (by omega) kd_M_settle_70 ?_
                  refine zz_iald hx hb hK hP 1 0 rfl rfl (by omega) (v := (ck_st f j).2 (p - 1)) ((ck_bs_at (q := p - 1)).trans (ck_um1 (by omega))) kd_M_settle_71 ?_
                  refine zz_pS ⟨hx, hb, hml, hown, hts⟩ hK (kc_M_classOf l D cI cW ((ck_st f j).2 (p - 1)) (by have := ck_st_ok (f := f) j (fun q hq => hg q (by omega)) (p - 1) (by omega); omega) rfl) (zz_gS kw_670 kw_671 kw_31 kw_672) ⟨rfl, rfl⟩ kh_M_classOf ⟨Nat.le_of_ble_eq_true rfl, Nat.le_of_ble_eq_true rfl⟩  trivial rfl hl.1 rfl (Nat.le_of_ble_eq_true rfl) kd_M_settle_72 ⟨Nat.le_of_ble_eq_true rfl, Nat.le_of_ble_eq_true rfl⟩ ?_
                  refine zz_icmp_ge (tgt := 116) hx hb kd_M_settle_75 (by decide) (by have := ck_mc_rg (f j); have := ck_mc_rg ((ck_st f j).2 (p - 1)); omega) (fun hbr75 => ?_) (fun hbr75 => ?_)
                  · have hp : p = ck_ps (ck_st f j).2 (f j) j := by rw [← hq, ck_ps_ge (by omega) (by assumption) (by assumption) (by omega)]
                    refine zz_iinc (k := 2) hx hb kd_M_settle_116 hl rfl rfl (by decide) rfl (fun ls hl => ?_)
                    have hl : lv_has ls 5 [(2, .int (zz_I (((j : Nat) : Int) + 1))), (0, .ref o), (1, .int (zz_I (((r : Nat) : Int)))), (3, .int (zz_I (((160 * r + p : Nat) : Int))))] := hl
                    refine lv_goto (tgt := 2) hx hb kd_M_settle_119 (by decide) ?_
                    rw [hp, ck_st_in] at hP hD
                    exact ih2 (j + 1) ls _ _ (by omega) (by omega) (by omega) (lv_sub hl [1, 2, 0] rfl) hP hD hS
                  · refine lv_aload_n hx hb kd_M_settle_78 rfl (lv_at hl 0 rfl) ?_
                    refine va_get (D := D) (ci := 5) (v := .ref w) (C := kn_M) (T := kf_M) (N := 8) hx hb hts ki_M hown hK hP 0 rfl rfl 4 (by decide) (hts _ kw_605) (fun _ h9 => h9) rfl kd_M_settle_79 ?_
                    refine lv_iload_n hx hb kd_M_settle_82 rfl (lv_at hl 3 rfl) ?_
                    refine zz_iald hx hb hK hP 1 0 rfl rfl (by omega) (v := f j) ((ck_bs_at (q := p)).trans zz_us) kd_M_settle_83 ?_
                    refine lv_istore hx hb kd_M_settle_84 hl (by decide) rfl (fun ls hl => ?_)
                    have hl : lv_has ls 5 [(4, .int (zz_I (f j))), (0, .ref o), (1, .int (zz_I (((r : Nat) : Int)))), (2, .int (zz_I (((j : Nat) : Int)))), (3, .int (zz_I (((160 * r + p : Nat) : Int))))] := hl
                    refine lv_aload_n hx hb kd_M_settle_86 rfl (lv_at hl 1 rfl) ?_
                    refine va_get (D := D) (ci := 5) (v := .ref w) (C := kn_M) (T := kf_M) (N := 8) hx hb hts ki_M hown hK hP 0 rfl rfl 4 (by decide) (hts _ kw_605) (fun _ h9 => h9) rfl kd_M_settle_87 ?_
                    refine lv_iload_n hx hb kd_M_settle_90 rfl (lv_at hl 4 rfl) ?_
                    refine lv_aload_n hx hb kd_M_settle_91 rfl (lv_at hl 1 rfl) ?_
                    refine va_get (D := D) (ci := 5) (v := .ref w) (C := kn_M) (T := kf_M) (N := 8) hx hb hts ki_M hown hK hP 0 rfl rfl 4 (by decide) (hts _ kw_605) (fun _ h9 => h9) rfl kd_M_settle_92 ?_
                    refine lv_iload_n hx hb kd_M_settle_95 rfl (lv_at hl 4 rfl) ?_
                    refine zz_iconst hx hb (v := 1) (rfl) kd_M_settle_96 ?_
                    refine zz_isub hx hb (v := ((160 * r + (p - 1) : Nat) : Int)) (by omega) kd_M_settle_97 ?_
                    refine zz_iald hx hb hK hP 1 0 rfl rfl (by omega) (v := (ck_st f j).2 (p - 1)) ((ck_bs_at (q := p - 1)).trans (ck_um1 (by omega))) kd_M_settle_98 ?_
                    refine zz_iast (k := 160 * r + p) hx hb hK hP hD hS 1 0 rfl rfl (by omega) (rfl) kd_M_settle_99 (fun H locs hP hD hS => ?_)
                    have hP : va_P D kcl [(o, .inr (5, [.int (zz_I (th)), .ref t, .ref z, .int (zz_I (((k : Nat) : Int))), .ref w, .ref y, .ref d, .int (zz_I (((bg : Nat) : Int)))])), (w, .inl (cI, 320, .inl (zz_A (zz_u (ck_bs (160 * r) Rw (zz_u (ck_mv (ck_st f j).2 p j) p (f j))) (160 * r + p) ((ck_st f j).2 (p - 1)))))), (y, .inl (cI, 2, .inl (zz_A (Ln))))] H := hP
                    have hD : va_D (zz_F [(o, .inr (5, [.int (zz_I (th)), .ref t, .ref z, .int (zz_I (((k : Nat) : Int))), .ref w, .ref y, .ref d, .int (zz_I (((bg : Nat) : Int)))])), (w, .inl (cI, 320, .inl (zz_A (ck_bs (160 * r) Rw f)))), (y, .inl (cI, 2, .inl (zz_A (Ln))))]) [(o, .inr (5, [.int (zz_I (th)), .ref t, .ref z, .int (zz_I (((k : Nat) : Int))), .ref w, .ref y, .ref d, .int (zz_I (((bg : Nat) : Int)))])), (w, .inl (cI, 320, .inl (zz_A (zz_u (ck_bs (160 * r) Rw (zz_u (ck_mv (ck_st f j).2 p j) p (f j))) (160 * r + p) ((ck_st f j).2 (p - 1)))))), (y, .inl (cI, 2, .inl (zz_A (Ln))))] := hD
                    refine lv_aload_n hx hb kd_M_settle_100 rfl (lv_at hl 1 rfl) ?_
                    refine va_get (D := D) (ci := 5) (v := .ref w) (C := kn_M) (T := kf_M) (N := 8) hx hb hts ki_M hown hK hP 0 rfl rfl 4 (by decide) (hts _ kw_605) (fun _ h9 => h9) rfl kd_M_settle_101 ?_
                    refine lv_iload_n hx hb kd_M_settle_104 rfl (lv_at hl 4 rfl) ?_
                    refine zz_iconst hx hb (v := 1) (rfl) kd_M_settle_105 ?_
                    refine zz_isub hx hb (v := ((160 * r + (p - 1) : Nat) : Int)) (by omega) kd_M_settle_106 ?_
                    refine lv_iload hx hb kd_M_settle_107 (lv_at hl 0 rfl) ?_
                    refine zz_iast (k := 160 * r + (p - 1)) hx hb hK hP hD hS 1 0 rfl rfl (by omega) (rfl) kd_M_settle_109 (fun H locs hP hD hS => ?_)
                    have hP : va_P D kcl [(o, .inr (5, [.int (zz_I (th)), .ref t, .ref z, .int (zz_I (((k : Nat) : Int))), .ref w, .ref y, .ref d, .int (zz_I (((bg : Nat) : Int)))])), (w, .inl (cI, 320, .inl (zz_A (zz_u (zz_u (ck_bs (160 * r) Rw (zz_u (ck_mv (ck_st f j).2 p j) p (f j))) (160 * r + p) ((ck_st f j).2 (p - 1))) (160 * r + (p - 1)) (f j))))), (y, .inl (cI, 2, .inl (zz_A (Ln))))] H := hP
                    have hD : va_D (zz_F [(o, .inr (5, [.int (zz_I (th)), .ref t, .ref z, .int (zz_I (((k : Nat) : Int))), .ref w, .ref y, .ref d, .int (zz_I (((bg : Nat) : Int)))])), (w, .inl (cI, 320, .inl (zz_A (ck_bs (160 * r) Rw f)))), (y, .inl (cI, 2, .inl (zz_A (Ln))))]) [(o, .inr (5, [.int (zz_I (th)), .ref t, .ref z, .int (zz_I (((k : Nat) : Int))), .ref w, .ref y, .ref d, .int (zz_I (((bg : Nat) : Int)))])), (w, .inl (cI, 320, .inl (zz_A (zz_u (zz_u (ck_bs (160 * r) Rw (zz_u (ck_mv (ck_st f j).2 p j) p (f j))) (160 * r + p) ((ck_st f j).2 (p - 1))) (160 * r + (p - 1)) (f j))))), (y, .inl (cI, 2, .inl (zz_A (Ln))))] := hD
                    refine zz_iinc (k := 4) hx hb kd_M_settle_110 hl rfl rfl (by decide) rfl (fun ls hl => ?_)
                    have hl : lv_has ls 5 [(3, .int (zz_I (((160 * r + p : Nat) : Int) + (-1)))), (4, .int (zz_I (f j))), (0, .ref o), (1, .int (zz_I (((r : Nat) : Int)))), (2, .int (zz_I (((j : Nat) : Int))))] := hl
                    refine lv_goto (tgt := 20) hx hb kd_M_settle_113 (by decide) ?_
                    rw [ck_bs_u, ck_bs_u, ck_swap2 (by omega) (by omega)] at hP hD
                    rw [show ((160 * r + p : Nat) : Int) + (-1) = ((160 * r + (p - 1) : Nat) : Int) by omega] at hl
                    exact ih20 (p - 1) ls _ _ (by omega) (by omega) ((ck_ps_go (by omega) (by assumption) (by assumption) (by omega)).trans hq) (lv_sub hl [2, 3, 4, 0] rfl) hP hD hS
        have hP : va_P D kcl [(o, .inr (5, [.int (zz_I (th)), .ref t, .ref z, .int (zz_I (((k : Nat) : Int))), .ref w, .ref y, .ref d, .int (zz_I (((bg : Nat) : Int)))])), (w, .inl (cI, 320, .inl (zz_A (ck_bs (160 * r) Rw (zz_u (ck_mv (ck_st f j).2 j j) j (f j)))))), (y, .inl (cI, 2, .inl (zz_A (Ln))))] H := by rw [ck_ins_id]; exact hP
        have hD : va_D (zz_F [(o, .inr (5, [.int (zz_I (th)), .ref t, .ref z, .int (zz_I (((k : Nat) : Int))), .ref w, .ref y, .ref d, .int (zz_I (((bg : Nat) : Int)))])), (w, .inl (cI, 320, .inl (zz_A (ck_bs (160 * r) Rw f)))), (y, .inl (cI, 2, .inl (zz_A (Ln))))]) [(o, .inr (5, [.int (zz_I (th)), .ref t, .ref z, .int (zz_I (((k : Nat) : Int))), .ref w, .ref y, .ref d, .int (zz_I (((bg : Nat) : Int)))])), (w, .inl (cI, 320, .inl (zz_A (ck_bs (160 * r) Rw (zz_u (ck_mv (ck_st f j).2 j j) j (f j)))))), (y, .inl (cI, 2, .inl (zz_A (Ln))))] := by rw [ck_ins_id]; exact hD
        exact lp20 _ j ls _ _ (Nat.lt_succ_self _) (Nat.le_refl _) (rfl) (lv_sub hl [1, 2, 3, 0] rfl) hP hD hS
  have hP : va_P D kcl [(o, .inr (5, [.int (zz_I (th)), .ref t, .ref z, .int (zz_I (((k : Nat) : Int))), .ref w, .ref y, .ref d, .int (zz_I (((bg : Nat) : Int)))])), (w, .inl (cI, 320, .inl (zz_A (ck_bs (160 * r) Rw (ck_st f 1).2)))), (y, .inl (cI, 2, .inl (zz_A (Ln))))] sg.heap := by rw [ck_st_1]; exact hP
  have hD : va_D (zz_F [(o, .inr (5, [.int (zz_I (th)), .ref t, .ref z, .int (zz_I (((k : Nat) : Int))), .ref w, .ref y, .ref d, .int (zz_I (((bg : Nat) : Int)))])), (w, .inl (cI, 320, .inl (zz_A (ck_bs (160 * r) Rw f)))), (y, .inl (cI, 2, .inl (zz_A (Ln))))]) [(o, .inr (5, [.int (zz_I (th)), .ref t, .ref z, .int (zz_I (((k : Nat) : Int))), .ref w, .ref y, .ref d, .int (zz_I (((bg : Nat) : Int)))])), (w, .inl (cI, 320, .inl (zz_A (ck_bs (160 * r) Rw (ck_st f 1).2)))), (y, .inl (cI, 2, .inl (zz_A (Ln))))] := by rw [ck_st_1]; exact hD
  exact lp2 _ 1 ls _ _ (Nat.lt_succ_self _) (Nat.le_refl _) (by omega) (lv_sub hl [1, 2, 0] rfl) hP hD hS
