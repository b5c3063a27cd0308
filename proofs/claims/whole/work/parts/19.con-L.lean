set_option maxHeartbeats 4000000 in
set_option maxRecDepth 100000 in
theorem kc_L_count (l : Launch) (D : va_G) (cI cW : ClassId) (o : Nat) (p : Nat) (q : Nat) (k : Nat)  {v : Int} (hv : ((k : Nat) : Int) = v) : Met l ky_L_count kv_L_count ({ frames := 0, cells := 0, slots := 0, locals := 0 }) (va_Pc [.ref o] (zz_P D cI cW (va_P D kcl [(o, .inr (2, [.ref p, .ref q, .int (zz_I (((k : Nat) : Int)))]))]))) (zz_Qp (.int (zz_I v))) 0 0 (fun _ => False) := by
  subst hv
  refine Met.ofW (cc := kb_L_count) (maxL := 1) (ret := (some .int)) (by decide) rfl ?_
  intro pg ev sg mg ag bl mt cd s1 Bd hml hv
  obtain ⟨rfl, hP, hK⟩ := hv
  have hP : va_P D kcl [(o, .inr (2, [.ref p, .ref q, .int (zz_I (((k : Nat) : Int)))]))] sg.heap := hP
  have hx := Bd.exec
  have hb := Bd.bytes
  have hr := Bd.returns
  have hlocks := Bd.notSynchronized
  have hts : ∀ w ∈ zz_tbl, w.before _ sg = true := fun w h => atoms_spec (ws := kv_L_count) Bd.pre w (List.mem_cons_of_mem _ h)
  have hown : sg.vm.findClass kn_L = some mg.cls := findClass_of_methodNamed Bd.named
  have hl := lv_entry ([.ref o]) (n := 1) (Nat.le_of_ble_eq_true rfl)
  rw [lg_entry_eq]
  generalize (lg_sl ([.ref o]) ++ List.replicate (1 - (lg_sl ([.ref o])).length) Slot.unset).toArray = ls at hl ⊢
  have hl : lv_has ls 1 [(0, .ref o)] := hl
  refine lv_aload_n hx hb kd_L_count_0 rfl (lv_at hl 0 rfl) ?_
  refine va_get (D := D) (ci := 2) (v := .int (zz_I (((k : Nat) : Int)))) (C := kn_L) (T := kf_L) (N := 3) hx hb hts ki_L hown hK hP 0 rfl rfl 2 (by decide) (hts _ kw_101) (fun _ h9 => h9) rfl kd_L_count_1 ?_
  exact W.iret hx hb hr (zz_endp (by rfl)) (fun _ h => nomatch h) kd_L_count_4
set_option maxHeartbeats 4000000 in
set_option maxRecDepth 100000 in
theorem kc_L_begin (l : Launch) (D : va_G) (cI cW : ClassId) (o : Nat) (p : Nat) (q : Nat) (k : Nat) (B : Nat → Int) (E : Nat → Int) (i : Int) (hk : k ≤ 48) (hi : -2147483648 ≤ i ∧ i ≤ 2147483647) {v : Int} (hv : ck_r0 B k i = v) : Met l ky_L_begin kv_L_begin ({ frames := 0, cells := 0, slots := 0, locals := 0 }) (va_Pc [.ref o, .int (zz_I (i))] (zz_P D cI cW (va_P D kcl [(o, .inr (2, [.ref p, .ref q, .int (zz_I (((k : Nat) : Int)))])), (p, .inl (cI, 48, .inl (zz_A (B)))), (q, .inl (cI, 48, .inl (zz_A (E))))]))) (zz_Qp (.int (zz_I v))) 0 0 (fun _ => False) := by
  subst hv
  refine Met.ofW (cc := kb_L_begin) (maxL := 2) (ret := (some .int)) (by decide) rfl ?_
  intro pg ev sg mg ag bl mt cd s1 Bd hml hv
  obtain ⟨rfl, hP, hK⟩ := hv
  have hP : va_P D kcl [(o, .inr (2, [.ref p, .ref q, .int (zz_I (((k : Nat) : Int)))])), (p, .inl (cI, 48, .inl (zz_A (B)))), (q, .inl (cI, 48, .inl (zz_A (E))))] sg.heap := hP
  have hx := Bd.exec
  have hb := Bd.bytes
  have hr := Bd.returns
  have hlocks := Bd.notSynchronized
  have hts : ∀ w ∈ zz_tbl, w.before _ sg = true := fun w h => atoms_spec (ws := kv_L_begin) Bd.pre w (List.mem_cons_of_mem _ h)
  have hown : sg.vm.findClass kn_L = some mg.cls := findClass_of_methodNamed Bd.named
  have hl := lv_entry ([.ref o, .int (zz_I (i))]) (n := 2) (Nat.le_of_ble_eq_true rfl)
  rw [lg_entry_eq]
  generalize (lg_sl ([.ref o, .int (zz_I (i))]) ++ List.replicate (2 - (lg_sl ([.ref o, .int (zz_I (i))])).length) Slot.unset).toArray = ls at hl ⊢
  have hl : lv_has ls 2 [(0, .ref o), (1, .int (zz_I (i)))] := hl
  refine lv_iload_n hx hb kd_L_begin_0 rfl (lv_at hl 1 rfl) ?_
  refine zz_if_lt (tgt := 12) hx hb kd_L_begin_1 (by decide) (by omega) (fun hbr1 => ?_) (fun hbr1 => ?_)
  · refine zz_iconst hx hb (v := 0) (rfl) kd_L_begin_12 ?_
    refine lv_goto (tgt := 22) hx hb kd_L_begin_13 (by decide) ?_
    exact W.iret hx hb hr (zz_endp (by rw [ck_r0_out (by omega)])) (fun _ h => nomatch h) kd_L_begin_22
  · refine lv_iload_n hx hb kd_L_begin_4 rfl (lv_at hl 1 rfl) ?_
    refine lv_aload_n hx hb kd_L_begin_5 rfl (lv_at hl 0 rfl) ?_
    refine va_get (D := D) (ci := 2) (v := .int (zz_I (((k : Nat) : Int)))) (C := kn_L) (T := kf_L) (N := 3) hx hb hts ki_L hown hK hP 0 rfl rfl 2 (by decide) (hts _ kw_101) (fun _ h9 => h9) rfl kd_L_begin_6 ?_
    refine zz_icmp_lt (tgt := 16) hx hb kd_L_begin_9 (by decide) (by omega) (fun hbr9 => ?_) (fun hbr9 => ?_)
    · refine lv_aload_n hx hb kd_L_begin_16 rfl (lv_at hl 0 rfl) ?_
      refine va_get (D := D) (ci := 2) (v := .ref p) (C := kn_L) (T := kf_L) (N := 3) hx hb hts ki_L hown hK hP 0 rfl rfl 0 (by decide) (hts _ kw_99) (fun _ h9 => h9) rfl kd_L_begin_17 ?_
      refine lv_iload_n hx hb kd_L_begin_20 rfl (lv_at hl 1 rfl) ?_
      refine zz_iald hx hb hK hP 1 0 rfl rfl (by omega) (v := B (i).toNat) (rfl) kd_L_begin_21 ?_
      exact W.iret hx hb hr (zz_endp (by unfold ck_r0; rw [if_pos (by omega)])) (fun _ h => nomatch h) kd_L_begin_22
    · refine zz_iconst hx hb (v := 0) (rfl) kd_L_begin_12 ?_
      refine lv_goto (tgt := 22) hx hb kd_L_begin_13 (by decide) ?_
      exact W.iret hx hb hr (zz_endp (by rw [ck_r0_out (by omega)])) (fun _ h => nomatch h) kd_L_begin_22
set_option maxHeartbeats 4000000 in
set_option maxRecDepth 100000 in
theorem kc_L_end (l : Launch) (D : va_G) (cI cW : ClassId) (o : Nat) (p : Nat) (q : Nat) (k : Nat) (B : Nat → Int) (E : Nat → Int) (i : Int) (hk : k ≤ 48) (hi : -2147483648 ≤ i ∧ i ≤ 2147483647) {v : Int} (hv : ck_r0 E k i = v) : Met l ky_L_end kv_L_end ({ frames := 0, cells := 0, slots := 0, locals := 0 }) (va_Pc [.ref o, .int (zz_I (i))] (zz_P D cI cW (va_P D kcl [(o, .inr (2, [.ref p, .ref q, .int (zz_I (((k : Nat) : Int)))])), (p, .inl (cI, 48, .inl (zz_A (B)))), (q, .inl (cI, 48, .inl (zz_A (E))))]))) (zz_Qp (.int (zz_I v))) 0 0 (fun _ => False) := by
  subst hv
  refine Met.ofW (cc := kb_L_end) (maxL := 2) (ret := (some .int)) (by decide) rfl ?_
  intro pg ev sg mg ag bl mt cd s1 Bd hml hv
  obtain ⟨rfl, hP, hK⟩ := hv
  have hP : va_P D kcl [(o, .inr (2, [.ref p, .ref q, .int (zz_I (((k : Nat) : Int)))])), (p, .inl (cI, 48, .inl (zz_A (B)))), (q, .inl (cI, 48, .inl (zz_A (E))))] sg.heap := hP
  have hx := Bd.exec
  have hb := Bd.bytes
  have hr := Bd.returns
  have hlocks := Bd.notSynchronized
  have hts : ∀ w ∈ zz_tbl, w.before _ sg = true := fun w h => atoms_spec (ws := kv_L_end) Bd.pre w (List.mem_cons_of_mem _ h)
  have hown : sg.vm.findClass kn_L = some mg.cls := findClass_of_methodNamed Bd.named
  have hl := lv_entry ([.ref o, .int (zz_I (i))]) (n := 2) (Nat.le_of_ble_eq_true rfl)
  rw [lg_entry_eq]
  generalize (lg_sl ([.ref o, .int (zz_I (i))]) ++ List.replicate (2 - (lg_sl ([.ref o, .int (zz_I (i))])).length) Slot.unset).toArray = ls at hl ⊢
  have hl : lv_has ls 2 [(0, .ref o), (1, .int (zz_I (i)))] := hl
  refine lv_iload_n hx hb kd_L_end_0 rfl (lv_at hl 1 rfl) ?_
  refine zz_if_lt (tgt := 12) hx hb kd_L_end_1 (by decide) (by omega) (fun hbr1 => ?_) (fun hbr1 => ?_)
  · refine zz_iconst hx hb (v := 0) (rfl) kd_L_end_12 ?_
    refine lv_goto (tgt := 22) hx hb kd_L_end_13 (by decide) ?_
    exact W.iret hx hb hr (zz_endp (by rw [ck_r0_out (by omega)])) (fun _ h => nomatch h) kd_L_end_22
  · refine lv_iload_n hx hb kd_L_end_4 rfl (lv_at hl 1 rfl) ?_
    refine lv_aload_n hx hb kd_L_end_5 rfl (lv_at hl 0 rfl) ?_
    refine va_get (D := D) (ci := 2) (v := .int (zz_I (((k : Nat) : Int)))) (C := kn_L) (T := kf_L) (N := 3) hx hb hts ki_L hown hK hP 0 rfl rfl 2 (by decide) (hts _ kw_101) (fun _ h9 => h9) rfl kd_L_end_6 ?_
    refine zz_icmp_lt (tgt := 16) hx hb kd_L_end_9 (by decide) (by omega) (fun hbr9 => ?_) (fun hbr9 => ?_)
    · refine lv_aload_n hx hb kd_L_end_16 rfl (lv_at hl 0 rfl) ?_
      refine va_get (D := D) (ci := 2) (v := .ref q) (C := kn_L) (T := kf_L) (N := 3) hx hb hts ki_L hown hK hP 0 rfl rfl 1 (by decide) (hts _ kw_100) (fun _ h9 => h9) rfl kd_L_end_17 ?_
      refine lv_iload_n hx hb kd_L_end_20 rfl (lv_at hl 1 rfl) ?_
      refine zz_iald hx hb hK hP 2 0 rfl rfl (by omega) (v := E (i).toNat) (rfl) kd_L_end_21 ?_
      exact W.iret hx hb hr (zz_endp (by unfold ck_r0; rw [if_pos (by omega)])) (fun _ h => nomatch h) kd_L_end_22
    · refine zz_iconst hx hb (v := 0) (rfl) kd_L_end_12 ?_
      refine lv_goto (tgt := 22) hx hb kd_L_end_13 (by decide) ?_
      exact W.iret hx hb hr (zz_endp (by rw [ck_r0_out (by omega)])) (fun _ h => nomatch h) kd_L_end_22
set_option maxHeartbeats 4000000 in
set_option maxRecDepth 100000 in
theorem kc_L_pieceLength (l : Launch) (D : va_G) (cI cW : ClassId) (a : Nat) (b : Nat) (n : Nat) (cap : Nat) (g : Nat → Int) (y : Nat) (hn : n ≤ cap) (hcap : cap ≤ 1000) (hg : ck_ok g n) (hp : y ≤ 100000) {v : Int} (hv : ((ck_pc g n y : Nat) : Int) = v) : Met l ky_L_pieceLength kv_L_pieceLength ({ frames := 3, cells := 0, slots := 0, locals := 60 }) (va_Pc [.ref a, .int (zz_I (((y : Nat) : Int)))] (zz_P D cI cW (va_P D kcl [(a, .inr (1, [.ref b, .int (zz_I (((n : Nat) : Int)))])), (b, .inl (cI, cap, .inl (zz_A (g))))]))) (zz_Qp (.int (zz_I v))) 0 0 (fun _ => False) := by
  subst hv
  refine Met.ofW (cc := kb_L_pieceLength) (maxL := 2) (ret := (some .int)) (by decide) rfl ?_
  intro pg ev sg mg ag bl mt cd s1 Bd hml hv
  obtain ⟨rfl, hP, hK⟩ := hv
  have hP : va_P D kcl [(a, .inr (1, [.ref b, .int (zz_I (((n : Nat) : Int)))])), (b, .inl (cI, cap, .inl (zz_A (g))))] sg.heap := hP
  have hx := Bd.exec
  have hb := Bd.bytes
  have hr := Bd.returns
  have hlocks := Bd.notSynchronized
  have hts : ∀ w ∈ zz_tbl, w.before _ sg = true := fun w h => atoms_spec (ws := kv_L_pieceLength) Bd.pre w (List.mem_cons_of_mem _ h)
  have hown : sg.vm.findClass kn_L = some mg.cls := findClass_of_methodNamed Bd.named
  have hl := lv_entry ([.ref a, .int (zz_I (((y : Nat) : Int)))]) (n := 2) (Nat.le_of_ble_eq_true rfl)
  rw [lg_entry_eq]
  generalize (lg_sl ([.ref a, .int (zz_I (((y : Nat) : Int)))]) ++ List.replicate (2 - (lg_sl ([.ref a, .int (zz_I (((y : Nat) : Int)))])).length) Slot.unset).toArray = ls at hl ⊢
  have hl : lv_has ls 2 [(0, .ref a), (1, .int (zz_I (((y : Nat) : Int))))] := hl
  refine lv_aload_n hx hb kd_L_pieceLength_0 rfl (lv_at hl 0 rfl) ?_
  refine lv_iload_n hx hb kd_L_pieceLength_1 rfl (lv_at hl 1 rfl) ?_
  refine zz_pV ⟨hx, hb, hml, hown, hts⟩ hK (kc_R_at l D cI cW a b n cap g ((y : Nat) : Int) (by omega) (by omega) (by omega) rfl) (zz_gV kw_288 kw_164 kw_165 kw_28 kw_166) ⟨rfl, rfl⟩ ⟨rfl, kh_R_at⟩ ⟨Nat.le_of_ble_eq_true rfl, Nat.le_of_ble_eq_true rfl⟩ (va_recv (q := (kn_R, kf_R, 2)) hK hP rfl (show ([(a, .inr (1, [.ref b, .int (zz_I (((n : Nat) : Int)))])), (b, .inl (cI, cap, .inl (zz_A (g))))] : va_W)[0]? = some _ from rfl)) hP rfl hl.1 rfl (Nat.le_of_ble_eq_true rfl) kd_L_pieceLength_2 ⟨Nat.le_of_ble_eq_true rfl, Nat.le_of_ble_eq_true rfl⟩ ?_
  refine zz_pS ⟨hx, hb, hml, hown, hts⟩ hK (kc_A_isPieceAlone l D cI cW (ck_ri g n ((y : Nat) : Int)) (by have := ck_ri_rg hg (y : Nat); have := ck_ri_rg hg ((y : Nat) + 1); omega) rfl) (zz_gS kw_293 kw_294 kw_37 kw_295) ⟨rfl, rfl⟩ kh_A_isPieceAlone ⟨Nat.le_of_ble_eq_true rfl, Nat.le_of_ble_eq_true rfl⟩  trivial rfl hl.1 rfl (Nat.le_of_ble_eq_true rfl) kd_L_pieceLength_5 ⟨Nat.le_of_ble_eq_true rfl, Nat.le_of_ble_eq_true rfl⟩ ?_
  refine zz_ifb_eq (tgt := 13) hx hb kd_L_pieceLength_8 (by decide) (fun hbr8 => ?_) (fun hbr8 => ?_)
  · refine lv_aload_n hx hb kd_L_pieceLength_13 rfl (lv_at hl 0 rfl) ?_
    refine lv_iload_n hx hb kd_L_pieceLength_14 rfl (lv_at hl 1 rfl) ?_
    refine zz_pV ⟨hx, hb, hml, hown, hts⟩ hK (kc_R_at l D cI cW a b n cap g ((y : Nat) : Int) (by omega) (by omega) (by omega) rfl) (zz_gV kw_288 kw_164 kw_165 kw_28 kw_166) ⟨rfl, rfl⟩ ⟨rfl, kh_R_at⟩ ⟨Nat.le_of_ble_eq_true rfl, Nat.le_of_ble_eq_true rfl⟩ (va_recv (q := (kn_R, kf_R, 2)) hK hP rfl (show ([(a, .inr (1, [.ref b, .int (zz_I (((n : Nat) : Int)))])), (b, .inl (cI, cap, .inl (zz_A (g))))] : va_W)[0]? = some _ from rfl)) hP rfl hl.1 rfl (Nat.le_of_ble_eq_true rfl) kd_L_pieceLength_15 ⟨Nat.le_of_ble_eq_true rfl, Nat.le_of_ble_eq_true rfl⟩ ?_
    refine zz_pS ⟨hx, hb, hml, hown, hts⟩ hK (kc_A_isDashOrDot l D cI cW (ck_ri g n ((y : Nat) : Int)) (by have := ck_ri_rg hg (y : Nat); omega) rfl) (zz_gS kw_297 kw_218 kw_37 kw_219) ⟨rfl, rfl⟩ kh_A_isDashOrDot ⟨Nat.le_of_ble_eq_true rfl, Nat.le_of_ble_eq_true rfl⟩  trivial rfl hl.1 rfl (Nat.le_of_ble_eq_true rfl) kd_L_pieceLength_18 ⟨Nat.le_of_ble_eq_true rfl, Nat.le_of_ble_eq_true rfl⟩ ?_
    refine zz_ifb_eq (tgt := 41) hx hb kd_L_pieceLength_21 (by decide) (fun hbr21 => ?_) (fun hbr21 => ?_)
    · refine zz_iconst hx hb (v := 0) (rfl) kd_L_pieceLength_41 ?_
      exact W.iret hx hb hr (zz_endp (by first | exact ck_pc_00 (by assumption) (by assumption) | exact ck_pc_01 (by assumption) (by assumption))) (fun _ h => nomatch h) kd_L_pieceLength_42
    · refine lv_aload_n hx hb kd_L_pieceLength_24 rfl (lv_at hl 0 rfl) ?_
      refine lv_iload_n hx hb kd_L_pieceLength_25 rfl (lv_at hl 1 rfl) ?_
      refine zz_iconst hx hb (v := 1) (rfl) kd_L_pieceLength_26 ?_
      refine zz_iadd hx hb (v := ((y : Nat) : Int) + 1) (rfl) kd_L_pieceLength_27 ?_
      refine zz_pV ⟨hx, hb, hml, hown, hts⟩ hK (kc_R_at l D cI cW a b n cap g (((y : Nat) : Int) + 1) (by omega) (by omega) (by omega) rfl) (zz_gV kw_288 kw_164 kw_165 kw_28 kw_166) ⟨rfl, rfl⟩ ⟨rfl, kh_R_at⟩ ⟨Nat.le_of_ble_eq_true rfl, Nat.le_of_ble_eq_true rfl⟩ (va_recv (q := (kn_R, kf_R, 2)) hK hP rfl (show ([(a, .inr (1, [.ref b, .int (zz_I (((n : Nat) : Int)))])), (b, .inl (cI, cap, .inl (zz_A (g))))] : va_W)[0]? = some _ from rfl)) hP rfl hl.1 rfl (Nat.le_of_ble_eq_true rfl) kd_L_pieceLength_28 ⟨Nat.le_of_ble_eq_true rfl, Nat.le_of_ble_eq_true rfl⟩ ?_
      refine zz_pS ⟨hx, hb, hml, hown, hts⟩ hK (kc_A_isPieceAlone l D cI cW (ck_ri g n (((y : Nat) : Int) + 1)) (by have := ck_ri_rg hg (y : Nat); have := ck_ri_rg hg ((y : Nat) + 1); omega) rfl) (zz_gS kw_293 kw_294 kw_37 kw_295) ⟨rfl, rfl⟩ kh_A_isPieceAlone ⟨Nat.le_of_ble_eq_true rfl, Nat.le_of_ble_eq_true rfl⟩  trivial rfl hl.1 rfl (Nat.le_of_ble_eq_true rfl) kd_L_pieceLength_31 ⟨Nat.le_of_ble_eq_true rfl, Nat.le_of_ble_eq_true rfl⟩ ?_
      refine zz_ifb_eq (tgt := 41) hx hb kd_L_pieceLength_34 (by decide) (fun hbr34 => ?_) (fun hbr34 => ?_)
      · refine zz_iconst hx hb (v := 0) (rfl) kd_L_pieceLength_41 ?_
        exact W.iret hx hb hr (zz_endp (by first | exact ck_pc_00 (by assumption) (by assumption) | exact ck_pc_01 (by assumption) (by assumption))) (fun _ h => nomatch h) kd_L_pieceLength_42
      · refine zz_iconst hx hb (v := 2) (rfl) kd_L_pieceLength_37 ?_
        refine lv_goto (tgt := 42) hx hb kd_L_pieceLength_38 (by decide) ?_
        exact W.iret hx hb hr (zz_endp (ck_pc_2 (by assumption) (by assumption) (by assumption))) (fun _ h => nomatch h) kd_L_pieceLength_42
  · refine zz_iconst hx hb (v := 1) (rfl) kd_L_pieceLength_11 ?_
    exact W.iret hx hb hr (zz_endp (ck_pc_1 (by assumption))) (fun _ h => nomatch h) kd_L_pieceLength_12
set_option maxHeartbeats 4000000 in
set_option maxRecDepth 100000 in
theorem kc_L_identifierEnd (l : Launch) (D : va_G) (cI cW : ClassId) (a : Nat) (b : Nat) (n : Nat) (cap : Nat) (g : Nat → Int) (y : Nat) (hn : n ≤ cap) (hcap : cap ≤ 1000) (hg : ck_ok g n) (hp : y ≤ 100000) {v : Int} (hv : ((ck_ie g n y : Nat) : Int) = v) : Met l ky_L_identifierEnd kv_L_identifierEnd ({ frames := 4, cells := 0, slots := 0, locals := 81 }) (va_Pc [.ref a, .int (zz_I (((y : Nat) : Int)))] (zz_P D cI cW (va_P D kcl [(a, .inr (1, [.ref b, .int (zz_I (((n : Nat) : Int)))])), (b, .inl (cI, cap, .inl (zz_A (g))))]))) (zz_Qp (.int (zz_I v))) 0 0 (fun _ => False) := by
  subst hv
  refine Met.ofW (cc := kb_L_identifierEnd) (maxL := 3) (ret := (some .int)) (by decide) rfl ?_
  intro pg ev sg mg ag bl mt cd s1 Bd hml hv
  obtain ⟨rfl, hP, hK⟩ := hv
  have hP : va_P D kcl [(a, .inr (1, [.ref b, .int (zz_I (((n : Nat) : Int)))])), (b, .inl (cI, cap, .inl (zz_A (g))))] sg.heap := hP
  have hx := Bd.exec
  have hb := Bd.bytes
  have hr := Bd.returns
  have hlocks := Bd.notSynchronized
  have hts : ∀ w ∈ zz_tbl, w.before _ sg = true := fun w h => atoms_spec (ws := kv_L_identifierEnd) Bd.pre w (List.mem_cons_of_mem _ h)
  have hown : sg.vm.findClass kn_L = some mg.cls := findClass_of_methodNamed Bd.named
  have hl := lv_entry ([.ref a, .int (zz_I (((y : Nat) : Int)))]) (n := 3) (Nat.le_of_ble_eq_true rfl)
  rw [lg_entry_eq]
  generalize (lg_sl ([.ref a, .int (zz_I (((y : Nat) : Int)))]) ++ List.replicate (3 - (lg_sl ([.ref a, .int (zz_I (((y : Nat) : Int)))])).length) Slot.unset).toArray = ls at hl ⊢
  have hl : lv_has ls 3 [(0, .ref a), (1, .int (zz_I (((y : Nat) : Int))))] := hl
  refine lv_aload_n hx hb kd_L_identifierEnd_0 rfl (lv_at hl 0 rfl) ?_
  refine lv_iload_n hx hb kd_L_identifierEnd_1 rfl (lv_at hl 1 rfl) ?_
  refine zz_pV ⟨hx, hb, hml, hown, hts⟩ hK (kc_R_at l D cI cW a b n cap g ((y : Nat) : Int) (by omega) (by omega) (by omega) rfl) (zz_gV kw_288 kw_164 kw_165 kw_28 kw_166) ⟨rfl, rfl⟩ ⟨rfl, kh_R_at⟩ ⟨Nat.le_of_ble_eq_true rfl, Nat.le_of_ble_eq_true rfl⟩ (va_recv (q := (kn_R, kf_R, 2)) hK hP rfl (show ([(a, .inr (1, [.ref b, .int (zz_I (((n : Nat) : Int)))])), (b, .inl (cI, cap, .inl (zz_A (g))))] : va_W)[0]? = some _ from rfl)) hP rfl hl.1 rfl (Nat.le_of_ble_eq_true rfl) kd_L_identifierEnd_2 ⟨Nat.le_of_ble_eq_true rfl, Nat.le_of_ble_eq_true rfl⟩ ?_
  refine zz_pS ⟨hx, hb, hml, hown, hts⟩ hK (kc_A_isLetter l D cI cW (ck_ri g n ((y : Nat) : Int)) (by have := ck_ri_rg hg (y : Nat); omega) rfl) (zz_gS kw_289 kw_187 kw_37 kw_188) ⟨rfl, rfl⟩ kh_A_isLetter ⟨Nat.le_of_ble_eq_true rfl, Nat.le_of_ble_eq_true rfl⟩  trivial rfl hl.1 rfl (Nat.le_of_ble_eq_true rfl) kd_L_identifierEnd_5 ⟨Nat.le_of_ble_eq_true rfl, Nat.le_of_ble_eq_true rfl⟩ ?_
  refine zz_ifb_ne (tgt := 13) hx hb kd_L_identifierEnd_8 (by decide) (fun hbr8 => ?_) (fun hbr8 => ?_)
  · refine lv_iload_n hx hb kd_L_identifierEnd_13 rfl (lv_at hl 1 rfl) ?_
    refine zz_iconst hx hb (v := 1) (rfl) kd_L_identifierEnd_14 ?_
    refine zz_iadd hx hb (v := ((y : Nat) : Int) + 1) (rfl) kd_L_identifierEnd_15 ?_
    refine lv_istore_n hx hb kd_L_identifierEnd_16 rfl hl (by decide) rfl (fun ls hl => ?_)
    have hl : lv_has ls 3 [(2, .int (zz_I (((y : Nat) : Int) + 1))), (0, .ref a), (1, .int (zz_I (((y : Nat) : Int))))] := hl
    have lp17 : ∀ (fuel : Nat) (e1 : Nat) (ls : Array Slot), n - e1 < fuel → (e1 ≤ max n (y + 1)) → (∀ f, n - e1 ≤ f → ck_ge g n f e1 = ck_ge g n n (y + 1)) → lv_has ls 3 [(0, .ref a), (1, .int (zz_I (((y : Nat) : Int)))), (2, .int (zz_I (((e1 : Nat) : Int))))] → W pg l ev (headSpec kv_L_identifierEnd ({ frames := 4, cells := 0, slots := 0, locals := 81 })).room sg mg [.ref a, .int (zz_I (((y : Nat) : Int)))].toArray bl mt cd sg.heap [] 0 0 (MQ bl (zz_Qp (.int (zz_I (((ck_ie g n y : Nat) : Int))))) [.ref a, .int (zz_I (((y : Nat) : Int)))].toArray sg 0 0 (fun _ => False)) (F0 mg 17 ls []) := by
      intro fuel
      induction fuel with
      | zero => intro e1 ls hfu; exact absurd hfu (Nat.not_lt_zero _)
      | succ fuel ih17 =>
        intro e1 ls hfu he hq hl
        refine lv_iload_n hx hb kd_L_identifierEnd_17 rfl (lv_at hl 2 rfl) ?_
        refine lv_aload_n hx hb kd_L_identifierEnd_18 rfl (lv_at hl 0 rfl) ?_
        refine zz_pV ⟨hx, hb, hml, hown, hts⟩ hK (kc_R_length l D cI cW a b n  rfl) (zz_gV kw_284 kw_139 kw_140 kw_28 kw_141) ⟨rfl, rfl⟩ ⟨rfl, kh_R_length⟩ ⟨Nat.le_of_ble_eq_true rfl, Nat.le_of_ble_eq_true rfl⟩ (va_recv (q := (kn_R, kf_R, 2)) hK hP rfl (show ([(a, .inr (1, [.ref b, .int (zz_I (((n : Nat) : Int)))])), (b, .inl (cI, cap, .inl (zz_A (g))))] : va_W)[0]? = some _ from rfl)) (hP.sub (ws' := [(a, .inr (1, [.ref b, .int (zz_I (((n : Nat) : Int)))]))]) [0] rfl) rfl hl.1 rfl (Nat.le_of_ble_eq_true rfl) kd_L_identifierEnd_19 ⟨Nat.le_of_ble_eq_true rfl, Nat.le_of_ble_eq_true rfl⟩ ?_
        refine zz_icmp_ge (tgt := 44) hx hb kd_L_identifierEnd_22 (by decide) (by omega) (fun hbr22 => ?_) (fun hbr22 => ?_)
        · refine lv_iload_n hx hb kd_L_identifierEnd_44 rfl (lv_at hl 2 rfl) ?_
          exact W.iret hx hb hr (zz_endp (by rw [ck_ie_yes (by assumption), ← hq n (by omega)]; first | rw [ck_ge_out (by omega)] | rw [ck_ge_0 (by omega)])) (fun _ h => nomatch h) kd_L_identifierEnd_45
        · refine lv_aload_n hx hb kd_L_identifierEnd_25 rfl (lv_at hl 0 rfl) ?_
          refine lv_iload_n hx hb kd_L_identifierEnd_26 rfl (lv_at hl 2 rfl) ?_
          refine zz_pS ⟨hx, hb, hml, hown, hts⟩ hK (kc_L_pieceLength l D cI cW a b n cap g e1 (by omega) (by omega) (by assumption) (by omega) rfl) (zz_gS kw_290 kw_291 kw_30 kw_292) ⟨rfl, rfl⟩ kh_L_pieceLength ⟨Nat.le_of_ble_eq_true rfl, Nat.le_of_ble_eq_true rfl⟩  hP rfl hl.1 rfl (Nat.le_of_ble_eq_true rfl) kd_L_identifierEnd_27 ⟨Nat.le_of_ble_eq_true rfl, Nat.le_of_ble_eq_true rfl⟩ ?_
          refine zz_if_le (tgt := 44) hx hb kd_L_identifierEnd_30 (by decide) (by have := ck_pc_rg g n e1; omega) (fun hbr30 => ?_) (fun hbr30 => ?_)
          · refine lv_iload_n hx hb kd_L_identifierEnd_44 rfl (lv_at hl 2 rfl) ?_
            exact W.iret hx hb hr (zz_endp (by rw [ck_ie_yes (by assumption), ← hq n (by omega)]; first | rw [ck_ge_out (by omega)] | rw [ck_ge_0 (by omega)])) (fun _ h => nomatch h) kd_L_identifierEnd_45
          · refine lv_iload_n hx hb kd_L_identifierEnd_33 rfl (lv_at hl 2 rfl) ?_
            refine lv_aload_n hx hb kd_L_identifierEnd_34 rfl (lv_at hl 0 rfl) ?_
            refine lv_iload_n hx hb kd_L_identifierEnd_35 rfl (lv_at hl 2 rfl) ?_
            refine zz_pS ⟨hx, hb, hml, hown, hts⟩ hK (kc_L_pieceLength l D cI cW a b n cap g e1 (by omega) (by omega) (by assumption) (by omega) rfl) (zz_gS kw_290 kw_291 kw_30 kw_292) ⟨rfl, rfl⟩ kh_L_pieceLength ⟨Nat.le_of_ble_eq_true rfl, Nat.le_of_ble_eq_true rfl⟩  hP rfl hl.1 rfl (Nat.le_of_ble_eq_true rfl) kd_L_identifierEnd_36 ⟨Nat.le_of_ble_eq_true rfl, Nat.le_of_ble_eq_true rfl⟩ ?_
            refine zz_iadd hx hb (v := ((e1 + ck_pc g n e1 : Nat) : Int)) (by omega) kd_L_identifierEnd_39 ?_
            refine lv_istore_n hx hb kd_L_identifierEnd_40 rfl hl (by decide) rfl (fun ls hl => ?_)
            have hl : lv_has ls 3 [(2, .int (zz_I (((e1 + ck_pc g n e1 : Nat) : Int)))), (0, .ref a), (1, .int (zz_I (((y : Nat) : Int))))] := hl
            refine lv_goto (tgt := 17) hx hb kd_L_identifierEnd_41 (by decide) ?_
            exact ih17 (e1 + ck_pc g n e1) ls (by have := ck_pc_in (g := g) (n := n) (p := e1) (by omega); omega) (by have := ck_pc_in (g := g) (n := n) (p := e1) (by omega); omega) (fun f hf => (ck_ge_go (by omega) (by omega) hf).trans (hq (f + 2) (by have := ck_pc_rg g n e1; omega))) (lv_sub hl [1, 2, 0] rfl)
    exact lp17 _ (y + 1) ls (Nat.lt_succ_self _) (by omega) (fun f hf => ck_ge_fix f n (y + 1) hf (by omega)) (lv_sub hl [1, 2, 0] rfl)
  · refine lv_iload_n hx hb kd_L_identifierEnd_11 rfl (lv_at hl 1 rfl) ?_
    exact W.iret hx hb hr (zz_endp (ck_ie_no (by assumption))) (fun _ h => nomatch h) kd_L_identifierEnd_12
set_option maxHeartbeats 4000000 in
set_option maxRecDepth 100000 in
theorem kc_L_isIdentifier (l : Launch) (D : va_G) (cI cW : ClassId) (a : Nat) (b : Nat) (n : Nat) (cap : Nat) (g : Nat → Int) (hn : n ≤ cap) (hcap : cap ≤ 1000) (hg : ck_ok g n) {v : Int} (hv : zz_b (ck_id g n) = v) : Met l ky_L_isIdentifier kv_L_isIdentifier ({ frames := 5, cells := 0, slots := 0, locals := 103 }) (va_Pc [.ref a] (zz_P D cI cW (va_P D kcl [(a, .inr (1, [.ref b, .int (zz_I (((n : Nat) : Int)))])), (b, .inl (cI, cap, .inl (zz_A (g))))]))) (zz_Qp (.int (zz_I v))) 0 0 (fun _ => False) := by
  subst hv
  refine Met.ofW (cc := kb_L_isIdentifier) (maxL := 1) (ret := (some .boolean)) (by decide) rfl ?_
  intro pg ev sg mg ag bl mt cd s1 Bd hml hv
  obtain ⟨rfl, hP, hK⟩ := hv
  have hP : va_P D kcl [(a, .inr (1, [.ref b, .int (zz_I (((n : Nat) : Int)))])), (b, .inl (cI, cap, .inl (zz_A (g))))] sg.heap := hP
  have hx := Bd.exec
  have hb := Bd.bytes
  have hr := Bd.returns
  have hlocks := Bd.notSynchronized
  have hts : ∀ w ∈ zz_tbl, w.before _ sg = true := fun w h => atoms_spec (ws := kv_L_isIdentifier) Bd.pre w (List.mem_cons_of_mem _ h)
  have hown : sg.vm.findClass kn_L = some mg.cls := findClass_of_methodNamed Bd.named
  have hl := lv_entry ([.ref a]) (n := 1) (Nat.le_of_ble_eq_true rfl)
  rw [lg_entry_eq]
  generalize (lg_sl ([.ref a]) ++ List.replicate (1 - (lg_sl ([.ref a])).length) Slot.unset).toArray = ls at hl ⊢
  have hl : lv_has ls 1 [(0, .ref a)] := hl
  refine lv_aload_n hx hb kd_L_isIdentifier_0 rfl (lv_at hl 0 rfl) ?_
  refine zz_pV ⟨hx, hb, hml, hown, hts⟩ hK (kc_R_length l D cI cW a b n  rfl) (zz_gV kw_284 kw_139 kw_140 kw_28 kw_141) ⟨rfl, rfl⟩ ⟨rfl, kh_R_length⟩ ⟨Nat.le_of_ble_eq_true rfl, Nat.le_of_ble_eq_true rfl⟩ (va_recv (q := (kn_R, kf_R, 2)) hK hP rfl (show ([(a, .inr (1, [.ref b, .int (zz_I (((n : Nat) : Int)))])), (b, .inl (cI, cap, .inl (zz_A (g))))] : va_W)[0]? = some _ from rfl)) (hP.sub (ws' := [(a, .inr (1, [.ref b, .int (zz_I (((n : Nat) : Int)))]))]) [0] rfl) rfl hl.1 rfl (Nat.le_of_ble_eq_true rfl) kd_L_isIdentifier_1 ⟨Nat.le_of_ble_eq_true rfl, Nat.le_of_ble_eq_true rfl⟩ ?_
  refine zz_if_le (tgt := 23) hx hb kd_L_isIdentifier_4 (by decide) (by omega) (fun hbr4 => ?_) (fun hbr4 => ?_)
  · refine zz_iconst hx hb (v := 0) (rfl) kd_L_isIdentifier_23 ?_
    exact W.zret (ty := .boolean) hx hb hr (by decide) (zz_endp (zz_f (decide_eq_false (by omega)))) (fun _ h => nomatch h) kd_L_isIdentifier_24
  · refine lv_aload_n hx hb kd_L_isIdentifier_7 rfl (lv_at hl 0 rfl) ?_
    refine zz_iconst hx hb (v := 0) (rfl) kd_L_isIdentifier_8 ?_
    refine zz_pS ⟨hx, hb, hml, hown, hts⟩ hK (kc_L_identifierEnd l D cI cW a b n cap g 0 (by omega) (by omega) (by assumption) (by omega) rfl) (zz_gS kw_285 kw_286 kw_30 kw_287) ⟨rfl, rfl⟩ kh_L_identifierEnd ⟨Nat.le_of_ble_eq_true rfl, Nat.le_of_ble_eq_true rfl⟩  hP rfl hl.1 rfl (Nat.le_of_ble_eq_true rfl) kd_L_isIdentifier_9 ⟨Nat.le_of_ble_eq_true rfl, Nat.le_of_ble_eq_true rfl⟩ ?_
    refine lv_aload_n hx hb kd_L_isIdentifier_12 rfl (lv_at hl 0 rfl) ?_
    refine zz_pV ⟨hx, hb, hml, hown, hts⟩ hK (kc_R_length l D cI cW a b n  rfl) (zz_gV kw_284 kw_139 kw_140 kw_28 kw_141) ⟨rfl, rfl⟩ ⟨rfl, kh_R_length⟩ ⟨Nat.le_of_ble_eq_true rfl, Nat.le_of_ble_eq_true rfl⟩ (va_recv (q := (kn_R, kf_R, 2)) hK hP rfl (show ([(a, .inr (1, [.ref b, .int (zz_I (((n : Nat) : Int)))])), (b, .inl (cI, cap, .inl (zz_A (g))))] : va_W)[0]? = some _ from rfl)) (hP.sub (ws' := [(a, .inr (1, [.ref b, .int (zz_I (((n : Nat) : Int)))]))]) [0] rfl) rfl hl.1 rfl (Nat.le_of_ble_eq_true rfl) kd_L_isIdentifier_13 ⟨Nat.le_of_ble_eq_true rfl, Nat.le_of_ble_eq_true rfl⟩ ?_
    refine zz_icmp_ne (tgt := 23) hx hb kd_L_isIdentifier_16 (by decide) (by have := ck_ie_le (g := g) (n := n) (p := 0); omega) (fun hbr16 => ?_) (fun hbr16 => ?_)
    · refine zz_iconst hx hb (v := 0) (rfl) kd_L_isIdentifier_23 ?_
      exact W.zret (ty := .boolean) hx hb hr (by decide) (zz_endp (zz_f (decide_eq_false (by omega)))) (fun _ h => nomatch h) kd_L_isIdentifier_24
    · refine zz_iconst hx hb (v := 1) (rfl) kd_L_isIdentifier_19 ?_
      refine lv_goto (tgt := 24) hx hb kd_L_isIdentifier_20 (by decide) ?_
      exact W.zret (ty := .boolean) hx hb hr (by decide) (zz_endp (zz_t (decide_eq_true (by omega)))) (fun _ h => nomatch h) kd_L_isIdentifier_24
