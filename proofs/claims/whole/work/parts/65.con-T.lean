set_option maxHeartbeats 4000000 in
set_option maxRecDepth 100000 in
theorem kt_D_withdraw (l : Launch) (hfl : l.flags = flags0) (D : va_G) (cI cW : ClassId) (e0 : Nat) (w : Nat) (no : Nat) (fo : Nat) (a : Nat) (ow : Nat) (oh : Nat) (nb : Nat) (k : Nat) (nm : Nat → zz_Wt) (p : Int) (S0 : State) (b0 : Nat) (hS0 : zt_W b0 S0) (hk : k ≤ 12) (hp1 : -2147483648 ≤ p ∧ p ≤ 2147483647) (hp : ¬ (0 ≤ p ∧ p < ((k : Nat) : Int))) : zt_Met l ky_D_withdraw kv_D_withdraw ({ frames := 6, cells := 1, slots := 6, locals := 100 }) (va_Pc [.ref e0, .int (zz_I (p))] (zt_Pz S0 (zz_P D cI cW (va_P D kcl [(e0, .inr (4, [.ref w, .ref no, .ref fo, .ref a, .ref ow, .ref oh])), (no, .inr (0, [.ref nb, .int (zz_I (((k : Nat) : Int)))]))])))) (zt_Q "java/lang/IndexOutOfBoundsException" (fun _ => True) (fun _ => False)) 1 6 (fun _ => False) := by
  refine zt_ofW (cc := kb_D_withdraw) (maxL := 2) (ret := (some .int)) (by decide) rfl ?_
  intro pg ev sg mg ag bl mt cd s1 Bd hml hv
  obtain ⟨rfl, ⟨hP, hK⟩, hzt⟩ := hv
  have hP : va_P D kcl [(e0, .inr (4, [.ref w, .ref no, .ref fo, .ref a, .ref ow, .ref oh])), (no, .inr (0, [.ref nb, .int (zz_I (((k : Nat) : Int)))]))] sg.heap := hP
  have hx := Bd.exec
  have hb := Bd.bytes
  have hr := Bd.returns
  have hlocks := Bd.notSynchronized
  have hts : ∀ w ∈ zz_tbl, w.before _ sg = true := fun w h => atoms_spec (ws := kv_D_withdraw) Bd.pre w (List.mem_cons_of_mem _ h)
  have hown : sg.vm.findClass kn_D = some mg.cls := findClass_of_methodNamed Bd.named
  have hl := lv_entry ([.ref e0, .int (zz_I (p))]) (n := 2) (Nat.le_of_ble_eq_true rfl)
  rw [lg_entry_eq]
  generalize (lg_sl ([.ref e0, .int (zz_I (p))]) ++ List.replicate (2 - (lg_sl ([.ref e0, .int (zz_I (p))])).length) Slot.unset).toArray = ls at hl ⊢
  have hl : lv_has ls 2 [(0, .ref e0), (1, .int (zz_I (p)))] := hl
  refine lv_aload_n hx hb kd_D_withdraw_0 rfl (lv_at hl 0 rfl) ?_
  refine va_get (D := D) (ci := 4) (v := .ref no) (C := kn_D) (T := kf_D) (N := 6) hx hb hts ki_D hown hK hP 0 rfl rfl 1 (by decide) (hts _ kw_112) (fun _ h9 => h9) rfl kd_D_withdraw_1 ?_
  refine lv_iload_n hx hb kd_D_withdraw_4 rfl (lv_at hl 1 rfl) ?_
  refine zz_pV ⟨hx, hb, hml, hown, hts⟩ hK (kc_G_has l D cI cW no nb k p (by omega) (by omega) rfl) (zz_gV kw_530 kw_531 kw_532 kw_29 kw_533) ⟨rfl, rfl⟩ ⟨rfl, kh_G_has⟩ ⟨Nat.le_of_ble_eq_true rfl, Nat.le_of_ble_eq_true rfl⟩ (va_recv (q := (kn_G, kf_G, 2)) hK hP rfl (show ([(e0, .inr (4, [.ref w, .ref no, .ref fo, .ref a, .ref ow, .ref oh])), (no, .inr (0, [.ref nb, .int (zz_I (((k : Nat) : Int)))]))] : va_W)[1]? = some _ from rfl)) (hP.sub (ws' := [(no, .inr (0, [.ref nb, .int (zz_I (((k : Nat) : Int)))]))]) [1] rfl) rfl hl.1 rfl (Nat.le_of_ble_eq_true rfl) kd_D_withdraw_5 ⟨Nat.le_of_ble_eq_true rfl, Nat.le_of_ble_eq_true rfl⟩ ?_
  refine zz_ifb_ne (tgt := 21) hx hb kd_D_withdraw_8 (by decide) (fun hbr8 => absurd hbr8 (by intro q; have := of_decide_eq_true q; omega)) (fun hbr8 => ?_)
  exact zt_throw (own := kn_D) (cls := "java/lang/IndexOutOfBoundsException") (text := "no such name") (names := zt_nms) hx hb hml hown (Launch.traces_off hfl) hS0 hzt zt_fit3 zt_fits zt_o_158 (va_S.rf (A := fun _ => False)) (fun _ h => h.elim) (fun _ _ => trivial) hl.1 (Bd.noHandlers (atoms_spec (ws := kv_D_withdraw) Bd.pre _ List.mem_cons_self)) hlocks kd_D_withdraw_11 kd_D_withdraw_14 kd_D_withdraw_15 kd_D_withdraw_17 kd_D_withdraw_20 ⟨Nat.le_of_ble_eq_true rfl, Nat.le_of_ble_eq_true rfl, Nat.le_of_ble_eq_true rfl, Nat.le_of_ble_eq_true rfl⟩
set_option maxHeartbeats 4000000 in
set_option maxRecDepth 100000 in
theorem kt_D_ranked (l : Launch) (hfl : l.flags = flags0) (D : va_G) (cI cW : ClassId) (e0 : Nat) (w : Nat) (no : Nat) (fo : Nat) (a : Nat) (ow : Nat) (oh : Nat) (nb : Nat) (k : Nat) (nm : Nat → zz_Wt) (p : Int) (S0 : State) (b0 : Nat) (hS0 : zt_W b0 S0) (hk : k ≤ 12) (hp1 : -2147483648 ≤ p ∧ p ≤ 2147483647) (hp : ¬ (0 ≤ p ∧ p < ((k : Nat) : Int))) : zt_Met l ky_D_ranked kv_D_ranked ({ frames := 6, cells := 1, slots := 6, locals := 109 }) (va_Pc [.ref e0, .int (zz_I (p))] (zt_Pz S0 (zz_P D cI cW (va_P D kcl [(e0, .inr (4, [.ref w, .ref no, .ref fo, .ref a, .ref ow, .ref oh])), (no, .inr (0, [.ref nb, .int (zz_I (((k : Nat) : Int)))]))])))) (zt_Q "java/lang/IndexOutOfBoundsException" (fun _ => True) (fun _ => False)) 1 6 (fun _ => False) := by
  refine zt_ofW (cc := kb_D_ranked) (maxL := 2) (ret := (some .int)) (by decide) rfl ?_
  intro pg ev sg mg ag bl mt cd s1 Bd hml hv
  obtain ⟨rfl, ⟨hP, hK⟩, hzt⟩ := hv
  have hP : va_P D kcl [(e0, .inr (4, [.ref w, .ref no, .ref fo, .ref a, .ref ow, .ref oh])), (no, .inr (0, [.ref nb, .int (zz_I (((k : Nat) : Int)))]))] sg.heap := hP
  have hx := Bd.exec
  have hb := Bd.bytes
  have hr := Bd.returns
  have hlocks := Bd.notSynchronized
  have hts : ∀ w ∈ zz_tbl, w.before _ sg = true := fun w h => atoms_spec (ws := kv_D_ranked) Bd.pre w (List.mem_cons_of_mem _ h)
  have hown : sg.vm.findClass kn_D = some mg.cls := findClass_of_methodNamed Bd.named
  have hl := lv_entry ([.ref e0, .int (zz_I (p))]) (n := 2) (Nat.le_of_ble_eq_true rfl)
  rw [lg_entry_eq]
  generalize (lg_sl ([.ref e0, .int (zz_I (p))]) ++ List.replicate (2 - (lg_sl ([.ref e0, .int (zz_I (p))])).length) Slot.unset).toArray = ls at hl ⊢
  have hl : lv_has ls 2 [(0, .ref e0), (1, .int (zz_I (p)))] := hl
  refine lv_aload_n hx hb kd_D_ranked_0 rfl (lv_at hl 0 rfl) ?_
  refine va_get (D := D) (ci := 4) (v := .ref no) (C := kn_D) (T := kf_D) (N := 6) hx hb hts ki_D hown hK hP 0 rfl rfl 1 (by decide) (hts _ kw_112) (fun _ h9 => h9) rfl kd_D_ranked_1 ?_
  refine lv_iload_n hx hb kd_D_ranked_4 rfl (lv_at hl 1 rfl) ?_
  refine zz_pV ⟨hx, hb, hml, hown, hts⟩ hK (kc_G_has l D cI cW no nb k p (by omega) (by omega) rfl) (zz_gV kw_530 kw_531 kw_532 kw_29 kw_533) ⟨rfl, rfl⟩ ⟨rfl, kh_G_has⟩ ⟨Nat.le_of_ble_eq_true rfl, Nat.le_of_ble_eq_true rfl⟩ (va_recv (q := (kn_G, kf_G, 2)) hK hP rfl (show ([(e0, .inr (4, [.ref w, .ref no, .ref fo, .ref a, .ref ow, .ref oh])), (no, .inr (0, [.ref nb, .int (zz_I (((k : Nat) : Int)))]))] : va_W)[1]? = some _ from rfl)) (hP.sub (ws' := [(no, .inr (0, [.ref nb, .int (zz_I (((k : Nat) : Int)))]))]) [1] rfl) rfl hl.1 rfl (Nat.le_of_ble_eq_true rfl) kd_D_ranked_5 ⟨Nat.le_of_ble_eq_true rfl, Nat.le_of_ble_eq_true rfl⟩ ?_
  refine zz_ifb_ne (tgt := 21) hx hb kd_D_ranked_8 (by decide) (fun hbr8 => absurd hbr8 (by intro q; have := of_decide_eq_true q; omega)) (fun hbr8 => ?_)
  exact zt_throw (own := kn_D) (cls := "java/lang/IndexOutOfBoundsException") (text := "no such place") (names := zt_nms) hx hb hml hown (Launch.traces_off hfl) hS0 hzt zt_fit3 zt_fits zt_o_164 (va_S.rf (A := fun _ => False)) (fun _ h => h.elim) (fun _ _ => trivial) hl.1 (Bd.noHandlers (atoms_spec (ws := kv_D_ranked) Bd.pre _ List.mem_cons_self)) hlocks kd_D_ranked_11 kd_D_ranked_14 kd_D_ranked_15 kd_D_ranked_17 kd_D_ranked_20 ⟨Nat.le_of_ble_eq_true rfl, Nat.le_of_ble_eq_true rfl, Nat.le_of_ble_eq_true rfl, Nat.le_of_ble_eq_true rfl⟩
set_option maxHeartbeats 4000000 in
set_option maxRecDepth 100000 in
theorem kt_D_nameAt (l : Launch) (hfl : l.flags = flags0) (D : va_G) (cI cW : ClassId) (e0 : Nat) (w : Nat) (no : Nat) (fo : Nat) (a : Nat) (ow : Nat) (oh : Nat) (nb : Nat) (k : Nat) (nm : Nat → zz_Wt) (p : Int) (i : Int) (S0 : State) (b0 : Nat) (hS0 : zt_W b0 S0) (hk : k ≤ 12) (hp1 : -2147483648 ≤ p ∧ p ≤ 2147483647) (hp : ¬ (0 ≤ p ∧ p < ((k : Nat) : Int))) : zt_Met l ky_D_nameAt kv_D_nameAt ({ frames := 6, cells := 1, slots := 6, locals := 100 }) (va_Pc [.ref e0, .int (zz_I (p)), .int (zz_I (i))] (zt_Pz S0 (zz_P D cI cW (va_P D kcl [(e0, .inr (4, [.ref w, .ref no, .ref fo, .ref a, .ref ow, .ref oh])), (no, .inr (0, [.ref nb, .int (zz_I (((k : Nat) : Int)))]))])))) (zt_Q "java/lang/IndexOutOfBoundsException" (fun _ => True) (fun _ => False)) 1 6 (fun _ => False) := by
  refine zt_ofW (cc := kb_D_nameAt) (maxL := 3) (ret := (some .int)) (by decide) rfl ?_
  intro pg ev sg mg ag bl mt cd s1 Bd hml hv
  obtain ⟨rfl, ⟨hP, hK⟩, hzt⟩ := hv
  have hP : va_P D kcl [(e0, .inr (4, [.ref w, .ref no, .ref fo, .ref a, .ref ow, .ref oh])), (no, .inr (0, [.ref nb, .int (zz_I (((k : Nat) : Int)))]))] sg.heap := hP
  have hx := Bd.exec
  have hb := Bd.bytes
  have hr := Bd.returns
  have hlocks := Bd.notSynchronized
  have hts : ∀ w ∈ zz_tbl, w.before _ sg = true := fun w h => atoms_spec (ws := kv_D_nameAt) Bd.pre w (List.mem_cons_of_mem _ h)
  have hown : sg.vm.findClass kn_D = some mg.cls := findClass_of_methodNamed Bd.named
  have hl := lv_entry ([.ref e0, .int (zz_I (p)), .int (zz_I (i))]) (n := 3) (Nat.le_of_ble_eq_true rfl)
  rw [lg_entry_eq]
  generalize (lg_sl ([.ref e0, .int (zz_I (p)), .int (zz_I (i))]) ++ List.replicate (3 - (lg_sl ([.ref e0, .int (zz_I (p)), .int (zz_I (i))])).length) Slot.unset).toArray = ls at hl ⊢
  have hl : lv_has ls 3 [(0, .ref e0), (1, .int (zz_I (p))), (2, .int (zz_I (i)))] := hl
  refine lv_aload_n hx hb kd_D_nameAt_0 rfl (lv_at hl 0 rfl) ?_
  refine va_get (D := D) (ci := 4) (v := .ref no) (C := kn_D) (T := kf_D) (N := 6) hx hb hts ki_D hown hK hP 0 rfl rfl 1 (by decide) (hts _ kw_112) (fun _ h9 => h9) rfl kd_D_nameAt_1 ?_
  refine lv_iload_n hx hb kd_D_nameAt_4 rfl (lv_at hl 1 rfl) ?_
  refine zz_pV ⟨hx, hb, hml, hown, hts⟩ hK (kc_G_has l D cI cW no nb k p (by omega) (by omega) rfl) (zz_gV kw_530 kw_531 kw_532 kw_29 kw_533) ⟨rfl, rfl⟩ ⟨rfl, kh_G_has⟩ ⟨Nat.le_of_ble_eq_true rfl, Nat.le_of_ble_eq_true rfl⟩ (va_recv (q := (kn_G, kf_G, 2)) hK hP rfl (show ([(e0, .inr (4, [.ref w, .ref no, .ref fo, .ref a, .ref ow, .ref oh])), (no, .inr (0, [.ref nb, .int (zz_I (((k : Nat) : Int)))]))] : va_W)[1]? = some _ from rfl)) (hP.sub (ws' := [(no, .inr (0, [.ref nb, .int (zz_I (((k : Nat) : Int)))]))]) [1] rfl) rfl hl.1 rfl (Nat.le_of_ble_eq_true rfl) kd_D_nameAt_5 ⟨Nat.le_of_ble_eq_true rfl, Nat.le_of_ble_eq_true rfl⟩ ?_
  refine zz_ifb_ne (tgt := 21) hx hb kd_D_nameAt_8 (by decide) (fun hbr8 => absurd hbr8 (by intro q; have := of_decide_eq_true q; omega)) (fun hbr8 => ?_)
  exact zt_throw (own := kn_D) (cls := "java/lang/IndexOutOfBoundsException") (text := "no such name") (names := zt_nms) hx hb hml hown (Launch.traces_off hfl) hS0 hzt zt_fit3 zt_fits zt_o_158 (va_S.rf (A := fun _ => False)) (fun _ h => h.elim) (fun _ _ => trivial) hl.1 (Bd.noHandlers (atoms_spec (ws := kv_D_nameAt) Bd.pre _ List.mem_cons_self)) hlocks kd_D_nameAt_11 kd_D_nameAt_14 kd_D_nameAt_15 kd_D_nameAt_17 kd_D_nameAt_20 ⟨Nat.le_of_ble_eq_true rfl, Nat.le_of_ble_eq_true rfl, Nat.le_of_ble_eq_true rfl, Nat.le_of_ble_eq_true rfl⟩
set_option maxHeartbeats 4000000 in
set_option maxRecDepth 100000 in
theorem kt_D_alike (l : Launch) (hfl : l.flags = flags0) (D : va_G) (cI cW : ClassId) (e0 : Nat) (w : Nat) (no : Nat) (fo : Nat) (a : Nat) (ow : Nat) (oh : Nat) (nb : Nat) (k : Nat) (nm : Nat → zz_Wt) (p : Int) (S0 : State) (b0 : Nat) (hS0 : zt_W b0 S0) (hk : k ≤ 12) (hp1 : -2147483648 ≤ p ∧ p ≤ 2147483647) (hp : ¬ (0 ≤ p ∧ p < ((k : Nat) : Int))) : zt_Met l ky_D_alike kv_D_alike ({ frames := 6, cells := 1, slots := 6, locals := 128 }) (va_Pc [.ref e0, .int (zz_I (p))] (zt_Pz S0 (zz_P D cI cW (va_P D kcl [(e0, .inr (4, [.ref w, .ref no, .ref fo, .ref a, .ref ow, .ref oh])), (no, .inr (0, [.ref nb, .int (zz_I (((k : Nat) : Int)))]))])))) (zt_Q "java/lang/IndexOutOfBoundsException" (fun _ => True) (fun _ => False)) 1 6 (fun _ => False) := by
  refine zt_ofW (cc := kb_D_alike) (maxL := 2) (ret := (some .int)) (by decide) rfl ?_
  intro pg ev sg mg ag bl mt cd s1 Bd hml hv
  obtain ⟨rfl, ⟨hP, hK⟩, hzt⟩ := hv
  have hP : va_P D kcl [(e0, .inr (4, [.ref w, .ref no, .ref fo, .ref a, .ref ow, .ref oh])), (no, .inr (0, [.ref nb, .int (zz_I (((k : Nat) : Int)))]))] sg.heap := hP
  have hx := Bd.exec
  have hb := Bd.bytes
  have hr := Bd.returns
  have hlocks := Bd.notSynchronized
  have hts : ∀ w ∈ zz_tbl, w.before _ sg = true := fun w h => atoms_spec (ws := kv_D_alike) Bd.pre w (List.mem_cons_of_mem _ h)
  have hown : sg.vm.findClass kn_D = some mg.cls := findClass_of_methodNamed Bd.named
  have hl := lv_entry ([.ref e0, .int (zz_I (p))]) (n := 2) (Nat.le_of_ble_eq_true rfl)
  rw [lg_entry_eq]
  generalize (lg_sl ([.ref e0, .int (zz_I (p))]) ++ List.replicate (2 - (lg_sl ([.ref e0, .int (zz_I (p))])).length) Slot.unset).toArray = ls at hl ⊢
  have hl : lv_has ls 2 [(0, .ref e0), (1, .int (zz_I (p)))] := hl
  refine lv_aload_n hx hb kd_D_alike_0 rfl (lv_at hl 0 rfl) ?_
  refine va_get (D := D) (ci := 4) (v := .ref no) (C := kn_D) (T := kf_D) (N := 6) hx hb hts ki_D hown hK hP 0 rfl rfl 1 (by decide) (hts _ kw_112) (fun _ h9 => h9) rfl kd_D_alike_1 ?_
  refine lv_iload_n hx hb kd_D_alike_4 rfl (lv_at hl 1 rfl) ?_
  refine zz_pV ⟨hx, hb, hml, hown, hts⟩ hK (kc_G_has l D cI cW no nb k p (by omega) (by omega) rfl) (zz_gV kw_530 kw_531 kw_532 kw_29 kw_533) ⟨rfl, rfl⟩ ⟨rfl, kh_G_has⟩ ⟨Nat.le_of_ble_eq_true rfl, Nat.le_of_ble_eq_true rfl⟩ (va_recv (q := (kn_G, kf_G, 2)) hK hP rfl (show ([(e0, .inr (4, [.ref w, .ref no, .ref fo, .ref a, .ref ow, .ref oh])), (no, .inr (0, [.ref nb, .int (zz_I (((k : Nat) : Int)))]))] : va_W)[1]? = some _ from rfl)) (hP.sub (ws' := [(no, .inr (0, [.ref nb, .int (zz_I (((k : Nat) : Int)))]))]) [1] rfl) rfl hl.1 rfl (Nat.le_of_ble_eq_true rfl) kd_D_alike_5 ⟨Nat.le_of_ble_eq_true rfl, Nat.le_of_ble_eq_true rfl⟩ ?_
  refine zz_ifb_ne (tgt := 21) hx hb kd_D_alike_8 (by decide) (fun hbr8 => absurd hbr8 (by intro q; have := of_decide_eq_true q; omega)) (fun hbr8 => ?_)
  exact zt_throw (own := kn_D) (cls := "java/lang/IndexOutOfBoundsException") (text := "no such name") (names := zt_nms) hx hb hml hown (Launch.traces_off hfl) hS0 hzt zt_fit3 zt_fits zt_o_158 (va_S.rf (A := fun _ => False)) (fun _ h => h.elim) (fun _ _ => trivial) hl.1 (Bd.noHandlers (atoms_spec (ws := kv_D_alike) Bd.pre _ List.mem_cons_self)) hlocks kd_D_alike_11 kd_D_alike_14 kd_D_alike_15 kd_D_alike_17 kd_D_alike_20 ⟨Nat.le_of_ble_eq_true rfl, Nat.le_of_ble_eq_true rfl, Nat.le_of_ble_eq_true rfl, Nat.le_of_ble_eq_true rfl⟩
set_option maxHeartbeats 4000000 in
set_option maxRecDepth 100000 in
theorem kt_D_register1 (l : Launch) (hfl : l.flags = flags0) (D : va_G) (cI cW : ClassId) (e0 : Nat) (w : Nat) (no : Nat) (fo : Nat) (a : Nat) (ow : Nat) (oh : Nat) (r : Nat) (q : Nat) (x : Nat) (n : Nat) (g : Nat → Int) (S0 : State) (b0 : Nat) (hS0 : zt_W b0 S0) (hn : n ≤ 48) (hg : ck_ok g n) (hid : ck_id g n = false) : zt_Met l ky_D_register kv_D_register ({ frames := 6, cells := 1, slots := 6, locals := 123 }) (va_Pc [.ref e0] (zt_Pz S0 (zz_P D cI cW (va_P D kcl [(e0, .inr (4, [.ref w, .ref no, .ref fo, .ref a, .ref ow, .ref oh])), (w, .inr (3, [.ref r, .ref q])), (r, .inr (1, [.ref x, .int (zz_I (((n : Nat) : Int)))])), (x, .inl (cI, 48, .inl (zz_A (g))))])))) (zt_Q "java/lang/IllegalArgumentException" (fun _ => True) (fun _ => False)) 1 6 (fun _ => False) := by
  refine zt_ofW (cc := kb_D_register) (maxL := 1) (ret := (some .int)) (by decide) rfl ?_
  intro pg ev sg mg ag bl mt cd s1 Bd hml hv
  obtain ⟨rfl, ⟨hP, hK⟩, hzt⟩ := hv
  have hP : va_P D kcl [(e0, .inr (4, [.ref w, .ref no, .ref fo, .ref a, .ref ow, .ref oh])), (w, .inr (3, [.ref r, .ref q])), (r, .inr (1, [.ref x, .int (zz_I (((n : Nat) : Int)))])), (x, .inl (cI, 48, .inl (zz_A (g))))] sg.heap := hP
  have hx := Bd.exec
  have hb := Bd.bytes
  have hr := Bd.returns
  have hlocks := Bd.notSynchronized
  have hts : ∀ w ∈ zz_tbl, w.before _ sg = true := fun w h => atoms_spec (ws := kv_D_register) Bd.pre w (List.mem_cons_of_mem _ h)
  have hown : sg.vm.findClass kn_D = some mg.cls := findClass_of_methodNamed Bd.named
  have hl := lv_entry ([.ref e0]) (n := 1) (Nat.le_of_ble_eq_true rfl)
  rw [lg_entry_eq]
  generalize (lg_sl ([.ref e0]) ++ List.replicate (1 - (lg_sl ([.ref e0])).length) Slot.unset).toArray = ls at hl ⊢
  have hl : lv_has ls 1 [(0, .ref e0)] := hl
  refine lv_aload_n hx hb kd_D_register_0 rfl (lv_at hl 0 rfl) ?_
  refine va_get (D := D) (ci := 4) (v := .ref w) (C := kn_D) (T := kf_D) (N := 6) hx hb hts ki_D hown hK hP 0 rfl rfl 0 (by decide) (hts _ kw_111) (fun _ h9 => h9) rfl kd_D_register_1 ?_
  refine zz_pV ⟨hx, hb, hml, hown, hts⟩ hK (kc_W_characters l D cI cW w r q ) (zz_gV kw_171 kw_172 kw_173 kw_27 kw_174) ⟨rfl, rfl⟩ ⟨rfl, kh_W_characters⟩ ⟨Nat.le_of_ble_eq_true rfl, Nat.le_of_ble_eq_true rfl⟩ (va_recv (q := (kn_W, kf_W, 2)) hK hP rfl (show ([(e0, .inr (4, [.ref w, .ref no, .ref fo, .ref a, .ref ow, .ref oh])), (w, .inr (3, [.ref r, .ref q])), (r, .inr (1, [.ref x, .int (zz_I (((n : Nat) : Int)))])), (x, .inl (cI, 48, .inl (zz_A (g))))] : va_W)[1]? = some _ from rfl)) (hP.sub (ws' := [(w, .inr (3, [.ref r, .ref q]))]) [1] rfl) rfl hl.1 rfl (Nat.le_of_ble_eq_true rfl) kd_D_register_4 ⟨Nat.le_of_ble_eq_true rfl, Nat.le_of_ble_eq_true rfl⟩ ?_
  refine zz_pS ⟨hx, hb, hml, hown, hts⟩ hK (kc_L_isIdentifier l D cI cW r x n 48 g (by omega) (by omega) (by assumption) rfl) (zz_gS kw_489 kw_490 kw_30 kw_491) ⟨rfl, rfl⟩ kh_L_isIdentifier ⟨Nat.le_of_ble_eq_true rfl, Nat.le_of_ble_eq_true rfl⟩  (hP.sub (ws' := [(r, .inr (1, [.ref x, .int (zz_I (((n : Nat) : Int)))])), (x, .inl (cI, 48, .inl (zz_A (g))))]) [2, 3] rfl) rfl hl.1 rfl (Nat.le_of_ble_eq_true rfl) kd_D_register_7 ⟨Nat.le_of_ble_eq_true rfl, Nat.le_of_ble_eq_true rfl⟩ ?_
  refine zz_ifb_ne (tgt := 23) hx hb kd_D_register_10 (by decide) (fun hbr10 => absurd hbr10 (by intro q; rw [hid] at q; exact Bool.noConfusion q)) (fun hbr10 => ?_)
  exact zt_throw (own := kn_D) (cls := "java/lang/IllegalArgumentException") (text := "the text is not an identifier") (names := zt_nms) hx hb hml hown (Launch.traces_off hfl) hS0 hzt zt_fit1 zt_fits zt_o_135 (va_S.rf (A := fun _ => False)) (fun _ h => h.elim) (fun _ _ => trivial) hl.1 (Bd.noHandlers (atoms_spec (ws := kv_D_register) Bd.pre _ List.mem_cons_self)) hlocks kd_D_register_13 kd_D_register_16 kd_D_register_17 kd_D_register_19 kd_D_register_22 ⟨Nat.le_of_ble_eq_true rfl, Nat.le_of_ble_eq_true rfl, Nat.le_of_ble_eq_true rfl, Nat.le_of_ble_eq_true rfl⟩
set_option maxHeartbeats 4000000 in
set_option maxRecDepth 100000 in
theorem kt_D_register2 (l : Launch) (hfl : l.flags = flags0) (D : va_G) (cI cW : ClassId) (e0 : Nat) (w : Nat) (no : Nat) (fo : Nat) (a : Nat) (ow : Nat) (oh : Nat) (r : Nat) (x : Nat) (n : Nat) (g : Nat → Int) (q : Nat) (z : Nat) (m : Nat) (h : Nat → Int) (nb : Nat) (k : Nat) (nm : Nat → zz_Wt) (S0 : State) (b0 : Nat) (hS0 : zt_W b0 S0) (hn : n ≤ 48) (hm : m ≤ 144) (hg : ck_ok g n) (hh : ck_ok h m) (hk : k ≤ 12) (hok : ∀ j, j < k → zz_ok (nm j)) (hid : ck_id g n = true) (hno : k = 12 ∨ ck_anyN (fun j => ck_nsm (nm j) (w, r, x, n, g, q, z, m, h)) k = true) : zt_Met l ky_D_register kv_D_register ({ frames := 6, cells := 1, slots := 6, locals := 123 }) (va_Pc [.ref e0] (zt_Pz S0 (zz_P D cI cW (fun H => va_P D kcl [(e0, .inr (4, [.ref w, .ref no, .ref fo, .ref a, .ref ow, .ref oh])), (w, .inr (3, [.ref r, .ref q])), (r, .inr (1, [.ref x, .int (zz_I (((n : Nat) : Int)))])), (x, .inl (cI, 48, .inl (zz_A (g)))), (q, .inr (1, [.ref z, .int (zz_I (((m : Nat) : Int)))])), (z, .inl (cI, 144, .inl (zz_A (h)))), (no, .inr (0, [.ref nb, .int (zz_I (((k : Nat) : Int)))])), (nb, .inl (cW, 12, .inr (.inr (.inr (.inr (fun jq => some (nm jq).1))))))] H ∧ ∀ j, j < k → va_P D kcl (zz_wr cI (nm j)) H)))) (zt_Q "java/lang/IllegalStateException" (fun _ => True) (fun _ => False)) 1 6 (fun _ => False) := by
  refine zt_ofW (cc := kb_D_register) (maxL := 1) (ret := (some .int)) (by decide) rfl ?_
  intro pg ev sg mg ag bl mt cd s1 Bd hml hv
  obtain ⟨rfl, ⟨hP, hK⟩, hzt⟩ := hv
  have hPic := hP
  have hx := Bd.exec
  have hb := Bd.bytes
  have hr := Bd.returns
  have hlocks := Bd.notSynchronized
  have hts : ∀ w ∈ zz_tbl, w.before _ sg = true := fun w h => atoms_spec (ws := kv_D_register) Bd.pre w (List.mem_cons_of_mem _ h)
  have hown : sg.vm.findClass kn_D = some mg.cls := findClass_of_methodNamed Bd.named
  have hl := lv_entry ([.ref e0]) (n := 1) (Nat.le_of_ble_eq_true rfl)
  rw [lg_entry_eq]
  generalize (lg_sl ([.ref e0]) ++ List.replicate (1 - (lg_sl ([.ref e0])).length) Slot.unset).toArray = ls at hl ⊢
  have hl : lv_has ls 1 [(0, .ref e0)] := hl
  obtain ⟨hP, hNm⟩ := hPic
  have hP : va_P D kcl [(e0, .inr (4, [.ref w, .ref no, .ref fo, .ref a, .ref ow, .ref oh])), (w, .inr (3, [.ref r, .ref q])), (r, .inr (1, [.ref x, .int (zz_I (((n : Nat) : Int)))])), (x, .inl (cI, 48, .inl (zz_A (g)))), (q, .inr (1, [.ref z, .int (zz_I (((m : Nat) : Int)))])), (z, .inl (cI, 144, .inl (zz_A (h)))), (no, .inr (0, [.ref nb, .int (zz_I (((k : Nat) : Int)))])), (nb, .inl (cW, 12, .inr (.inr (.inr (.inr (fun jq => some (nm jq).1))))))] sg.heap := hP
  refine lv_aload_n hx hb kd_D_register_0 rfl (lv_at hl 0 rfl) ?_
  refine va_get (D := D) (ci := 4) (v := .ref w) (C := kn_D) (T := kf_D) (N := 6) hx hb hts ki_D hown hK hP 0 rfl rfl 0 (by decide) (hts _ kw_111) (fun _ h9 => h9) rfl kd_D_register_1 ?_
  refine zz_pV ⟨hx, hb, hml, hown, hts⟩ hK (kc_W_characters l D cI cW w r q ) (zz_gV kw_171 kw_172 kw_173 kw_27 kw_174) ⟨rfl, rfl⟩ ⟨rfl, kh_W_characters⟩ ⟨Nat.le_of_ble_eq_true rfl, Nat.le_of_ble_eq_true rfl⟩ (va_recv (q := (kn_W, kf_W, 2)) hK hP rfl (show ([(e0, .inr (4, [.ref w, .ref no, .ref fo, .ref a, .ref ow, .ref oh])), (w, .inr (3, [.ref r, .ref q])), (r, .inr (1, [.ref x, .int (zz_I (((n : Nat) : Int)))])), (x, .inl (cI, 48, .inl (zz_A (g)))), (q, .inr (1, [.ref z, .int (zz_I (((m : Nat) : Int)))])), (z, .inl (cI, 144, .inl (zz_A (h)))), (no, .inr (0, [.ref nb, .int (zz_I (((k : Nat) : Int)))])), (nb, .inl (cW, 12, .inr (.inr (.inr (.inr (fun jq => some (nm jq).1))))))] : va_W)[1]? = some _ from rfl)) (hP.sub (ws' := [(w, .inr (3, [.ref r, .ref q]))]) [1] rfl) rfl hl.1 rfl (Nat.le_of_ble_eq_true rfl) kd_D_register_4 ⟨Nat.le_of_ble_eq_true rfl, Nat.le_of_ble_eq_true rfl⟩ ?_
  refine zz_pS ⟨hx, hb, hml, hown, hts⟩ hK (kc_L_isIdentifier l D cI cW r x n 48 g (by omega) (by omega) (by assumption) rfl) (zz_gS kw_489 kw_490 kw_30 kw_491) ⟨rfl, rfl⟩ kh_L_isIdentifier ⟨Nat.le_of_ble_eq_true rfl, Nat.le_of_ble_eq_true rfl⟩  (hP.sub (ws' := [(r, .inr (1, [.ref x, .int (zz_I (((n : Nat) : Int)))])), (x, .inl (cI, 48, .inl (zz_A (g))))]) [2, 3] rfl) rfl hl.1 rfl (Nat.le_of_ble_eq_true rfl) kd_D_register_7 ⟨Nat.le_of_ble_eq_true rfl, Nat.le_of_ble_eq_true rfl⟩ ?_
  refine zz_ifb_ne (tgt := 23) hx hb kd_D_register_10 (by decide) (fun hbr10 => ?_) (fun hbr10 => absurd hbr10 (by intro q; rw [hid] at q; exact Bool.noConfusion q))
  refine lv_aload_n hx hb kd_D_register_23 rfl (lv_at hl 0 rfl) ?_
  refine va_get (D := D) (ci := 4) (v := .ref no) (C := kn_D) (T := kf_D) (N := 6) hx hb hts ki_D hown hK hP 0 rfl rfl 1 (by decide) (hts _ kw_112) (fun _ h9 => h9) rfl kd_D_register_24 ?_
  refine zz_pV ⟨hx, hb, hml, hown, hts⟩ hK (kc_G_isFull l D cI cW no nb k (by omega) rfl) (zz_gV kw_493 kw_494 kw_495 kw_29 kw_496) ⟨rfl, rfl⟩ ⟨rfl, kh_G_isFull⟩ ⟨Nat.le_of_ble_eq_true rfl, Nat.le_of_ble_eq_true rfl⟩ (va_recv (q := (kn_G, kf_G, 2)) hK hP rfl (show ([(e0, .inr (4, [.ref w, .ref no, .ref fo, .ref a, .ref ow, .ref oh])), (w, .inr (3, [.ref r, .ref q])), (r, .inr (1, [.ref x, .int (zz_I (((n : Nat) : Int)))])), (x, .inl (cI, 48, .inl (zz_A (g)))), (q, .inr (1, [.ref z, .int (zz_I (((m : Nat) : Int)))])), (z, .inl (cI, 144, .inl (zz_A (h)))), (no, .inr (0, [.ref nb, .int (zz_I (((k : Nat) : Int)))])), (nb, .inl (cW, 12, .inr (.inr (.inr (.inr (fun jq => some (nm jq).1))))))] : va_W)[6]? = some _ from rfl)) (hP.sub (ws' := [(no, .inr (0, [.ref nb, .int (zz_I (((k : Nat) : Int)))]))]) [6] rfl) rfl hl.1 rfl (Nat.le_of_ble_eq_true rfl) kd_D_register_27 ⟨Nat.le_of_ble_eq_true rfl, Nat.le_of_ble_eq_true rfl⟩ ?_
  refine zz_ifb_ne (tgt := 47) hx hb kd_D_register_30 (by decide) (fun hbr30 => ?_) (fun hbr30 => ?_)
  · exact zt_throw (own := kn_D) (cls := "java/lang/IllegalStateException") (text := "no place for the name, or it is one already") (names := zt_nms) hx hb hml hown (Launch.traces_off hfl) hS0 hzt zt_fit2 zt_fits zt_o_145 (va_S.rf (A := fun _ => False)) (fun _ h => h.elim) (fun _ _ => trivial) hl.1 (Bd.noHandlers (atoms_spec (ws := kv_D_register) Bd.pre _ List.mem_cons_self)) hlocks kd_D_register_47 kd_D_register_50 kd_D_register_51 kd_D_register_53 kd_D_register_56 ⟨Nat.le_of_ble_eq_true rfl, Nat.le_of_ble_eq_true rfl, Nat.le_of_ble_eq_true rfl, Nat.le_of_ble_eq_true rfl⟩
  · refine lv_aload_n hx hb kd_D_register_33 rfl (lv_at hl 0 rfl) ?_
    refine va_get (D := D) (ci := 4) (v := .ref no) (C := kn_D) (T := kf_D) (N := 6) hx hb hts ki_D hown hK hP 0 rfl rfl 1 (by decide) (hts _ kw_112) (fun _ h9 => h9) rfl kd_D_register_34 ?_
    refine lv_aload_n hx hb kd_D_register_37 rfl (lv_at hl 0 rfl) ?_
    refine va_get (D := D) (ci := 4) (v := .ref w) (C := kn_D) (T := kf_D) (N := 6) hx hb hts ki_D hown hK hP 0 rfl rfl 0 (by decide) (hts _ kw_111) (fun _ h9 => h9) rfl kd_D_register_38 ?_
    refine zz_pV ⟨hx, hb, hml, hown, hts⟩ hK (kc_G_holds l D cI cW no nb k nm w r x n g q z m h (by omega) (by assumption) (by omega) (by omega) (by assumption) (by assumption) rfl) (zz_gV kw_497 kw_498 kw_499 kw_29 kw_500) ⟨rfl, rfl⟩ ⟨rfl, kh_G_holds⟩ ⟨Nat.le_of_ble_eq_true rfl, Nat.le_of_ble_eq_true rfl⟩ (va_recv (q := (kn_G, kf_G, 2)) hK hP rfl (show ([(e0, .inr (4, [.ref w, .ref no, .ref fo, .ref a, .ref ow, .ref oh])), (w, .inr (3, [.ref r, .ref q])), (r, .inr (1, [.ref x, .int (zz_I (((n : Nat) : Int)))])), (x, .inl (cI, 48, .inl (zz_A (g)))), (q, .inr (1, [.ref z, .int (zz_I (((m : Nat) : Int)))])), (z, .inl (cI, 144, .inl (zz_A (h)))), (no, .inr (0, [.ref nb, .int (zz_I (((k : Nat) : Int)))])), (nb, .inl (cW, 12, .inr (.inr (.inr (.inr (fun jq => some (nm jq).1))))))] : va_W)[6]? = some _ from rfl)) ⟨hP.sub [6, 7, 1, 2, 3, 4, 5] rfl, hNm⟩ rfl hl.1 rfl (Nat.le_of_ble_eq_true rfl) kd_D_register_41 ⟨Nat.le_of_ble_eq_true rfl, Nat.le_of_ble_eq_true rfl⟩ ?_
    refine zz_ifb_eq (tgt := 57) hx hb kd_D_register_44 (by decide) (fun hbr44 => absurd hbr44 (by intro q; rcases hno with h9 | h9; exact absurd (of_decide_eq_false hbr30) (by omega); rw [h9] at q; exact Bool.noConfusion q)) (fun hbr44 => ?_)
    exact zt_throw (own := kn_D) (cls := "java/lang/IllegalStateException") (text := "no place for the name, or it is one already") (names := zt_nms) hx hb hml hown (Launch.traces_off hfl) hS0 hzt zt_fit2 zt_fits zt_o_145 (va_S.rf (A := fun _ => False)) (fun _ h => h.elim) (fun _ _ => trivial) hl.1 (Bd.noHandlers (atoms_spec (ws := kv_D_register) Bd.pre _ List.mem_cons_self)) hlocks kd_D_register_47 kd_D_register_50 kd_D_register_51 kd_D_register_53 kd_D_register_56 ⟨Nat.le_of_ble_eq_true rfl, Nat.le_of_ble_eq_true rfl, Nat.le_of_ble_eq_true rfl, Nat.le_of_ble_eq_true rfl⟩
set_option maxHeartbeats 4000000 in
set_option maxRecDepth 100000 in
theorem kt_D_type1 (l : Launch) (hfl : l.flags = flags0) (D : va_G) (cI cW : ClassId) (e0 : Nat) (w : Nat) (no : Nat) (fo : Nat) (a : Nat) (ow : Nat) (oh : Nat) (x9 : Int64) (t : Int) (S0 : State) (b0 : Nat) (hS0 : zt_W b0 S0) (ht : -2147483648 ≤ t ∧ t ≤ 2147483647) (hno : ¬ (1 ≤ t ∧ t ≤ 8 ∧ ck_bad x9 t.toNat = false)) : zt_Met l ky_D_type kv_D_type ({ frames := 6, cells := 1, slots := 6, locals := 100 }) (va_Pc [.ref e0, .long (x9), .int (zz_I (t))] (zt_Pz S0 (zz_P D cI cW (va_P D kcl [(e0, .inr (4, [.ref w, .ref no, .ref fo, .ref a, .ref ow, .ref oh]))])))) (zt_Q "java/lang/IllegalArgumentException" (fun _ => True) (fun _ => False)) 1 6 (fun _ => False) := by
  refine zt_ofW (cc := kb_D_type) (maxL := 5) (ret := (some .int)) (by decide) rfl ?_
  intro pg ev sg mg ag bl mt cd s1 Bd hml hv
  obtain ⟨rfl, ⟨hP, hK⟩, hzt⟩ := hv
  have hP : va_P D kcl [(e0, .inr (4, [.ref w, .ref no, .ref fo, .ref a, .ref ow, .ref oh]))] sg.heap := hP
  have hx := Bd.exec
  have hb := Bd.bytes
  have hr := Bd.returns
  have hlocks := Bd.notSynchronized
  have hts : ∀ w ∈ zz_tbl, w.before _ sg = true := fun w h => atoms_spec (ws := kv_D_type) Bd.pre w (List.mem_cons_of_mem _ h)
  have hown : sg.vm.findClass kn_D = some mg.cls := findClass_of_methodNamed Bd.named
  have hl := lv_entry ([.ref e0, .long (x9), .int (zz_I (t))]) (n := 5) (Nat.le_of_ble_eq_true rfl)
  rw [lg_entry_eq]
  generalize (lg_sl ([.ref e0, .long (x9), .int (zz_I (t))]) ++ List.replicate (5 - (lg_sl ([.ref e0, .long (x9), .int (zz_I (t))])).length) Slot.unset).toArray = ls at hl ⊢
  have hl : lv_has ls 5 [(0, .ref e0), (1, .long (x9)), (3, .int (zz_I (t)))] := hl
  refine lv_iload_n hx hb kd_D_type_0 rfl (lv_at hl 2 rfl) ?_
  refine zz_iconst hx hb (v := 1) (rfl) kd_D_type_1 ?_
  refine zz_icmp_lt (tgt := 19) hx hb kd_D_type_2 (by decide) (by omega) (fun hbr2 => ?_) (fun hbr2 => ?_)
  · exact zt_throw (own := kn_D) (cls := "java/lang/IllegalArgumentException") (text := "not 1 to 8 characters of 0 to 127") (names := zt_nms) hx hb hml hown (Launch.traces_off hfl) hS0 hzt zt_fit1 zt_fits zt_o_51 (va_S.rf (A := fun _ => False)) (fun _ h => h.elim) (fun _ _ => trivial) hl.1 (Bd.noHandlers (atoms_spec (ws := kv_D_type) Bd.pre _ List.mem_cons_self)) hlocks kd_D_type_19 kd_D_type_22 kd_D_type_23 kd_D_type_25 kd_D_type_28 ⟨Nat.le_of_ble_eq_true rfl, Nat.le_of_ble_eq_true rfl, Nat.le_of_ble_eq_true rfl, Nat.le_of_ble_eq_true rfl⟩
  · refine lv_iload_n hx hb kd_D_type_5 rfl (lv_at hl 2 rfl) ?_
    refine zz_bipush hx hb kd_D_type_6 (by decide) ?_
    refine zz_icmp_gt (tgt := 19) hx hb kd_D_type_8 (by decide) (by omega) (fun hbr8 => ?_) (fun hbr8 => ?_)
    · exact zt_throw (own := kn_D) (cls := "java/lang/IllegalArgumentException") (text := "not 1 to 8 characters of 0 to 127") (names := zt_nms) hx hb hml hown (Launch.traces_off hfl) hS0 hzt zt_fit1 zt_fits zt_o_51 (va_S.rf (A := fun _ => False)) (fun _ h => h.elim) (fun _ _ => trivial) hl.1 (Bd.noHandlers (atoms_spec (ws := kv_D_type) Bd.pre _ List.mem_cons_self)) hlocks kd_D_type_19 kd_D_type_22 kd_D_type_23 kd_D_type_25 kd_D_type_28 ⟨Nat.le_of_ble_eq_true rfl, Nat.le_of_ble_eq_true rfl, Nat.le_of_ble_eq_true rfl, Nat.le_of_ble_eq_true rfl⟩
    · refine lv_lload_n hx hb kd_D_type_11 rfl (lv_at hl 1 rfl) ?_
      refine lv_iload_n hx hb kd_D_type_12 rfl (lv_at hl 2 rfl) ?_
      refine zz_cast (y := ((t.toNat : Nat) : Int)) (by omega) ?_
      refine zz_pS ⟨hx, hb, hml, hown, hts⟩ hK (kc_D_areCharacters l D cI cW x9 t.toNat (by omega) rfl) (zz_gS kw_345 kw_346 kw_26 kw_347) ⟨rfl, rfl⟩ kh_D_areCharacters ⟨Nat.le_of_ble_eq_true rfl, Nat.le_of_ble_eq_true rfl⟩  trivial rfl hl.1 rfl (Nat.le_of_ble_eq_true rfl) kd_D_type_13 ⟨Nat.le_of_ble_eq_true rfl, Nat.le_of_ble_eq_true rfl⟩ ?_
      refine zz_ifb_ne (tgt := 29) hx hb kd_D_type_16 (by decide) (fun hbr16 => absurd hbr16 (by intro q; exact hno ⟨by omega, by omega, by cases e9 : ck_bad x9 t.toNat; rfl; rw [e9] at q; exact Bool.noConfusion q⟩)) (fun hbr16 => ?_)
      exact zt_throw (own := kn_D) (cls := "java/lang/IllegalArgumentException") (text := "not 1 to 8 characters of 0 to 127") (names := zt_nms) hx hb hml hown (Launch.traces_off hfl) hS0 hzt zt_fit1 zt_fits zt_o_51 (va_S.rf (A := fun _ => False)) (fun _ h => h.elim) (fun _ _ => trivial) hl.1 (Bd.noHandlers (atoms_spec (ws := kv_D_type) Bd.pre _ List.mem_cons_self)) hlocks kd_D_type_19 kd_D_type_22 kd_D_type_23 kd_D_type_25 kd_D_type_28 ⟨Nat.le_of_ble_eq_true rfl, Nat.le_of_ble_eq_true rfl, Nat.le_of_ble_eq_true rfl, Nat.le_of_ble_eq_true rfl⟩
set_option maxHeartbeats 4000000 in
set_option maxRecDepth 100000 in
theorem kt_D_type2 (l : Launch) (hfl : l.flags = flags0) (D : va_G) (cI cW : ClassId) (e0 : Nat) (w : Nat) (no : Nat) (fo : Nat) (a : Nat) (ow : Nat) (oh : Nat) (r : Nat) (q : Nat) (x : Nat) (n : Nat) (g : Nat → Int) (x9 : Int64) (t : Int) (S0 : State) (b0 : Nat) (hS0 : zt_W b0 S0) (hn : n ≤ 48) (ht : 1 ≤ t ∧ t ≤ 8 ∧ ck_bad x9 t.toNat = false) (hnt : 48 < ((n : Nat) : Int) + t) : zt_Met l ky_D_type kv_D_type ({ frames := 6, cells := 1, slots := 6, locals := 100 }) (va_Pc [.ref e0, .long (x9), .int (zz_I (t))] (zt_Pz S0 (zz_P D cI cW (va_P D kcl [(e0, .inr (4, [.ref w, .ref no, .ref fo, .ref a, .ref ow, .ref oh])), (w, .inr (3, [.ref r, .ref q])), (r, .inr (1, [.ref x, .int (zz_I (((n : Nat) : Int)))])), (x, .inl (cI, 48, .inl (zz_A (g))))])))) (zt_Q "java/lang/IllegalStateException" (fun _ => True) (fun _ => False)) 1 6 (fun _ => False) := by
  refine zt_ofW (cc := kb_D_type) (maxL := 5) (ret := (some .int)) (by decide) rfl ?_
  intro pg ev sg mg ag bl mt cd s1 Bd hml hv
  obtain ⟨rfl, ⟨hP, hK⟩, hzt⟩ := hv
  have hP : va_P D kcl [(e0, .inr (4, [.ref w, .ref no, .ref fo, .ref a, .ref ow, .ref oh])), (w, .inr (3, [.ref r, .ref q])), (r, .inr (1, [.ref x, .int (zz_I (((n : Nat) : Int)))])), (x, .inl (cI, 48, .inl (zz_A (g))))] sg.heap := hP
  have hx := Bd.exec
  have hb := Bd.bytes
  have hr := Bd.returns
  have hlocks := Bd.notSynchronized
  have hts : ∀ w ∈ zz_tbl, w.before _ sg = true := fun w h => atoms_spec (ws := kv_D_type) Bd.pre w (List.mem_cons_of_mem _ h)
  have hown : sg.vm.findClass kn_D = some mg.cls := findClass_of_methodNamed Bd.named
  have hl := lv_entry ([.ref e0, .long (x9), .int (zz_I (t))]) (n := 5) (Nat.le_of_ble_eq_true rfl)
  rw [lg_entry_eq]
  generalize (lg_sl ([.ref e0, .long (x9), .int (zz_I (t))]) ++ List.replicate (5 - (lg_sl ([.ref e0, .long (x9), .int (zz_I (t))])).length) Slot.unset).toArray = ls at hl ⊢
  have hl : lv_has ls 5 [(0, .ref e0), (1, .long (x9)), (3, .int (zz_I (t)))] := hl
  refine lv_iload_n hx hb kd_D_type_0 rfl (lv_at hl 2 rfl) ?_
  refine zz_iconst hx hb (v := 1) (rfl) kd_D_type_1 ?_
  refine zz_icmp_lt (tgt := 19) hx hb kd_D_type_2 (by decide) (by omega) (fun hbr2 => absurd hbr2 (by omega)) (fun hbr2 => ?_)
  refine lv_iload_n hx hb kd_D_type_5 rfl (lv_at hl 2 rfl) ?_
  refine zz_bipush hx hb kd_D_type_6 (by decide) ?_
  refine zz_icmp_gt (tgt := 19) hx hb kd_D_type_8 (by decide) (by omega) (fun hbr8 => absurd hbr8 (by omega)) (fun hbr8 => ?_)
  refine lv_lload_n hx hb kd_D_type_11 rfl (lv_at hl 1 rfl) ?_
  refine lv_iload_n hx hb kd_D_type_12 rfl (lv_at hl 2 rfl) ?_
  refine zz_cast (y := ((t.toNat : Nat) : Int)) (by omega) ?_
  refine zz_pS ⟨hx, hb, hml, hown, hts⟩ hK (kc_D_areCharacters l D cI cW x9 t.toNat (by omega) rfl) (zz_gS kw_345 kw_346 kw_26 kw_347) ⟨rfl, rfl⟩ kh_D_areCharacters ⟨Nat.le_of_ble_eq_true rfl, Nat.le_of_ble_eq_true rfl⟩  trivial rfl hl.1 rfl (Nat.le_of_ble_eq_true rfl) kd_D_type_13 ⟨Nat.le_of_ble_eq_true rfl, Nat.le_of_ble_eq_true rfl⟩ ?_
  refine zz_ifb_ne (tgt := 29) hx hb kd_D_type_16 (by decide) (fun hbr16 => ?_) (fun hbr16 => absurd hbr16 (by intro q; rw [ht.2.2] at q; exact Bool.noConfusion q))
  refine lv_aload_n hx hb kd_D_type_29 rfl (lv_at hl 0 rfl) ?_
  refine va_get (D := D) (ci := 4) (v := .ref w) (C := kn_D) (T := kf_D) (N := 6) hx hb hts ki_D hown hK hP 0 rfl rfl 0 (by decide) (hts _ kw_111) (fun _ h9 => h9) rfl kd_D_type_30 ?_
  refine zz_pV ⟨hx, hb, hml, hown, hts⟩ hK (kc_W_length l D cI cW w r q x n  rfl) (zz_gV kw_134 kw_135 kw_136 kw_27 kw_137) ⟨rfl, rfl⟩ ⟨rfl, kh_W_length⟩ ⟨Nat.le_of_ble_eq_true rfl, Nat.le_of_ble_eq_true rfl⟩ (va_recv (q := (kn_W, kf_W, 2)) hK hP rfl (show ([(e0, .inr (4, [.ref w, .ref no, .ref fo, .ref a, .ref ow, .ref oh])), (w, .inr (3, [.ref r, .ref q])), (r, .inr (1, [.ref x, .int (zz_I (((n : Nat) : Int)))])), (x, .inl (cI, 48, .inl (zz_A (g))))] : va_W)[1]? = some _ from rfl)) (hP.sub (ws' := [(w, .inr (3, [.ref r, .ref q])), (r, .inr (1, [.ref x, .int (zz_I (((n : Nat) : Int)))]))]) [1, 2] rfl) rfl hl.1 rfl (Nat.le_of_ble_eq_true rfl) kd_D_type_33 ⟨Nat.le_of_ble_eq_true rfl, Nat.le_of_ble_eq_true rfl⟩ ?_
  refine lv_iload_n hx hb kd_D_type_36 rfl (lv_at hl 2 rfl) ?_
  refine zz_iadd hx hb (v := ((n : Nat) : Int) + t) (rfl) kd_D_type_37 ?_
  refine zz_bipush hx hb kd_D_type_38 (by decide) ?_
  refine zz_icmp_le (tgt := 53) hx hb kd_D_type_40 (by decide) (by omega) (fun hbr40 => absurd hbr40 (by omega)) (fun hbr40 => ?_)
  exact zt_throw (own := kn_D) (cls := "java/lang/IllegalStateException") (text := "the text would be too long") (names := zt_nms) hx hb hml hown (Launch.traces_off hfl) hS0 hzt zt_fit2 zt_fits zt_o_62 (va_S.rf (A := fun _ => False)) (fun _ h => h.elim) (fun _ _ => trivial) hl.1 (Bd.noHandlers (atoms_spec (ws := kv_D_type) Bd.pre _ List.mem_cons_self)) hlocks kd_D_type_43 kd_D_type_46 kd_D_type_47 kd_D_type_49 kd_D_type_52 ⟨Nat.le_of_ble_eq_true rfl, Nat.le_of_ble_eq_true rfl, Nat.le_of_ble_eq_true rfl, Nat.le_of_ble_eq_true rfl⟩
set_option maxHeartbeats 4000000 in
set_option maxRecDepth 100000 in
theorem kt_D_word (l : Launch) (hfl : l.flags = flags0) (D : va_G) (cI cW : ClassId) (e0 : Nat) (w : Nat) (no : Nat) (fo : Nat) (a : Nat) (ow : Nat) (oh : Nat) (r : Nat) (q : Nat) (x : Nat) (n : Nat) (g : Nat → Int) (fp : Nat) (fq : Nat) (fk : Nat) (fB : Nat → Int) (fE : Nat → Int) (i : Int) (c : Int) (S0 : State) (b0 : Nat) (hS0 : zt_W b0 S0) (hn : n ≤ 48) (hg : ck_ok g n) (hi : -2147483648 ≤ i ∧ i ≤ 2147483647) (hc : -2147483648 ≤ c ∧ c ≤ 2147483647) (hno : ¬ (0 ≤ i ∧ i < ((ck_wc g n : Nat) : Int) ∧ 0 ≤ c ∧ c ≤ 3)) (hN : zz_N [e0, w, r, x, fo, fp, fq]) : zt_Met l ky_D_word kv_D_word ({ frames := 6, cells := 1, slots := 6, locals := 131 }) (va_Pc [.ref e0, .int (zz_I (i)), .int (zz_I (c))] (zt_Pz S0 (zz_P D cI cW (va_P D kcl [(e0, .inr (4, [.ref w, .ref no, .ref fo, .ref a, .ref ow, .ref oh])), (w, .inr (3, [.ref r, .ref q])), (r, .inr (1, [.ref x, .int (zz_I (((n : Nat) : Int)))])), (x, .inl (cI, 48, .inl (zz_A (g)))), (fo, .inr (2, [.ref fp, .ref fq, .int (zz_I (((fk : Nat) : Int)))])), (fp, .inl (cI, 48, .inl (zz_A (fB)))), (fq, .inl (cI, 48, .inl (zz_A (fE))))])))) (zt_Q "java/lang/IllegalArgumentException" (va_P D kcl [(e0, .inr (4, [.ref w, .ref no, .ref fo, .ref a, .ref ow, .ref oh])), (w, .inr (3, [.ref r, .ref q])), (r, .inr (1, [.ref x, .int (zz_I (((n : Nat) : Int)))])), (x, .inl (cI, 48, .inl (zz_A (g)))), (fo, .inr (2, [.ref fp, .ref fq, .int (zz_I ((((ck_wk g n n 0 (0, fB, fE)).1 : Nat) : Int)))])), (fp, .inl (cI, 48, .inl (zz_A ((ck_wk g n n 0 (0, fB, fE)).2.1)))), (fq, .inl (cI, 48, .inl (zz_A ((ck_wk g n n 0 (0, fB, fE)).2.2))))]) (zz_F [(e0, .inr (4, [.ref w, .ref no, .ref fo, .ref a, .ref ow, .ref oh])), (w, .inr (3, [.ref r, .ref q])), (r, .inr (1, [.ref x, .int (zz_I (((n : Nat) : Int)))])), (x, .inl (cI, 48, .inl (zz_A (g)))), (fo, .inr (2, [.ref fp, .ref fq, .int (zz_I (((fk : Nat) : Int)))])), (fp, .inl (cI, 48, .inl (zz_A (fB)))), (fq, .inl (cI, 48, .inl (zz_A (fE))))])) 1 6 (zz_F [(e0, .inr (4, [.ref w, .ref no, .ref fo, .ref a, .ref ow, .ref oh])), (w, .inr (3, [.ref r, .ref q])), (r, .inr (1, [.ref x, .int (zz_I (((n : Nat) : Int)))])), (x, .inl (cI, 48, .inl (zz_A (g)))), (fo, .inr (2, [.ref fp, .ref fq, .int (zz_I (((fk : Nat) : Int)))])), (fp, .inl (cI, 48, .inl (zz_A (fB)))), (fq, .inl (cI, 48, .inl (zz_A (fE))))]) := by
  refine zt_ofW (cc := kb_D_word) (maxL := 3) (ret := (some .int)) (by decide) rfl ?_
  intro pg ev sg mg ag bl mt cd s1 Bd hml hv
  obtain ⟨rfl, ⟨hP, hK⟩, hzt⟩ := hv
  have hP : va_P D kcl [(e0, .inr (4, [.ref w, .ref no, .ref fo, .ref a, .ref ow, .ref oh])), (w, .inr (3, [.ref r, .ref q])), (r, .inr (1, [.ref x, .int (zz_I (((n : Nat) : Int)))])), (x, .inl (cI, 48, .inl (zz_A (g)))), (fo, .inr (2, [.ref fp, .ref fq, .int (zz_I (((fk : Nat) : Int)))])), (fp, .inl (cI, 48, .inl (zz_A (fB)))), (fq, .inl (cI, 48, .inl (zz_A (fE))))] sg.heap := hP
  have hx := Bd.exec
  have hb := Bd.bytes
  have hr := Bd.returns
  have hlocks := Bd.notSynchronized
  have hts : ∀ w ∈ zz_tbl, w.before _ sg = true := fun w h => atoms_spec (ws := kv_D_word) Bd.pre w (List.mem_cons_of_mem _ h)
  have hown : sg.vm.findClass kn_D = some mg.cls := findClass_of_methodNamed Bd.named
  have hD : va_D (zz_F [(e0, .inr (4, [.ref w, .ref no, .ref fo, .ref a, .ref ow, .ref oh])), (w, .inr (3, [.ref r, .ref q])), (r, .inr (1, [.ref x, .int (zz_I (((n : Nat) : Int)))])), (x, .inl (cI, 48, .inl (zz_A (g)))), (fo, .inr (2, [.ref fp, .ref fq, .int (zz_I (((fk : Nat) : Int)))])), (fp, .inl (cI, 48, .inl (zz_A (fB)))), (fq, .inl (cI, 48, .inl (zz_A (fE))))]) [(e0, .inr (4, [.ref w, .ref no, .ref fo, .ref a, .ref ow, .ref oh])), (w, .inr (3, [.ref r, .ref q])), (r, .inr (1, [.ref x, .int (zz_I (((n : Nat) : Int)))])), (x, .inl (cI, 48, .inl (zz_A (g)))), (fo, .inr (2, [.ref fp, .ref fq, .int (zz_I (((fk : Nat) : Int)))])), (fp, .inl (cI, 48, .inl (zz_A (fB)))), (fq, .inl (cI, 48, .inl (zz_A (fE))))] := zz_Dof hN rfl
  have hS : va_S (zz_F [(e0, .inr (4, [.ref w, .ref no, .ref fo, .ref a, .ref ow, .ref oh])), (w, .inr (3, [.ref r, .ref q])), (r, .inr (1, [.ref x, .int (zz_I (((n : Nat) : Int)))])), (x, .inl (cI, 48, .inl (zz_A (g)))), (fo, .inr (2, [.ref fp, .ref fq, .int (zz_I (((fk : Nat) : Int)))])), (fp, .inl (cI, 48, .inl (zz_A (fB)))), (fq, .inl (cI, 48, .inl (zz_A (fE))))]) sg.heap sg.heap [] := va_S.rf
  have hP0 := hP
  have hl := lv_entry ([.ref e0, .int (zz_I (i)), .int (zz_I (c))]) (n := 3) (Nat.le_of_ble_eq_true rfl)
  rw [lg_entry_eq]
  generalize (lg_sl ([.ref e0, .int (zz_I (i)), .int (zz_I (c))]) ++ List.replicate (3 - (lg_sl ([.ref e0, .int (zz_I (i)), .int (zz_I (c))])).length) Slot.unset).toArray = ls at hl ⊢
  have hl : lv_has ls 3 [(0, .ref e0), (1, .int (zz_I (i))), (2, .int (zz_I (c)))] := hl
  have hw48 := ck_wc_48 (g := g) (n := n)
  refine lv_aload_n hx hb kd_D_word_0 rfl (lv_at hl 0 rfl) ?_
  refine va_get (D := D) (ci := 4) (v := .ref fo) (C := kn_D) (T := kf_D) (N := 6) hx hb hts ki_D hown hK hP 0 rfl rfl 2 (by decide) (hts _ kw_113) (fun _ h9 => h9) rfl kd_D_word_1 ?_
  refine lv_aload_n hx hb kd_D_word_4 rfl (lv_at hl 0 rfl) ?_
  refine va_get (D := D) (ci := 4) (v := .ref w) (C := kn_D) (T := kf_D) (N := 6) hx hb hts ki_D hown hK hP 0 rfl rfl 0 (by decide) (hts _ kw_111) (fun _ h9 => h9) rfl kd_D_word_5 ?_
  refine zz_pV ⟨hx, hb, hml, hown, hts⟩ hK (kc_W_characters l D cI cW w r q ) (zz_gV kw_171 kw_172 kw_173 kw_27 kw_174) ⟨rfl, rfl⟩ ⟨rfl, kh_W_characters⟩ ⟨Nat.le_of_ble_eq_true rfl, Nat.le_of_ble_eq_true rfl⟩ (va_recv (q := (kn_W, kf_W, 2)) hK hP rfl (show ([(e0, .inr (4, [.ref w, .ref no, .ref fo, .ref a, .ref ow, .ref oh])), (w, .inr (3, [.ref r, .ref q])), (r, .inr (1, [.ref x, .int (zz_I (((n : Nat) : Int)))])), (x, .inl (cI, 48, .inl (zz_A (g)))), (fo, .inr (2, [.ref fp, .ref fq, .int (zz_I (((fk : Nat) : Int)))])), (fp, .inl (cI, 48, .inl (zz_A (fB)))), (fq, .inl (cI, 48, .inl (zz_A (fE))))] : va_W)[1]? = some _ from rfl)) (hP.sub (ws' := [(w, .inr (3, [.ref r, .ref q]))]) [1] rfl) rfl hl.1 rfl (Nat.le_of_ble_eq_true rfl) kd_D_word_8 ⟨Nat.le_of_ble_eq_true rfl, Nat.le_of_ble_eq_true rfl⟩ ?_
  refine zz_wV ⟨hx, hb, hml, hown, hts⟩ hK (kc_L_find l D cI cW fo fp fq fk fB fE r x n 48 g (by omega) (by omega) (by assumption) (by omega) (hN.sub [4, 5, 6, 2, 3] rfl rfl)) (zz_gV kw_280 kw_281 kw_282 kw_30 kw_283) ⟨rfl, rfl⟩ ⟨rfl, kh_L_find⟩ ⟨Nat.le_of_ble_eq_true rfl, Nat.le_of_ble_eq_true rfl⟩ (va_recv (q := (kn_L, kf_L, 3)) hK hP rfl (show ([(e0, .inr (4, [.ref w, .ref no, .ref fo, .ref a, .ref ow, .ref oh])), (w, .inr (3, [.ref r, .ref q])), (r, .inr (1, [.ref x, .int (zz_I (((n : Nat) : Int)))])), (x, .inl (cI, 48, .inl (zz_A (g)))), (fo, .inr (2, [.ref fp, .ref fq, .int (zz_I (((fk : Nat) : Int)))])), (fp, .inl (cI, 48, .inl (zz_A (fB)))), (fq, .inl (cI, 48, .inl (zz_A (fE))))] : va_W)[4]? = some _ from rfl)) hP hD hS [4, 5, 6, 2, 3] rfl rfl (fun _ => rfl) rfl hl.1 rfl (Nat.le_of_ble_eq_true rfl) kd_D_word_11 ⟨Nat.le_of_ble_eq_true rfl, Nat.le_of_ble_eq_true rfl⟩ (fun u11 H locs hu11 hP hD hS => ?_)
  have hP : va_P D kcl [(e0, .inr (4, [.ref w, .ref no, .ref fo, .ref a, .ref ow, .ref oh])), (w, .inr (3, [.ref r, .ref q])), (r, .inr (1, [.ref x, .int (zz_I (((n : Nat) : Int)))])), (x, .inl (cI, 48, .inl (zz_A (g)))), (fo, .inr (2, [.ref fp, .ref fq, .int (zz_I ((((ck_wk g n n 0 (0, fB, fE)).1 : Nat) : Int)))])), (fp, .inl (cI, 48, .inl (zz_A ((ck_wk g n n 0 (0, fB, fE)).2.1)))), (fq, .inl (cI, 48, .inl (zz_A ((ck_wk g n n 0 (0, fB, fE)).2.2))))] H := hP
  have hD : va_D (zz_F [(e0, .inr (4, [.ref w, .ref no, .ref fo, .ref a, .ref ow, .ref oh])), (w, .inr (3, [.ref r, .ref q])), (r, .inr (1, [.ref x, .int (zz_I (((n : Nat) : Int)))])), (x, .inl (cI, 48, .inl (zz_A (g)))), (fo, .inr (2, [.ref fp, .ref fq, .int (zz_I (((fk : Nat) : Int)))])), (fp, .inl (cI, 48, .inl (zz_A (fB)))), (fq, .inl (cI, 48, .inl (zz_A (fE))))]) [(e0, .inr (4, [.ref w, .ref no, .ref fo, .ref a, .ref ow, .ref oh])), (w, .inr (3, [.ref r, .ref q])), (r, .inr (1, [.ref x, .int (zz_I (((n : Nat) : Int)))])), (x, .inl (cI, 48, .inl (zz_A (g)))), (fo, .inr (2, [.ref fp, .ref fq, .int (zz_I ((((ck_wk g n n 0 (0, fB, fE)).1 : Nat) : Int)))])), (fp, .inl (cI, 48, .inl (zz_A ((ck_wk g n n 0 (0, fB, fE)).2.1)))), (fq, .inl (cI, 48, .inl (zz_A ((ck_wk g n n 0 (0, fB, fE)).2.2))))] := hD
  refine lv_iload_n hx hb kd_D_word_14 rfl (lv_at hl 1 rfl) ?_
  refine zz_if_lt (tgt := 29) hx hb kd_D_word_15 (by decide) (by omega) (fun hbr15 => ?_) (fun hbr15 => ?_)
  · exact zt_throw (own := kn_D) (cls := "java/lang/IllegalArgumentException") (text := "no such word") (names := zt_nms) hx hb hml hown (Launch.traces_off hfl) hS0 hzt zt_fit1 zt_fits zt_o_110 hS (fun _ hq _ hc => zt_ns hP0 hq hc) (fun _ hk => zt_keep hP hk) hl.1 (Bd.noHandlers (atoms_spec (ws := kv_D_word) Bd.pre _ List.mem_cons_self)) hlocks kd_D_word_29 kd_D_word_32 kd_D_word_33 kd_D_word_35 kd_D_word_38 ⟨Nat.le_of_ble_eq_true rfl, Nat.le_of_ble_eq_true rfl, Nat.le_of_ble_eq_true rfl, Nat.le_of_ble_eq_true rfl⟩
  · refine lv_iload_n hx hb kd_D_word_18 rfl (lv_at hl 1 rfl) ?_
    refine lv_aload_n hx hb kd_D_word_19 rfl (lv_at hl 0 rfl) ?_
    refine va_get (D := D) (ci := 4) (v := .ref fo) (C := kn_D) (T := kf_D) (N := 6) hx hb hts ki_D hown hK hP 0 rfl rfl 2 (by decide) (hts _ kw_113) (fun _ h9 => h9) rfl kd_D_word_20 ?_
    refine zz_pV ⟨hx, hb, hml, hown, hts⟩ hK (kc_L_count l D cI cW fo fp fq ((ck_wk g n n 0 (0, fB, fE)).1)  (v := ((ck_wc g n : Nat) : Int)) (by rw [ck_wc_eq])) (zz_gV kw_305 kw_306 kw_307 kw_30 kw_308) ⟨rfl, rfl⟩ ⟨rfl, kh_L_count⟩ ⟨Nat.le_of_ble_eq_true rfl, Nat.le_of_ble_eq_true rfl⟩ (va_recv (q := (kn_L, kf_L, 3)) hK hP rfl (show ([(e0, .inr (4, [.ref w, .ref no, .ref fo, .ref a, .ref ow, .ref oh])), (w, .inr (3, [.ref r, .ref q])), (r, .inr (1, [.ref x, .int (zz_I (((n : Nat) : Int)))])), (x, .inl (cI, 48, .inl (zz_A (g)))), (fo, .inr (2, [.ref fp, .ref fq, .int (zz_I ((((ck_wk g n n 0 (0, fB, fE)).1 : Nat) : Int)))])), (fp, .inl (cI, 48, .inl (zz_A ((ck_wk g n n 0 (0, fB, fE)).2.1)))), (fq, .inl (cI, 48, .inl (zz_A ((ck_wk g n n 0 (0, fB, fE)).2.2))))] : va_W)[4]? = some _ from rfl)) (hP.sub (ws' := [(fo, .inr (2, [.ref fp, .ref fq, .int (zz_I ((((ck_wk g n n 0 (0, fB, fE)).1 : Nat) : Int)))]))]) [4] rfl) rfl hl.1 rfl (Nat.le_of_ble_eq_true rfl) kd_D_word_23 ⟨Nat.le_of_ble_eq_true rfl, Nat.le_of_ble_eq_true rfl⟩ ?_
    refine zz_icmp_lt (tgt := 39) hx hb kd_D_word_26 (by decide) (by omega) (fun hbr26 => ?_) (fun hbr26 => ?_)
    · refine lv_iload_n hx hb kd_D_word_39 rfl (lv_at hl 2 rfl) ?_
      refine lv_tableOut (tgt := 127) hx hb kd_D_word_40 (by rw [zz_T (by omega)]; omega) (by decide) ?_
      exact zt_throw (own := kn_D) (cls := "java/lang/IllegalArgumentException") (text := "what is not 0 to 3") (names := zt_nms) hx hb hml hown (Launch.traces_off hfl) hS0 hzt zt_fit1 zt_fits zt_o_129 hS (fun _ hq _ hc => zt_ns hP0 hq hc) (fun _ hk => zt_keep hP hk) hl.1 (Bd.noHandlers (atoms_spec (ws := kv_D_word) Bd.pre _ List.mem_cons_self)) hlocks kd_D_word_127 kd_D_word_130 kd_D_word_131 kd_D_word_133 kd_D_word_136 ⟨Nat.le_of_ble_eq_true rfl, Nat.le_of_ble_eq_true rfl, Nat.le_of_ble_eq_true rfl, Nat.le_of_ble_eq_true rfl⟩
    · exact zt_throw (own := kn_D) (cls := "java/lang/IllegalArgumentException") (text := "no such word") (names := zt_nms) hx hb hml hown (Launch.traces_off hfl) hS0 hzt zt_fit1 zt_fits zt_o_110 hS (fun _ hq _ hc => zt_ns hP0 hq hc) (fun _ hk => zt_keep hP hk) hl.1 (Bd.noHandlers (atoms_spec (ws := kv_D_word) Bd.pre _ List.mem_cons_self)) hlocks kd_D_word_29 kd_D_word_32 kd_D_word_33 kd_D_word_35 kd_D_word_38 ⟨Nat.le_of_ble_eq_true rfl, Nat.le_of_ble_eq_true rfl, Nat.le_of_ble_eq_true rfl, Nat.le_of_ble_eq_true rfl⟩
