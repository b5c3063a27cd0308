set_option maxHeartbeats 4000000 in
set_option maxRecDepth 100000 in
theorem kc_I_compare (l : Launch) (D : va_G) (cI cW : ClassId) (x : Int) (y : Int) (hx0 : -2147483648 ≤ x ∧ x ≤ 2147483647) (hy0 : -2147483648 ≤ y ∧ y ≤ 2147483647) {v : Int} (hv : ck_c3 x y = v) : Met l ky_I_compare kv_I_compare ({ frames := 0, cells := 0, slots := 0, locals := 0 }) (va_Pc [.int (zz_I (x)), .int (zz_I (y))] (zz_P D cI cW (fun _ => True))) (zz_Qp (.int (zz_I v))) 0 0 (fun _ => False) := by
  subst hv
  refine Met.ofW (cc := kb_I_compare) (maxL := 2) (ret := (some .int)) (by decide) rfl ?_
  intro pg ev sg mg ag bl mt cd s1 Bd hml hv
  obtain ⟨rfl, hP, hK⟩ := hv
  have hx := Bd.exec
  have hb := Bd.bytes
  have hr := Bd.returns
  have hlocks := Bd.notSynchronized
  have hts : ∀ w ∈ zz_tbl, w.before _ sg = true := fun w h => atoms_spec (ws := kv_I_compare) Bd.pre w (List.mem_cons_of_mem _ h)
  have hown : sg.vm.findClass kn_I = some mg.cls := findClass_of_methodNamed Bd.named
  have hl := lv_entry ([.int (zz_I (x)), .int (zz_I (y))]) (n := 2) (Nat.le_of_ble_eq_true rfl)
  rw [lg_entry_eq]
  generalize (lg_sl ([.int (zz_I (x)), .int (zz_I (y))]) ++ List.replicate (2 - (lg_sl ([.int (zz_I (x)), .int (zz_I (y))])).length) Slot.unset).toArray = ls at hl ⊢
  have hl : lv_has ls 2 [(0, .int (zz_I (x))), (1, .int (zz_I (y)))] := hl
  refine lv_iload_n hx hb kd_I_compare_0 rfl (lv_at hl 0 rfl) ?_
  refine lv_iload_n hx hb kd_I_compare_1 rfl (lv_at hl 1 rfl) ?_
  refine zz_icmp_ge (tgt := 9) hx hb kd_I_compare_2 (by decide) (by omega) (fun hbr2 => ?_) (fun hbr2 => ?_)
  · refine lv_iload_n hx hb kd_I_compare_9 rfl (lv_at hl 0 rfl) ?_
    refine lv_iload_n hx hb kd_I_compare_10 rfl (lv_at hl 1 rfl) ?_
    refine zz_icmp_ne (tgt := 18) hx hb kd_I_compare_11 (by decide) (by omega) (fun hbr11 => ?_) (fun hbr11 => ?_)
    · refine zz_iconst hx hb (v := 1) (rfl) kd_I_compare_18 ?_
      exact W.iret hx hb hr (zz_endp (by unfold ck_c3; (repeat' split) <;> omega)) (fun _ h => nomatch h) kd_I_compare_19
    · refine zz_iconst hx hb (v := 0) (rfl) kd_I_compare_14 ?_
      refine lv_goto (tgt := 19) hx hb kd_I_compare_15 (by decide) ?_
      exact W.iret hx hb hr (zz_endp (by unfold ck_c3; (repeat' split) <;> omega)) (fun _ h => nomatch h) kd_I_compare_19
  · refine zz_iconst hx hb (v := -1) (rfl) kd_I_compare_5 ?_
    refine lv_goto (tgt := 19) hx hb kd_I_compare_6 (by decide) ?_
    exact W.iret hx hb hr (zz_endp (by unfold ck_c3; (repeat' split) <;> omega)) (fun _ h => nomatch h) kd_I_compare_19
set_option maxHeartbeats 4000000 in
set_option maxRecDepth 100000 in
theorem kc_R_length (l : Launch) (D : va_G) (cI cW : ClassId) (a : Nat) (b : Nat) (n : Nat)  {v : Int} (hv : ((n : Nat) : Int) = v) : Met l ky_R_length kv_R_length ({ frames := 0, cells := 0, slots := 0, locals := 0 }) (va_Pc [.ref a] (zz_P D cI cW (va_P D kcl [(a, .inr (1, [.ref b, .int (zz_I (((n : Nat) : Int)))]))]))) (zz_Qp (.int (zz_I v))) 0 0 (fun _ => False) := by
  subst hv
  refine Met.ofW (cc := kb_R_length) (maxL := 1) (ret := (some .int)) (by decide) rfl ?_
  intro pg ev sg mg ag bl mt cd s1 Bd hml hv
  obtain ⟨rfl, hP, hK⟩ := hv
  have hP : va_P D kcl [(a, .inr (1, [.ref b, .int (zz_I (((n : Nat) : Int)))]))] sg.heap := hP
  have hx := Bd.exec
  have hb := Bd.bytes
  have hr := Bd.returns
  have hlocks := Bd.notSynchronized
  have hts : ∀ w ∈ zz_tbl, w.before _ sg = true := fun w h => atoms_spec (ws := kv_R_length) Bd.pre w (List.mem_cons_of_mem _ h)
  have hown : sg.vm.findClass kn_R = some mg.cls := findClass_of_methodNamed Bd.named
  have hl := lv_entry ([.ref a]) (n := 1) (Nat.le_of_ble_eq_true rfl)
  rw [lg_entry_eq]
  generalize (lg_sl ([.ref a]) ++ List.replicate (1 - (lg_sl ([.ref a])).length) Slot.unset).toArray = ls at hl ⊢
  have hl : lv_has ls 1 [(0, .ref a)] := hl
  refine lv_aload_n hx hb kd_R_length_0 rfl (lv_at hl 0 rfl) ?_
  refine va_get (D := D) (ci := 1) (v := .int (zz_I (((n : Nat) : Int)))) (C := kn_R) (T := kf_R) (N := 2) hx hb hts ki_R hown hK hP 0 rfl rfl 1 (by decide) (hts _ kw_63) (fun _ h9 => h9) rfl kd_R_length_1 ?_
  exact W.iret hx hb hr (zz_endp (by rfl)) (fun _ h => nomatch h) kd_R_length_4
set_option maxHeartbeats 4000000 in
set_option maxRecDepth 100000 in
theorem kc_R_at (l : Launch) (D : va_G) (cI cW : ClassId) (a : Nat) (b : Nat) (n : Nat) (cap : Nat) (g : Nat → Int) (i : Int) (hn : n ≤ cap) (hcap : cap ≤ 1000) (hi : -2147483648 ≤ i ∧ i ≤ 2147483647) {v : Int} (hv : ck_ri g n i = v) : Met l ky_R_at kv_R_at ({ frames := 0, cells := 0, slots := 0, locals := 0 }) (va_Pc [.ref a, .int (zz_I (i))] (zz_P D cI cW (va_P D kcl [(a, .inr (1, [.ref b, .int (zz_I (((n : Nat) : Int)))])), (b, .inl (cI, cap, .inl (zz_A (g))))]))) (zz_Qp (.int (zz_I v))) 0 0 (fun _ => False) := by
  subst hv
  refine Met.ofW (cc := kb_R_at) (maxL := 2) (ret := (some .int)) (by decide) rfl ?_
  intro pg ev sg mg ag bl mt cd s1 Bd hml hv
  obtain ⟨rfl, hP, hK⟩ := hv
  have hP : va_P D kcl [(a, .inr (1, [.ref b, .int (zz_I (((n : Nat) : Int)))])), (b, .inl (cI, cap, .inl (zz_A (g))))] sg.heap := hP
  have hx := Bd.exec
  have hb := Bd.bytes
  have hr := Bd.returns
  have hlocks := Bd.notSynchronized
  have hts : ∀ w ∈ zz_tbl, w.before _ sg = true := fun w h => atoms_spec (ws := kv_R_at) Bd.pre w (List.mem_cons_of_mem _ h)
  have hown : sg.vm.findClass kn_R = some mg.cls := findClass_of_methodNamed Bd.named
  have hl := lv_entry ([.ref a, .int (zz_I (i))]) (n := 2) (Nat.le_of_ble_eq_true rfl)
  rw [lg_entry_eq]
  generalize (lg_sl ([.ref a, .int (zz_I (i))]) ++ List.replicate (2 - (lg_sl ([.ref a, .int (zz_I (i))])).length) Slot.unset).toArray = ls at hl ⊢
  have hl : lv_has ls 2 [(0, .ref a), (1, .int (zz_I (i)))] := hl
  refine lv_iload_n hx hb kd_R_at_0 rfl (lv_at hl 1 rfl) ?_
  refine zz_if_lt (tgt := 12) hx hb kd_R_at_1 (by decide) (by omega) (fun hbr1 => ?_) (fun hbr1 => ?_)
  · refine zz_iconst hx hb (v := -1) (rfl) kd_R_at_12 ?_
    refine lv_goto (tgt := 22) hx hb kd_R_at_13 (by decide) ?_
    exact W.iret hx hb hr (zz_endp (by rw [ck_ri_out (by omega)])) (fun _ h => nomatch h) kd_R_at_22
  · refine lv_iload_n hx hb kd_R_at_4 rfl (lv_at hl 1 rfl) ?_
    refine lv_aload_n hx hb kd_R_at_5 rfl (lv_at hl 0 rfl) ?_
    refine va_get (D := D) (ci := 1) (v := .int (zz_I (((n : Nat) : Int)))) (C := kn_R) (T := kf_R) (N := 2) hx hb hts ki_R hown hK hP 0 rfl rfl 1 (by decide) (hts _ kw_63) (fun _ h9 => h9) rfl kd_R_at_6 ?_
    refine zz_icmp_lt (tgt := 16) hx hb kd_R_at_9 (by decide) (by omega) (fun hbr9 => ?_) (fun hbr9 => ?_)
    · refine lv_aload_n hx hb kd_R_at_16 rfl (lv_at hl 0 rfl) ?_
      refine va_get (D := D) (ci := 1) (v := .ref b) (C := kn_R) (T := kf_R) (N := 2) hx hb hts ki_R hown hK hP 0 rfl rfl 0 (by decide) (hts _ kw_62) (fun _ h9 => h9) rfl kd_R_at_17 ?_
      refine lv_iload_n hx hb kd_R_at_20 rfl (lv_at hl 1 rfl) ?_
      refine zz_iald hx hb hK hP 1 0 rfl rfl (by omega) (v := g (i).toNat) (rfl) kd_R_at_21 ?_
      exact W.iret hx hb hr (zz_endp (by unfold ck_ri; rw [if_pos (by omega)])) (fun _ h => nomatch h) kd_R_at_22
    · refine zz_iconst hx hb (v := -1) (rfl) kd_R_at_12 ?_
      refine lv_goto (tgt := 22) hx hb kd_R_at_13 (by decide) ?_
      exact W.iret hx hb hr (zz_endp (by rw [ck_ri_out (by omega)])) (fun _ h => nomatch h) kd_R_at_22
set_option maxHeartbeats 4000000 in
set_option maxRecDepth 100000 in
theorem kc_R_clear (l : Launch) (D : va_G) (cI cW : ClassId) (a : Nat) (b : Nat) (n : Nat)  (hN : zz_N [a]) : Met l ky_R_clear kv_R_clear ({ frames := 0, cells := 0, slots := 0, locals := 0 }) (va_Pc [.ref a] (zz_P D cI cW (va_P D kcl [(a, .inr (1, [.ref b, .int (zz_I (((n : Nat) : Int)))]))]))) (zz_Qw (fun (u : Unit) => none) (fun (u : Unit) H => (True) ∧ va_P D kcl [(a, .inr (1, [.ref b, .int (zz_I (((0 : Nat) : Int)))]))] H) (zz_F [(a, .inr (1, [.ref b, .int (zz_I (((n : Nat) : Int)))]))])) 0 0 (zz_F [(a, .inr (1, [.ref b, .int (zz_I (((n : Nat) : Int)))]))]) := by
  refine Met.ofW (cc := kb_R_clear) (maxL := 1) (ret := none) (by decide) rfl ?_
  intro pg ev sg mg ag bl mt cd s1 Bd hml hv
  obtain ⟨rfl, hP, hK⟩ := hv
  have hP : va_P D kcl [(a, .inr (1, [.ref b, .int (zz_I (((n : Nat) : Int)))]))] sg.heap := hP
  have hx := Bd.exec
  have hb := Bd.bytes
  have hr := Bd.returns
  have hlocks := Bd.notSynchronized
  have hts : ∀ w ∈ zz_tbl, w.before _ sg = true := fun w h => atoms_spec (ws := kv_R_clear) Bd.pre w (List.mem_cons_of_mem _ h)
  have hown : sg.vm.findClass kn_R = some mg.cls := findClass_of_methodNamed Bd.named
  have hD : va_D (zz_F [(a, .inr (1, [.ref b, .int (zz_I (((n : Nat) : Int)))]))]) [(a, .inr (1, [.ref b, .int (zz_I (((n : Nat) : Int)))]))] := zz_Dof hN rfl
  have hS : va_S (zz_F [(a, .inr (1, [.ref b, .int (zz_I (((n : Nat) : Int)))]))]) sg.heap sg.heap [] := va_S.rf
  have hl := lv_entry ([.ref a]) (n := 1) (Nat.le_of_ble_eq_true rfl)
  rw [lg_entry_eq]
  generalize (lg_sl ([.ref a]) ++ List.replicate (1 - (lg_sl ([.ref a])).length) Slot.unset).toArray = ls at hl ⊢
  have hl : lv_has ls 1 [(0, .ref a)] := hl
  refine lv_aload_n hx hb kd_R_clear_0 rfl (lv_at hl 0 rfl) ?_
  refine zz_iconst hx hb (v := 0) (rfl) kd_R_clear_1 ?_
  refine va_put (D := D) (ci := 1) (v := .int (zz_I (0))) (ty := .int) (C := kn_R) (T := kf_R) (N := 2) hx hb hts ki_R kt_R kk_R km_R hown hK hP hD hS 0 rfl rfl 1 (by decide) (hts _ kw_63) (fun _ h9 => h9) rfl (by decide +kernel) rfl rfl (Nat.le_of_ble_eq_true rfl) kd_R_clear_2 (fun H locs hP hD hS => ?_)
  have hP : va_P D kcl [(a, .inr (1, [.ref b, .int (zz_I (0))]))] H := hP
  have hD : va_D (zz_F [(a, .inr (1, [.ref b, .int (zz_I (((n : Nat) : Int)))]))]) [(a, .inr (1, [.ref b, .int (zz_I (0))]))] := hD
  exact W.vret hx hb hr (zz_endw (()) (rfl) ⟨trivial, hP⟩ hS) hS.2.2 kd_R_clear_5
set_option maxHeartbeats 4000000 in
set_option maxRecDepth 100000 in
theorem kc_R_add (l : Launch) (D : va_G) (cI cW : ClassId) (a : Nat) (b : Nat) (n : Nat) (cap : Nat) (g : Nat → Int) (c : Int) (hn : n < cap) (hcap : cap ≤ 1000) (hN : zz_N [a, b]) : Met l ky_R_add kv_R_add ({ frames := 0, cells := 0, slots := 0, locals := 0 }) (va_Pc [.ref a, .int (zz_I (c))] (zz_P D cI cW (va_P D kcl [(a, .inr (1, [.ref b, .int (zz_I (((n : Nat) : Int)))])), (b, .inl (cI, cap, .inl (zz_A (g))))]))) (zz_Qw (fun (u : Unit) => none) (fun (u : Unit) H => (True) ∧ va_P D kcl [(a, .inr (1, [.ref b, .int (zz_I (((n + 1 : Nat) : Int)))])), (b, .inl (cI, cap, .inl (zz_A (zz_u g n c))))] H) (zz_F [(a, .inr (1, [.ref b, .int (zz_I (((n : Nat) : Int)))])), (b, .inl (cI, cap, .inl (zz_A (g))))])) 0 0 (zz_F [(a, .inr (1, [.ref b, .int (zz_I (((n : Nat) : Int)))])), (b, .inl (cI, cap, .inl (zz_A (g))))]) := by
  refine Met.ofW (cc := kb_R_add) (maxL := 2) (ret := none) (by decide) rfl ?_
  intro pg ev sg mg ag bl mt cd s1 Bd hml hv
  obtain ⟨rfl, hP, hK⟩ := hv
  have hP : va_P D kcl [(a, .inr (1, [.ref b, .int (zz_I (((n : Nat) : Int)))])), (b, .inl (cI, cap, .inl (zz_A (g))))] sg.heap := hP
  have hx := Bd.exec
  have hb := Bd.bytes
  have hr := Bd.returns
  have hlocks := Bd.notSynchronized
  have hts : ∀ w ∈ zz_tbl, w.before _ sg = true := fun w h => atoms_spec (ws := kv_R_add) Bd.pre w (List.mem_cons_of_mem _ h)
  have hown : sg.vm.findClass kn_R = some mg.cls := findClass_of_methodNamed Bd.named
  have hD : va_D (zz_F [(a, .inr (1, [.ref b, .int (zz_I (((n : Nat) : Int)))])), (b, .inl (cI, cap, .inl (zz_A (g))))]) [(a, .inr (1, [.ref b, .int (zz_I (((n : Nat) : Int)))])), (b, .inl (cI, cap, .inl (zz_A (g))))] := zz_Dof hN rfl
  have hS : va_S (zz_F [(a, .inr (1, [.ref b, .int (zz_I (((n : Nat) : Int)))])), (b, .inl (cI, cap, .inl (zz_A (g))))]) sg.heap sg.heap [] := va_S.rf
  have hl := lv_entry ([.ref a, .int (zz_I (c))]) (n := 2) (Nat.le_of_ble_eq_true rfl)
  rw [lg_entry_eq]
  generalize (lg_sl ([.ref a, .int (zz_I (c))]) ++ List.replicate (2 - (lg_sl ([.ref a, .int (zz_I (c))])).length) Slot.unset).toArray = ls at hl ⊢
  have hl : lv_has ls 2 [(0, .ref a), (1, .int (zz_I (c)))] := hl
  refine lv_aload_n hx hb kd_R_add_0 rfl (lv_at hl 0 rfl) ?_
  refine va_get (D := D) (ci := 1) (v := .int (zz_I (((n : Nat) : Int)))) (C := kn_R) (T := kf_R) (N := 2) hx hb hts ki_R hown hK hP 0 rfl rfl 1 (by decide) (hts _ kw_63) (fun _ h9 => h9) rfl kd_R_add_1 ?_
  refine lv_aload_n hx hb kd_R_add_4 rfl (lv_at hl 0 rfl) ?_
  refine va_get (D := D) (ci := 1) (v := .ref b) (C := kn_R) (T := kf_R) (N := 2) hx hb hts ki_R hown hK hP 0 rfl rfl 0 (by decide) (hts _ kw_62) (fun _ h9 => h9) rfl kd_R_add_5 ?_
  refine zz_alen hx hb hK hP 1 0 rfl rfl kd_R_add_8 ?_
  refine zz_icmp_ge (tgt := 32) hx hb kd_R_add_9 (by decide) (by omega) (fun hbr9 => absurd hbr9 (by omega)) (fun hbr9 => ?_)
  refine lv_aload_n hx hb kd_R_add_12 rfl (lv_at hl 0 rfl) ?_
  refine va_get (D := D) (ci := 1) (v := .ref b) (C := kn_R) (T := kf_R) (N := 2) hx hb hts ki_R hown hK hP 0 rfl rfl 0 (by decide) (hts _ kw_62) (fun _ h9 => h9) rfl kd_R_add_13 ?_
  refine lv_aload_n hx hb kd_R_add_16 rfl (lv_at hl 0 rfl) ?_
  refine va_get (D := D) (ci := 1) (v := .int (zz_I (((n : Nat) : Int)))) (C := kn_R) (T := kf_R) (N := 2) hx hb hts ki_R hown hK hP 0 rfl rfl 1 (by decide) (hts _ kw_63) (fun _ h9 => h9) rfl kd_R_add_17 ?_
  refine lv_iload_n hx hb kd_R_add_20 rfl (lv_at hl 1 rfl) ?_
  refine zz_iast (k := n) hx hb hK hP hD hS 1 0 rfl rfl (by omega) (rfl) kd_R_add_21 (fun H locs hP hD hS => ?_)
  have hP : va_P D kcl [(a, .inr (1, [.ref b, .int (zz_I (((n : Nat) : Int)))])), (b, .inl (cI, cap, .inl (zz_A (zz_u g n (c)))))] H := hP
  have hD : va_D (zz_F [(a, .inr (1, [.ref b, .int (zz_I (((n : Nat) : Int)))])), (b, .inl (cI, cap, .inl (zz_A (g))))]) [(a, .inr (1, [.ref b, .int (zz_I (((n : Nat) : Int)))])), (b, .inl (cI, cap, .inl (zz_A (zz_u g n (c)))))] := hD
  refine lv_aload_n hx hb kd_R_add_22 rfl (lv_at hl 0 rfl) ?_
  refine lv_dup hx hb kd_R_add_23 rfl ?_
  refine va_get (D := D) (ci := 1) (v := .int (zz_I (((n : Nat) : Int)))) (C := kn_R) (T := kf_R) (N := 2) hx hb hts ki_R hown hK hP 0 rfl rfl 1 (by decide) (hts _ kw_63) (fun _ h9 => h9) rfl kd_R_add_24 ?_
  refine zz_iconst hx hb (v := 1) (rfl) kd_R_add_27 ?_
  refine zz_iadd hx hb (v := ((n : Nat) : Int) + 1) (rfl) kd_R_add_28 ?_
  refine va_put (D := D) (ci := 1) (v := .int (zz_I (((n : Nat) : Int) + 1))) (ty := .int) (C := kn_R) (T := kf_R) (N := 2) hx hb hts ki_R kt_R kk_R km_R hown hK hP hD hS 0 rfl rfl 1 (by decide) (hts _ kw_63) (fun _ h9 => h9) rfl (by decide +kernel) rfl rfl (Nat.le_of_ble_eq_true rfl) kd_R_add_29 (fun H locs hP hD hS => ?_)
  have hP : va_P D kcl [(a, .inr (1, [.ref b, .int (zz_I (((n : Nat) : Int) + 1))])), (b, .inl (cI, cap, .inl (zz_A (zz_u g n (c)))))] H := hP
  have hD : va_D (zz_F [(a, .inr (1, [.ref b, .int (zz_I (((n : Nat) : Int)))])), (b, .inl (cI, cap, .inl (zz_A (g))))]) [(a, .inr (1, [.ref b, .int (zz_I (((n : Nat) : Int) + 1))])), (b, .inl (cI, cap, .inl (zz_A (zz_u g n (c)))))] := hD
  exact W.vret hx hb hr (zz_endw (()) (rfl) ⟨trivial, hP⟩ hS) hS.2.2 kd_R_add_32
set_option maxHeartbeats 4000000 in
set_option maxRecDepth 100000 in
theorem kc_R_addMark (l : Launch) (D : va_G) (cI cW : ClassId) (a : Nat) (b : Nat) (n : Nat) (cap : Nat) (g : Nat → Int) (x : Int) (hn : n < cap) (hcap : cap ≤ 1000) (hg : ck_ok g n) (hx0 : -2147483648 ≤ x ∧ x ≤ 2147483647) (hN : zz_N [a, b]) : Met l ky_R_addMark kv_R_addMark ({ frames := 1, cells := 0, slots := 0, locals := 20 }) (va_Pc [.ref a, .int (zz_I (x))] (zz_P D cI cW (va_P D kcl [(a, .inr (1, [.ref b, .int (zz_I (((n : Nat) : Int)))])), (b, .inl (cI, cap, .inl (zz_A (g))))]))) (zz_Qw (fun (u : Unit) => none) (fun (u : Unit) H => (True) ∧ va_P D kcl [(a, .inr (1, [.ref b, .int (zz_I (((n + 1 : Nat) : Int)))])), (b, .inl (cI, cap, .inl (zz_A (zz_u (ck_mv g (ck_pos g x n) n) (ck_pos g x n) x))))] H) (zz_F [(a, .inr (1, [.ref b, .int (zz_I (((n : Nat) : Int)))])), (b, .inl (cI, cap, .inl (zz_A (g))))])) 0 0 (zz_F [(a, .inr (1, [.ref b, .int (zz_I (((n : Nat) : Int)))])), (b, .inl (cI, cap, .inl (zz_A (g))))]) := by
  refine Met.ofW (cc := kb_R_addMark) (maxL := 3) (ret := none) (by decide) rfl ?_
  intro pg ev sg mg ag bl mt cd s1 Bd hml hv
  obtain ⟨rfl, hP, hK⟩ := hv
  have hP : va_P D kcl [(a, .inr (1, [.ref b, .int (zz_I (((n : Nat) : Int)))])), (b, .inl (cI, cap, .inl (zz_A (g))))] sg.heap := hP
  have hx := Bd.exec
  have hb := Bd.bytes
  have hr := Bd.returns
  have hlocks := Bd.notSynchronized
  have hts : ∀ w ∈ zz_tbl, w.before _ sg = true := fun w h => atoms_spec (ws := kv_R_addMark) Bd.pre w (List.mem_cons_of_mem _ h)
  have hown : sg.vm.findClass kn_R = some mg.cls := findClass_of_methodNamed Bd.named
  have hD : va_D (zz_F [(a, .inr (1, [.ref b, .int (zz_I (((n : Nat) : Int)))])), (b, .inl (cI, cap, .inl (zz_A (g))))]) [(a, .inr (1, [.ref b, .int (zz_I (((n : Nat) : Int)))])), (b, .inl (cI, cap, .inl (zz_A (g))))] := zz_Dof hN rfl
  have hS : va_S (zz_F [(a, .inr (1, [.ref b, .int (zz_I (((n : Nat) : Int)))])), (b, .inl (cI, cap, .inl (zz_A (g))))]) sg.heap sg.heap [] := va_S.rf
  have hl := lv_entry ([.ref a, .int (zz_I (x))]) (n := 3) (Nat.le_of_ble_eq_true rfl)
  rw [lg_entry_eq]
  generalize (lg_sl ([.ref a, .int (zz_I (x))]) ++ List.replicate (3 - (lg_sl ([.ref a, .int (zz_I (x))])).length) Slot.unset).toArray = ls at hl ⊢
  have hl : lv_has ls 3 [(0, .ref a), (1, .int (zz_I (x)))] := hl
  refine lv_aload_n hx hb kd_R_addMark_0 rfl (lv_at hl 0 rfl) ?_
  refine va_get (D := D) (ci := 1) (v := .int (zz_I (((n : Nat) : Int)))) (C := kn_R) (T := kf_R) (N := 2) hx hb hts ki_R hown hK hP 0 rfl rfl 1 (by decide) (hts _ kw_63) (fun _ h9 => h9) rfl kd_R_addMark_1 ?_
  refine lv_aload_n hx hb kd_R_addMark_4 rfl (lv_at hl 0 rfl) ?_
  refine va_get (D := D) (ci := 1) (v := .ref b) (C := kn_R) (T := kf_R) (N := 2) hx hb hts ki_R hown hK hP 0 rfl rfl 0 (by decide) (hts _ kw_62) (fun _ h9 => h9) rfl kd_R_addMark_5 ?_
  refine zz_alen hx hb hK hP 1 0 rfl rfl kd_R_addMark_8 ?_
  refine zz_icmp_lt (tgt := 13) hx hb kd_R_addMark_9 (by decide) (by omega) (fun hbr9 => ?_) (fun hbr9 => absurd hbr9 (by omega))
  refine lv_aload_n hx hb kd_R_addMark_13 rfl (lv_at hl 0 rfl) ?_
  refine va_get (D := D) (ci := 1) (v := .int (zz_I (((n : Nat) : Int)))) (C := kn_R) (T := kf_R) (N := 2) hx hb hts ki_R hown hK hP 0 rfl rfl 1 (by decide) (hts _ kw_63) (fun _ h9 => h9) rfl kd_R_addMark_14 ?_
  refine lv_istore_n hx hb kd_R_addMark_17 rfl hl (by decide) rfl (fun ls hl => ?_)
  have hl : lv_has ls 3 [(2, .int (zz_I (((n : Nat) : Int)))), (0, .ref a), (1, .int (zz_I (x)))] := hl
  have lp18 : ∀ (fuel : Nat) (k : Nat) (ls : Array Slot) (H : Heap) (locs : List Loc), k < fuel → (k ≤ n) → (ck_pos g x k = ck_pos g x n) → lv_has ls 3 [(0, .ref a), (1, .int (zz_I (x))), (2, .int (zz_I (((k : Nat) : Int))))] → va_P D kcl [(a, .inr (1, [.ref b, .int (zz_I (((n : Nat) : Int)))])), (b, .inl (cI, cap, .inl (zz_A (ck_mv g k n))))] H → va_D (zz_F [(a, .inr (1, [.ref b, .int (zz_I (((n : Nat) : Int)))])), (b, .inl (cI, cap, .inl (zz_A (g))))]) [(a, .inr (1, [.ref b, .int (zz_I (((n : Nat) : Int)))])), (b, .inl (cI, cap, .inl (zz_A (ck_mv g k n))))] → va_S (zz_F [(a, .inr (1, [.ref b, .int (zz_I (((n : Nat) : Int)))])), (b, .inl (cI, cap, .inl (zz_A (g))))]) sg.heap H locs → W pg l ev (headSpec kv_R_addMark ({ frames := 1, cells := 0, slots := 0, locals := 20 })).room sg mg [.ref a, .int (zz_I (x))].toArray bl mt cd H locs 0 0 (MQ bl (zz_Qw (fun (u : Unit) => none) (fun (u : Unit) H => (True) ∧ va_P D kcl [(a, .inr (1, [.ref b, .int (zz_I (((n + 1 : Nat) : Int)))])), (b, .inl (cI, cap, .inl (zz_A (zz_u (ck_mv g (ck_pos g x n) n) (ck_pos g x n) x))))] H) (zz_F [(a, .inr (1, [.ref b, .int (zz_I (((n : Nat) : Int)))])), (b, .inl (cI, cap, .inl (zz_A (g))))])) [.ref a, .int (zz_I (x))].toArray sg 0 0 (zz_F [(a, .inr (1, [.ref b, .int (zz_I (((n : Nat) : Int)))])), (b, .inl (cI, cap, .inl (zz_A (g))))])) (F0 mg 18 ls []) := by
    intro fuel
    induction fuel with
    | zero => intro k ls H locs hfu; exact absurd hfu (Nat.not_lt_zero _)
    | succ fuel ih18 =>
      intro k ls H locs hfu hk hq hl hP hD hS
      refine lv_iload_n hx hb kd_R_addMark_18 rfl (lv_at hl 2 rfl) ?_
      refine zz_if_le (tgt := 60) hx hb kd_R_addMark_19 (by decide) (by omega) (fun hbr19 => ?_) (fun hbr19 => ?_)
      · have hp : k = ck_pos g x n := by rw [← hq, show k = 0 by omega]; rfl
        refine lv_aload_n hx hb kd_R_addMark_60 rfl (lv_at hl 0 rfl) ?_
        refine va_get (D := D) (ci := 1) (v := .ref b) (C := kn_R) (T := kf_R) (N := 2) hx hb hts ki_R hown hK hP 0 rfl rfl 0 (by decide) (hts _ kw_62) (fun _ h9 => h9) rfl kd_R_addMark_61 ?_
        refine lv_iload_n hx hb kd_R_addMark_64 rfl (lv_at hl 2 rfl) ?_
        refine lv_iload_n hx hb kd_R_addMark_65 rfl (lv_at hl 1 rfl) ?_
        refine zz_iast (k := k) hx hb hK hP hD hS 1 0 rfl rfl (by omega) (rfl) kd_R_addMark_66 (fun H locs hP hD hS => ?_)
        have hP : va_P D kcl [(a, .inr (1, [.ref b, .int (zz_I (((n : Nat) : Int)))])), (b, .inl (cI, cap, .inl (zz_A (zz_u (ck_mv g k n) k (x)))))] H := hP
        have hD : va_D (zz_F [(a, .inr (1, [.ref b, .int (zz_I (((n : Nat) : Int)))])), (b, .inl (cI, cap, .inl (zz_A (g))))]) [(a, .inr (1, [.ref b, .int (zz_I (((n : Nat) : Int)))])), (b, .inl (cI, cap, .inl (zz_A (zz_u (ck_mv g k n) k (x)))))] := hD
        refine lv_aload_n hx hb kd_R_addMark_67 rfl (lv_at hl 0 rfl) ?_
        refine lv_dup hx hb kd_R_addMark_68 rfl ?_
        refine va_get (D := D) (ci := 1) (v := .int (zz_I (((n : Nat) : Int)))) (C := kn_R) (T := kf_R) (N := 2) hx hb hts ki_R hown hK hP 0 rfl rfl 1 (by decide) (hts _ kw_63) (fun _ h9 => h9) rfl kd_R_addMark_69 ?_
        refine zz_iconst hx hb (v := 1) (rfl) kd_R_addMark_72 ?_
        refine zz_iadd hx hb (v := ((n : Nat) : Int) + 1) (rfl) kd_R_addMark_73 ?_
        refine va_put (D := D) (ci := 1) (v := .int (zz_I (((n : Nat) : Int) + 1))) (ty := .int) (C := kn_R) (T := kf_R) (N := 2) hx hb hts ki_R kt_R kk_R km_R hown hK hP hD hS 0 rfl rfl 1 (by decide) (hts _ kw_63) (fun _ h9 => h9) rfl (by decide +kernel) rfl rfl (Nat.le_of_ble_eq_true rfl) kd_R_addMark_74 (fun H locs hP hD hS => ?_)
        have hP : va_P D kcl [(a, .inr (1, [.ref b, .int (zz_I (((n : Nat) : Int) + 1))])), (b, .inl (cI, cap, .inl (zz_A (zz_u (ck_mv g k n) k (x)))))] H := hP
        have hD : va_D (zz_F [(a, .inr (1, [.ref b, .int (zz_I (((n : Nat) : Int)))])), (b, .inl (cI, cap, .inl (zz_A (g))))]) [(a, .inr (1, [.ref b, .int (zz_I (((n : Nat) : Int) + 1))])), (b, .inl (cI, cap, .inl (zz_A (zz_u (ck_mv g k n) k (x)))))] := hD
        rw [hp] at hP
        exact W.vret hx hb hr (zz_endw (()) (rfl) ⟨trivial, hP⟩ hS) hS.2.2 kd_R_addMark_77
      · refine lv_aload_n hx hb kd_R_addMark_22 rfl (lv_at hl 0 rfl) ?_
        refine va_get (D := D) (ci := 1) (v := .ref b) (C := kn_R) (T := kf_R) (N := 2) hx hb hts ki_R hown hK hP 0 rfl rfl 0 (by decide) (hts _ kw_62) (fun _ h9 => h9) rfl kd_R_addMark_23 ?_
        refine lv_iload_n hx hb kd_R_addMark_26 rfl (lv_at hl 2 rfl) ?_
        refine zz_iconst hx hb (v := 1) (rfl) kd_R_addMark_27 ?_
        refine zz_isub hx hb (v := ((k : Nat) : Int) - 1) (rfl) kd_R_addMark_28 ?_
        refine zz_iald hx hb hK hP 1 0 rfl rfl (by omega) (v := (ck_mv g k n) (((k : Nat) : Int) - 1).toNat) (rfl) kd_R_addMark_29 ?_
        refine zz_pS ⟨hx, hb, hml, hown, hts⟩ hK (kc_A_markClass l D cI cW ((ck_mv g k n) (((k : Nat) : Int) - 1).toNat) (by have := hg (k - 1) (by omega); have e : ck_mv g k n (((k : Nat) : Int) - 1).toNat = g (k - 1) := ck_mv_at (by omega); rw [e]; omega) rfl) (zz_gS kw_262 kw_263 kw_37 kw_264) ⟨rfl, rfl⟩ kh_A_markClass ⟨Nat.le_of_ble_eq_true rfl, Nat.le_of_ble_eq_true rfl⟩  trivial rfl hl.1 rfl (Nat.le_of_ble_eq_true rfl) kd_R_addMark_30 ⟨Nat.le_of_ble_eq_true rfl, Nat.le_of_ble_eq_true rfl⟩ ?_
        refine lv_iload_n hx hb kd_R_addMark_33 rfl (lv_at hl 1 rfl) ?_
        refine zz_pS ⟨hx, hb, hml, hown, hts⟩ hK (kc_A_markClass l D cI cW x (by omega) rfl) (zz_gS kw_262 kw_263 kw_37 kw_264) ⟨rfl, rfl⟩ kh_A_markClass ⟨Nat.le_of_ble_eq_true rfl, Nat.le_of_ble_eq_true rfl⟩  trivial rfl hl.1 rfl (Nat.le_of_ble_eq_true rfl) kd_R_addMark_34 ⟨Nat.le_of_ble_eq_true rfl, Nat.le_of_ble_eq_true rfl⟩ ?_
        refine zz_icmp_le (tgt := 60) hx hb kd_R_addMark_37 (by decide) (by have := ck_cls_rg x; have := ck_cls_rg (ck_mv g k n (((k : Nat) : Int) - 1).toNat); omega) (fun hbr37 => ?_) (fun hbr37 => ?_)
        · have hp : k = ck_pos g x n := by rw [← hq]; exact (ck_pos_stop (n := n) (by omega) (by assumption)).symm
          refine lv_aload_n hx hb kd_R_addMark_60 rfl (lv_at hl 0 rfl) ?_
          refine va_get (D := D) (ci := 1) (v := .ref b) (C := kn_R) (T := kf_R) (N := 2) hx hb hts ki_R hown hK hP 0 rfl rfl 0 (by decide) (hts _ kw_62) (fun _ h9 => h9) rfl kd_R_addMark_61 ?_
          refine lv_iload_n hx hb kd_R_addMark_64 rfl (lv_at hl 2 rfl) ?_
          refine lv_iload_n hx hb kd_R_addMark_65 rfl (lv_at hl 1 rfl) ?_
          refine zz_iast (k := k) hx hb hK hP hD hS 1 0 rfl rfl (by omega) (rfl) kd_R_addMark_66 (fun H locs hP hD hS => ?_)
          have hP : va_P D kcl [(a, .inr (1, [.ref b, .int (zz_I (((n : Nat) : Int)))])), (b, .inl (cI, cap, .inl (zz_A (zz_u (ck_mv g k n) k (x)))))] H := hP
          have hD : va_D (zz_F [(a, .inr (1, [.ref b, .int (zz_I (((n : Nat) : Int)))])), (b, .inl (cI, cap, .inl (zz_A (g))))]) [(a, .inr (1, [.ref b, .int (zz_I (((n : Nat) : Int)))])), (b, .inl (cI, cap, .inl (zz_A (zz_u (ck_mv g k n) k (x)))))] := hD
          refine lv_aload_n hx hb kd_R_addMark_67 rfl (lv_at hl 0 rfl) ?_
          refine lv_dup hx hb kd_R_addMark_68 rfl ?_
          refine va_get (D := D) (ci := 1) (v := .int (zz_I (((n : Nat) : Int)))) (C := kn_R) (T := kf_R) (N := 2) hx hb hts ki_R hown hK hP 0 rfl rfl 1 (by decide) (hts _ kw_63) (fun _ h9 => h9) rfl kd_R_addMark_69 ?_
          refine zz_iconst hx hb (v := 1) (rfl) kd_R_addMark_72 ?_
          refine zz_iadd hx hb (v := ((n : Nat) : Int) + 1) (rfl) kd_R_addMark_73 ?_
          refine va_put (D := D) (ci := 1) (v := .int (zz_I (((n : Nat) : Int) + 1))) (ty := .int) (C := kn_R) (T := kf_R) (N := 2) hx hb hts ki_R kt_R kk_R km_R hown hK hP hD hS 0 rfl rfl 1 (by decide) (hts _ kw_63) (fun _ h9 => h9) rfl (by decide +kernel) rfl rfl (Nat.le_of_ble_eq_true rfl) kd_R_addMark_74 (fun H locs hP hD hS => ?_)
          have hP : va_P D kcl [(a, .inr (1, [.ref b, .int (zz_I (((n : Nat) : Int) + 1))])), (b, .inl (cI, cap, .inl (zz_A (zz_u (ck_mv g k n) k (x)))))] H := hP
          have hD : va_D (zz_F [(a, .inr (1, [.ref b, .int (zz_I (((n : Nat) : Int)))])), (b, .inl (cI, cap, .inl (zz_A (g))))]) [(a, .inr (1, [.ref b, .int (zz_I (((n : Nat) : Int) + 1))])), (b, .inl (cI, cap, .inl (zz_A (zz_u (ck_mv g k n) k (x)))))] := hD
          rw [hp] at hP
          exact W.vret hx hb hr (zz_endw (()) (rfl) ⟨trivial, hP⟩ hS) hS.2.2 kd_R_addMark_77
        · refine lv_aload_n hx hb kd_R_addMark_40 rfl (lv_at hl 0 rfl) ?_
          refine va_get (D := D) (ci := 1) (v := .ref b) (C := kn_R) (T := kf_R) (N := 2) hx hb hts ki_R hown hK hP 0 rfl rfl 0 (by decide) (hts _ kw_62) (fun _ h9 => h9) rfl kd_R_addMark_41 ?_
          refine lv_iload_n hx hb kd_R_addMark_44 rfl (lv_at hl 2 rfl) ?_
          refine lv_aload_n hx hb kd_R_addMark_45 rfl (lv_at hl 0 rfl) ?_
          refine va_get (D := D) (ci := 1) (v := .ref b) (C := kn_R) (T := kf_R) (N := 2) hx hb hts ki_R hown hK hP 0 rfl rfl 0 (by decide) (hts _ kw_62) (fun _ h9 => h9) rfl kd_R_addMark_46 ?_
          refine lv_iload_n hx hb kd_R_addMark_49 rfl (lv_at hl 2 rfl) ?_
          refine zz_iconst hx hb (v := 1) (rfl) kd_R_addMark_50 ?_
          refine zz_isub hx hb (v := ((k : Nat) : Int) - 1) (rfl) kd_R_addMark_51 ?_
          refine zz_iald hx hb hK hP 1 0 rfl rfl (by omega) (v := (ck_mv g k n) (((k : Nat) : Int) - 1).toNat) (rfl) kd_R_addMark_52 ?_
          refine zz_iast (k := k) hx hb hK hP hD hS 1 0 rfl rfl (by omega) (rfl) kd_R_addMark_53 (fun H locs hP hD hS => ?_)
          have hP : va_P D kcl [(a, .inr (1, [.ref b, .int (zz_I (((n : Nat) : Int)))])), (b, .inl (cI, cap, .inl (zz_A (zz_u (ck_mv g k n) k ((ck_mv g k n) (((k : Nat) : Int) - 1).toNat)))))] H := hP
          have hD : va_D (zz_F [(a, .inr (1, [.ref b, .int (zz_I (((n : Nat) : Int)))])), (b, .inl (cI, cap, .inl (zz_A (g))))]) [(a, .inr (1, [.ref b, .int (zz_I (((n : Nat) : Int)))])), (b, .inl (cI, cap, .inl (zz_A (zz_u (ck_mv g k n) k ((ck_mv g k n) (((k : Nat) : Int) - 1).toNat)))))] := hD
          refine zz_iinc (k := 2) hx hb kd_R_addMark_54 hl rfl rfl (by decide) rfl (fun ls hl => ?_)
          have hl : lv_has ls 3 [(2, .int (zz_I (((k : Nat) : Int) + (-1)))), (0, .ref a), (1, .int (zz_I (x)))] := hl
          refine lv_goto (tgt := 18) hx hb kd_R_addMark_57 (by decide) ?_
          rw [ck_mv_down (by omega)] at hP hD
          rw [show ((k : Nat) : Int) + (-1) = ((k - 1 : Nat) : Int) by omega] at hl
          exact ih18 (k - 1) ls _ _ (by omega) (by omega) ((ck_pos_go (n := n) (by omega) (by assumption)).trans hq) (lv_sub hl [1, 2, 0] rfl) hP hD hS
  have hP : va_P D kcl [(a, .inr (1, [.ref b, .int (zz_I (((n : Nat) : Int)))])), (b, .inl (cI, cap, .inl (zz_A (ck_mv g n n))))] sg.heap := by rw [ck_mv_n]; exact hP
  have hD : va_D (zz_F [(a, .inr (1, [.ref b, .int (zz_I (((n : Nat) : Int)))])), (b, .inl (cI, cap, .inl (zz_A (g))))]) [(a, .inr (1, [.ref b, .int (zz_I (((n : Nat) : Int)))])), (b, .inl (cI, cap, .inl (zz_A (ck_mv g n n))))] := by rw [ck_mv_n]; exact hD
  exact lp18 _ n ls _ _ (Nat.lt_succ_self _) (Nat.le_refl _) (rfl) (lv_sub hl [1, 2, 0] rfl) hP hD hS
set_option maxHeartbeats 4000000 in
set_option maxRecDepth 100000 in
theorem kc_R_addApart (l : Launch) (D : va_G) (cI cW : ClassId) (a : Nat) (b : Nat) (n : Nat) (cap : Nat) (g : Nat → Int) (c : Int) (hn : (ck_ap (n, g) c).1 ≤ cap) (hcap : cap ≤ 1000) (hg : ck_ok g n) (hc : 0 ≤ c ∧ c ≤ 127) (hN : zz_N [a, b]) : Met l ky_R_addApart kv_R_addApart ({ frames := 2, cells := 0, slots := 0, locals := 42 }) (va_Pc [.ref a, .int (zz_I (c))] (zz_P D cI cW (va_P D kcl [(a, .inr (1, [.ref b, .int (zz_I (((n : Nat) : Int)))])), (b, .inl (cI, cap, .inl (zz_A (g))))]))) (zz_Qw (fun (u : Unit) => none) (fun (u : Unit) H => (True) ∧ va_P D kcl [(a, .inr (1, [.ref b, .int (zz_I ((((ck_ap (n, g) c).1 : Nat) : Int)))])), (b, .inl (cI, cap, .inl (zz_A ((ck_ap (n, g) c).2))))] H) (zz_F [(a, .inr (1, [.ref b, .int (zz_I (((n : Nat) : Int)))])), (b, .inl (cI, cap, .inl (zz_A (g))))])) 0 0 (zz_F [(a, .inr (1, [.ref b, .int (zz_I (((n : Nat) : Int)))])), (b, .inl (cI, cap, .inl (zz_A (g))))]) := by
  refine Met.ofW (cc := kb_R_addApart) (maxL := 2) (ret := none) (by decide) rfl ?_
  intro pg ev sg mg ag bl mt cd s1 Bd hml hv
  obtain ⟨rfl, hP, hK⟩ := hv
  have hP : va_P D kcl [(a, .inr (1, [.ref b, .int (zz_I (((n : Nat) : Int)))])), (b, .inl (cI, cap, .inl (zz_A (g))))] sg.heap := hP
  have hx := Bd.exec
  have hb := Bd.bytes
  have hr := Bd.returns
  have hlocks := Bd.notSynchronized
  have hts : ∀ w ∈ zz_tbl, w.before _ sg = true := fun w h => atoms_spec (ws := kv_R_addApart) Bd.pre w (List.mem_cons_of_mem _ h)
  have hown : sg.vm.findClass kn_R = some mg.cls := findClass_of_methodNamed Bd.named
  have hD : va_D (zz_F [(a, .inr (1, [.ref b, .int (zz_I (((n : Nat) : Int)))])), (b, .inl (cI, cap, .inl (zz_A (g))))]) [(a, .inr (1, [.ref b, .int (zz_I (((n : Nat) : Int)))])), (b, .inl (cI, cap, .inl (zz_A (g))))] := zz_Dof hN rfl
  have hS : va_S (zz_F [(a, .inr (1, [.ref b, .int (zz_I (((n : Nat) : Int)))])), (b, .inl (cI, cap, .inl (zz_A (g))))]) sg.heap sg.heap [] := va_S.rf
  have hl := lv_entry ([.ref a, .int (zz_I (c))]) (n := 2) (Nat.le_of_ble_eq_true rfl)
  rw [lg_entry_eq]
  generalize (lg_sl ([.ref a, .int (zz_I (c))]) ++ List.replicate (2 - (lg_sl ([.ref a, .int (zz_I (c))])).length) Slot.unset).toArray = ls at hl ⊢
  have hl : lv_has ls 2 [(0, .ref a), (1, .int (zz_I (c)))] := hl
  have hn2 : (if ck_comp c = true then n + 2 else n + 1) ≤ cap := by have := ck_ap_fst (n, g) c; rw [this] at hn; exact hn
  refine lv_iload_n hx hb kd_R_addApart_0 rfl (lv_at hl 1 rfl) ?_
  refine zz_pS ⟨hx, hb, hml, hown, hts⟩ hK (kc_A_isComposed l D cI cW c (by omega) rfl) (zz_gS kw_247 kw_190 kw_37 kw_191) ⟨rfl, rfl⟩ kh_A_isComposed ⟨Nat.le_of_ble_eq_true rfl, Nat.le_of_ble_eq_true rfl⟩  trivial rfl hl.1 rfl (Nat.le_of_ble_eq_true rfl) kd_R_addApart_1 ⟨Nat.le_of_ble_eq_true rfl, Nat.le_of_ble_eq_true rfl⟩ ?_
  refine zz_ifb_eq (tgt := 26) hx hb kd_R_addApart_4 (by decide) (fun hbr4 => ?_) (fun hbr4 => ?_)
  · have hbr4 := of_decide_eq_false hbr4
    rw [if_neg (show ¬ ck_comp c = true from fun q => absurd (of_decide_eq_true q) (by omega))] at hn2
    refine lv_iload_n hx hb kd_R_addApart_26 rfl (lv_at hl 1 rfl) ?_
    refine zz_pS ⟨hx, hb, hml, hown, hts⟩ hK (kc_A_isMark l D cI cW c (by omega) rfl) (zz_gS kw_265 kw_266 kw_37 kw_267) ⟨rfl, rfl⟩ kh_A_isMark ⟨Nat.le_of_ble_eq_true rfl, Nat.le_of_ble_eq_true rfl⟩  trivial rfl hl.1 rfl (Nat.le_of_ble_eq_true rfl) kd_R_addApart_27 ⟨Nat.le_of_ble_eq_true rfl, Nat.le_of_ble_eq_true rfl⟩ ?_
    refine zz_ifb_eq (tgt := 41) hx hb kd_R_addApart_30 (by decide) (fun hbr30 => ?_) (fun hbr30 => ?_)
    · have hbr30 := of_decide_eq_false hbr30
      refine lv_aload_n hx hb kd_R_addApart_41 rfl (lv_at hl 0 rfl) ?_
      refine lv_iload_n hx hb kd_R_addApart_42 rfl (lv_at hl 1 rfl) ?_
      refine zz_wV ⟨hx, hb, hml, hown, hts⟩ hK (kc_R_add l D cI cW a b n cap g c (by omega) (by omega) (hN.sub [0, 1] rfl rfl)) (zz_gV kw_251 kw_252 kw_253 kw_28 kw_254) ⟨rfl, rfl⟩ ⟨rfl, kh_R_add⟩ ⟨Nat.le_of_ble_eq_true rfl, Nat.le_of_ble_eq_true rfl⟩ (va_recv (q := (kn_R, kf_R, 2)) hK hP rfl (show ([(a, .inr (1, [.ref b, .int (zz_I (((n : Nat) : Int)))])), (b, .inl (cI, cap, .inl (zz_A (g))))] : va_W)[0]? = some _ from rfl)) hP hD hS [0, 1] rfl rfl (fun _ => rfl) rfl hl.1 rfl (Nat.le_of_ble_eq_true rfl) kd_R_addApart_43 ⟨Nat.le_of_ble_eq_true rfl, Nat.le_of_ble_eq_true rfl⟩ (fun u43 H locs hu43 hP hD hS => ?_)
      have hP : va_P D kcl [(a, .inr (1, [.ref b, .int (zz_I (((n + 1 : Nat) : Int)))])), (b, .inl (cI, cap, .inl (zz_A (zz_u g n c))))] H := hP
      have hD : va_D (zz_F [(a, .inr (1, [.ref b, .int (zz_I (((n : Nat) : Int)))])), (b, .inl (cI, cap, .inl (zz_A (g))))]) [(a, .inr (1, [.ref b, .int (zz_I (((n + 1 : Nat) : Int)))])), (b, .inl (cI, cap, .inl (zz_A (zz_u g n c))))] := hD
      first | rw [ck_ap_c (c := c) (decide_eq_true (by omega))] | rw [ck_ap_m (c := c) (decide_eq_true (by omega))] | rw [ck_ap_n (c := c) (decide_eq_false (by omega)) (decide_eq_false (by omega))]
      exact W.vret hx hb hr (zz_endw (()) (rfl) ⟨trivial, hP⟩ hS) hS.2.2 kd_R_addApart_46
    · have hbr30 := of_decide_eq_true hbr30
      refine lv_aload_n hx hb kd_R_addApart_33 rfl (lv_at hl 0 rfl) ?_
      refine lv_iload_n hx hb kd_R_addApart_34 rfl (lv_at hl 1 rfl) ?_
      refine zz_wV ⟨hx, hb, hml, hown, hts⟩ hK (kc_R_addMark l D cI cW a b n cap g c (by omega) (by omega) (by assumption) (by omega) (hN.sub [0, 1] rfl rfl)) (zz_gV kw_258 kw_260 kw_0 kw_28 kw_261) ⟨rfl, rfl⟩ ⟨rfl, kh_R_addMark⟩ ⟨Nat.le_of_ble_eq_true rfl, Nat.le_of_ble_eq_true rfl⟩ (va_recv (q := (kn_R, kf_R, 2)) hK hP rfl (show ([(a, .inr (1, [.ref b, .int (zz_I (((n : Nat) : Int)))])), (b, .inl (cI, cap, .inl (zz_A (g))))] : va_W)[0]? = some _ from rfl)) hP hD hS [0, 1] rfl rfl (fun _ => rfl) rfl hl.1 rfl (Nat.le_of_ble_eq_true rfl) kd_R_addApart_35 ⟨Nat.le_of_ble_eq_true rfl, Nat.le_of_ble_eq_true rfl⟩ (fun u35 H locs hu35 hP hD hS => ?_)
      have hP : va_P D kcl [(a, .inr (1, [.ref b, .int (zz_I (((n + 1 : Nat) : Int)))])), (b, .inl (cI, cap, .inl (zz_A (zz_u (ck_mv g (ck_pos g c n) n) (ck_pos g c n) c))))] H := hP
      have hD : va_D (zz_F [(a, .inr (1, [.ref b, .int (zz_I (((n : Nat) : Int)))])), (b, .inl (cI, cap, .inl (zz_A (g))))]) [(a, .inr (1, [.ref b, .int (zz_I (((n + 1 : Nat) : Int)))])), (b, .inl (cI, cap, .inl (zz_A (zz_u (ck_mv g (ck_pos g c n) n) (ck_pos g c n) c))))] := hD
      refine lv_goto (tgt := 46) hx hb kd_R_addApart_38 (by decide) ?_
      first | rw [ck_ap_c (c := c) (decide_eq_true (by omega))] | rw [ck_ap_m (c := c) (decide_eq_true (by omega))] | rw [ck_ap_n (c := c) (decide_eq_false (by omega)) (decide_eq_false (by omega))]
      exact W.vret hx hb hr (zz_endw (()) (rfl) ⟨trivial, hP⟩ hS) hS.2.2 kd_R_addApart_46
  · have hbr4 := of_decide_eq_true hbr4
    rw [if_pos (show ck_comp c = true from decide_eq_true (by omega))] at hn2
    refine lv_aload_n hx hb kd_R_addApart_7 rfl (lv_at hl 0 rfl) ?_
    refine lv_iload_n hx hb kd_R_addApart_8 rfl (lv_at hl 1 rfl) ?_
    refine zz_pS ⟨hx, hb, hml, hown, hts⟩ hK (kc_A_letterOf l D cI cW c (by omega) rfl) (zz_gS kw_248 kw_249 kw_37 kw_250) ⟨rfl, rfl⟩ kh_A_letterOf ⟨Nat.le_of_ble_eq_true rfl, Nat.le_of_ble_eq_true rfl⟩  trivial rfl hl.1 rfl (Nat.le_of_ble_eq_true rfl) kd_R_addApart_9 ⟨Nat.le_of_ble_eq_true rfl, Nat.le_of_ble_eq_true rfl⟩ ?_
    refine zz_wV ⟨hx, hb, hml, hown, hts⟩ hK (kc_R_add l D cI cW a b n cap g (4 * (c - 124)) (by omega) (by omega) (hN.sub [0, 1] rfl rfl)) (zz_gV kw_251 kw_252 kw_253 kw_28 kw_254) ⟨rfl, rfl⟩ ⟨rfl, kh_R_add⟩ ⟨Nat.le_of_ble_eq_true rfl, Nat.le_of_ble_eq_true rfl⟩ (va_recv (q := (kn_R, kf_R, 2)) hK hP rfl (show ([(a, .inr (1, [.ref b, .int (zz_I (((n : Nat) : Int)))])), (b, .inl (cI, cap, .inl (zz_A (g))))] : va_W)[0]? = some _ from rfl)) hP hD hS [0, 1] rfl rfl (fun _ => rfl) rfl hl.1 rfl (Nat.le_of_ble_eq_true rfl) kd_R_addApart_12 ⟨Nat.le_of_ble_eq_true rfl, Nat.le_of_ble_eq_true rfl⟩ (fun u12 H locs hu12 hP hD hS => ?_)
    have hP : va_P D kcl [(a, .inr (1, [.ref b, .int (zz_I (((n + 1 : Nat) : Int)))])), (b, .inl (cI, cap, .inl (zz_A (zz_u g n (4 * (c - 124))))))] H := hP
    have hD : va_D (zz_F [(a, .inr (1, [.ref b, .int (zz_I (((n : Nat) : Int)))])), (b, .inl (cI, cap, .inl (zz_A (g))))]) [(a, .inr (1, [.ref b, .int (zz_I (((n + 1 : Nat) : Int)))])), (b, .inl (cI, cap, .inl (zz_A (zz_u g n (4 * (c - 124))))))] := hD
    refine lv_aload_n hx hb kd_R_addApart_15 rfl (lv_at hl 0 rfl) ?_
    refine lv_iload_n hx hb kd_R_addApart_16 rfl (lv_at hl 1 rfl) ?_
    refine zz_pS ⟨hx, hb, hml, hown, hts⟩ hK (kc_A_markOf l D cI cW c (by omega) rfl) (zz_gS kw_255 kw_256 kw_37 kw_257) ⟨rfl, rfl⟩ kh_A_markOf ⟨Nat.le_of_ble_eq_true rfl, Nat.le_of_ble_eq_true rfl⟩  trivial rfl hl.1 rfl (Nat.le_of_ble_eq_true rfl) kd_R_addApart_17 ⟨Nat.le_of_ble_eq_true rfl, Nat.le_of_ble_eq_true rfl⟩ ?_
    refine zz_wV ⟨hx, hb, hml, hown, hts⟩ hK (kc_R_addMark l D cI cW a b (n + 1) cap (zz_u g n (4 * (c - 124))) (104 + c - 124) (by omega) (by omega) (ck_ok_u hg (by omega)) (by omega) (hN.sub [0, 1] rfl rfl)) (zz_gV kw_258 kw_260 kw_0 kw_28 kw_261) ⟨rfl, rfl⟩ ⟨rfl, kh_R_addMark⟩ ⟨Nat.le_of_ble_eq_true rfl, Nat.le_of_ble_eq_true rfl⟩ (va_recv (q := (kn_R, kf_R, 2)) hK hP rfl (show ([(a, .inr (1, [.ref b, .int (zz_I (((n + 1 : Nat) : Int)))])), (b, .inl (cI, cap, .inl (zz_A (zz_u g n (4 * (c - 124))))))] : va_W)[0]? = some _ from rfl)) hP hD hS [0, 1] rfl rfl (fun _ => rfl) rfl hl.1 rfl (Nat.le_of_ble_eq_true rfl) kd_R_addApart_20 ⟨Nat.le_of_ble_eq_true rfl, Nat.le_of_ble_eq_true rfl⟩ (fun u20 H locs hu20 hP hD hS => ?_)
    have hP : va_P D kcl [(a, .inr (1, [.ref b, .int (zz_I ((((n + 1) + 1 : Nat) : Int)))])), (b, .inl (cI, cap, .inl (zz_A (zz_u (ck_mv (zz_u g n (4 * (c - 124))) (ck_pos (zz_u g n (4 * (c - 124))) (104 + c - 124) (n + 1)) (n + 1)) (ck_pos (zz_u g n (4 * (c - 124))) (104 + c - 124) (n + 1)) (104 + c - 124)))))] H := hP
    have hD : va_D (zz_F [(a, .inr (1, [.ref b, .int (zz_I (((n : Nat) : Int)))])), (b, .inl (cI, cap, .inl (zz_A (g))))]) [(a, .inr (1, [.ref b, .int (zz_I ((((n + 1) + 1 : Nat) : Int)))])), (b, .inl (cI, cap, .inl (zz_A (zz_u (ck_mv (zz_u g n (4 * (c - 124))) (ck_pos (zz_u g n (4 * (c - 124))) (104 + c - 124) (n + 1)) (n + 1)) (ck_pos (zz_u g n (4 * (c - 124))) (104 + c - 124) (n + 1)) (104 + c - 124)))))] := hD
    refine lv_goto (tgt := 46) hx hb kd_R_addApart_23 (by decide) ?_
    first | rw [ck_ap_c (c := c) (decide_eq_true (by omega))] | rw [ck_ap_m (c := c) (decide_eq_true (by omega))] | rw [ck_ap_n (c := c) (decide_eq_false (by omega)) (decide_eq_false (by omega))]
    exact W.vret hx hb hr (zz_endw (()) (rfl) ⟨trivial, hP⟩ hS) hS.2.2 kd_R_addApart_46
set_option maxHeartbeats 4000000 in
set_option maxRecDepth 100000 in
theorem kc_R_copy (l : Launch) (D : va_G) (cI cW : ClassId) (a : Nat) (b : Nat) (n : Nat) (cap : Nat) (g : Nat → Int) (a2 : Nat) (b2 : Nat) (n2 : Nat) (cap2 : Nat) (g2 : Nat → Int) (hn : n2 ≤ cap) (hcap : cap ≤ 1000) (hn2 : n2 ≤ cap2) (hcap2 : cap2 ≤ 1000) (hN : zz_N [a, b, a2, b2]) : Met l ky_R_copy kv_R_copy ({ frames := 1, cells := 0, slots := 0, locals := 21 }) (va_Pc [.ref a, .ref a2] (zz_P D cI cW (va_P D kcl [(a, .inr (1, [.ref b, .int (zz_I (((n : Nat) : Int)))])), (b, .inl (cI, cap, .inl (zz_A (g)))), (a2, .inr (1, [.ref b2, .int (zz_I (((n2 : Nat) : Int)))])), (b2, .inl (cI, cap2, .inl (zz_A (g2))))]))) (zz_Qw (fun (u : Unit) => none) (fun (u : Unit) H => (True) ∧ va_P D kcl [(a, .inr (1, [.ref b, .int (zz_I (((n2 : Nat) : Int)))])), (b, .inl (cI, cap, .inl (zz_A (ck_cp g g2 n2)))), (a2, .inr (1, [.ref b2, .int (zz_I (((n2 : Nat) : Int)))])), (b2, .inl (cI, cap2, .inl (zz_A (g2))))] H) (zz_F [(a, .inr (1, [.ref b, .int (zz_I (((n : Nat) : Int)))])), (b, .inl (cI, cap, .inl (zz_A (g)))), (a2, .inr (1, [.ref b2, .int (zz_I (((n2 : Nat) : Int)))])), (b2, .inl (cI, cap2, .inl (zz_A (g2))))])) 0 0 (zz_F [(a, .inr (1, [.ref b, .int (zz_I (((n : Nat) : Int)))])), (b, .inl (cI, cap, .inl (zz_A (g)))), (a2, .inr (1, [.ref b2, .int (zz_I (((n2 : Nat) : Int)))])), (b2, .inl (cI, cap2, .inl (zz_A (g2))))]) := by
  refine Met.ofW (cc := kb_R_copy) (maxL := 3) (ret := none) (by decide) rfl ?_
  intro pg ev sg mg ag bl mt cd s1 Bd hml hv
  obtain ⟨rfl, hP, hK⟩ := hv
  have hP : va_P D kcl [(a, .inr (1, [.ref b, .int (zz_I (((n : Nat) : Int)))])), (b, .inl (cI, cap, .inl (zz_A (g)))), (a2, .inr (1, [.ref b2, .int (zz_I (((n2 : Nat) : Int)))])), (b2, .inl (cI, cap2, .inl (zz_A (g2))))] sg.heap := hP
  have hx := Bd.exec
  have hb := Bd.bytes
  have hr := Bd.returns
  have hlocks := Bd.notSynchronized
  have hts : ∀ w ∈ zz_tbl, w.before _ sg = true := fun w h => atoms_spec (ws := kv_R_copy) Bd.pre w (List.mem_cons_of_mem _ h)
  have hown : sg.vm.findClass kn_R = some mg.cls := findClass_of_methodNamed Bd.named
  have hD : va_D (zz_F [(a, .inr (1, [.ref b, .int (zz_I (((n : Nat) : Int)))])), (b, .inl (cI, cap, .inl (zz_A (g)))), (a2, .inr (1, [.ref b2, .int (zz_I (((n2 : Nat) : Int)))])), (b2, .inl (cI, cap2, .inl (zz_A (g2))))]) [(a, .inr (1, [.ref b, .int (zz_I (((n : Nat) : Int)))])), (b, .inl (cI, cap, .inl (zz_A (g)))), (a2, .inr (1, [.ref b2, .int (zz_I (((n2 : Nat) : Int)))])), (b2, .inl (cI, cap2, .inl (zz_A (g2))))] := zz_Dof hN rfl
  have hS : va_S (zz_F [(a, .inr (1, [.ref b, .int (zz_I (((n : Nat) : Int)))])), (b, .inl (cI, cap, .inl (zz_A (g)))), (a2, .inr (1, [.ref b2, .int (zz_I (((n2 : Nat) : Int)))])), (b2, .inl (cI, cap2, .inl (zz_A (g2))))]) sg.heap sg.heap [] := va_S.rf
  have hl := lv_entry ([.ref a, .ref a2]) (n := 3) (Nat.le_of_ble_eq_true rfl)
  rw [lg_entry_eq]
  generalize (lg_sl ([.ref a, .ref a2]) ++ List.replicate (3 - (lg_sl ([.ref a, .ref a2])).length) Slot.unset).toArray = ls at hl ⊢
  have hl : lv_has ls 3 [(0, .ref a), (1, .ref a2)] := hl
  refine lv_aload_n hx hb kd_R_copy_0 rfl (lv_at hl 0 rfl) ?_
  refine zz_wV ⟨hx, hb, hml, hown, hts⟩ hK (kc_R_clear l D cI cW a b n  (hN.sub [0] rfl rfl)) (zz_gV kw_516 kw_147 kw_148 kw_28 kw_149) ⟨rfl, rfl⟩ ⟨rfl, kh_R_clear⟩ ⟨Nat.le_of_ble_eq_true rfl, Nat.le_of_ble_eq_true rfl⟩ (va_recv (q := (kn_R, kf_R, 2)) hK hP rfl (show ([(a, .inr (1, [.ref b, .int (zz_I (((n : Nat) : Int)))])), (b, .inl (cI, cap, .inl (zz_A (g)))), (a2, .inr (1, [.ref b2, .int (zz_I (((n2 : Nat) : Int)))])), (b2, .inl (cI, cap2, .inl (zz_A (g2))))] : va_W)[0]? = some _ from rfl)) hP hD hS [0] rfl rfl (fun _ => rfl) rfl hl.1 rfl (Nat.le_of_ble_eq_true rfl) kd_R_copy_1 ⟨Nat.le_of_ble_eq_true rfl, Nat.le_of_ble_eq_true rfl⟩ (fun u1 H locs hu1 hP hD hS => ?_)
  have hP : va_P D kcl [(a, .inr (1, [.ref b, .int (zz_I (((0 : Nat) : Int)))])), (b, .inl (cI, cap, .inl (zz_A (g)))), (a2, .inr (1, [.ref b2, .int (zz_I (((n2 : Nat) : Int)))])), (b2, .inl (cI, cap2, .inl (zz_A (g2))))] H := hP
  have hD : va_D (zz_F [(a, .inr (1, [.ref b, .int (zz_I (((n : Nat) : Int)))])), (b, .inl (cI, cap, .inl (zz_A (g)))), (a2, .inr (1, [.ref b2, .int (zz_I (((n2 : Nat) : Int)))])), (b2, .inl (cI, cap2, .inl (zz_A (g2))))]) [(a, .inr (1, [.ref b, .int (zz_I (((0 : Nat) : Int)))])), (b, .inl (cI, cap, .inl (zz_A (g)))), (a2, .inr (1, [.ref b2, .int (zz_I (((n2 : Nat) : Int)))])), (b2, .inl (cI, cap2, .inl (zz_A (g2))))] := hD
  refine zz_iconst hx hb (v := 0) (rfl) kd_R_copy_4 ?_
  refine lv_istore_n hx hb kd_R_copy_5 rfl hl (by decide) rfl (fun ls hl => ?_)
  have hl : lv_has ls 3 [(2, .int (zz_I (0))), (0, .ref a), (1, .ref a2)] := hl
  have lp6 : ∀ (fuel : Nat) (i : Nat) (ls : Array Slot) (H : Heap) (locs : List Loc), n2 - i < fuel → (i ≤ n2) → lv_has ls 3 [(0, .ref a), (1, .ref a2), (2, .int (zz_I (((i : Nat) : Int))))] → va_P D kcl [(a, .inr (1, [.ref b, .int (zz_I (((i : Nat) : Int)))])), (b, .inl (cI, cap, .inl (zz_A (ck_cp g g2 i)))), (a2, .inr (1, [.ref b2, .int (zz_I (((n2 : Nat) : Int)))])), (b2, .inl (cI, cap2, .inl (zz_A (g2))))] H → va_D (zz_F [(a, .inr (1, [.ref b, .int (zz_I (((n : Nat) : Int)))])), (b, .inl (cI, cap, .inl (zz_A (g)))), (a2, .inr (1, [.ref b2, .int (zz_I (((n2 : Nat) : Int)))])), (b2, .inl (cI, cap2, .inl (zz_A (g2))))]) [(a, .inr (1, [.ref b, .int (zz_I (((i : Nat) : Int)))])), (b, .inl (cI, cap, .inl (zz_A (ck_cp g g2 i)))), (a2, .inr (1, [.ref b2, .int (zz_I (((n2 : Nat) : Int)))])), (b2, .inl (cI, cap2, .inl (zz_A (g2))))] → va_S (zz_F [(a, .inr (1, [.ref b, .int (zz_I (((n : Nat) : Int)))])), (b, .inl (cI, cap, .inl (zz_A (g)))), (a2, .inr (1, [.ref b2, .int (zz_I (((n2 : Nat) : Int)))])), (b2, .inl (cI, cap2, .inl (zz_A (g2))))]) sg.heap H locs → W pg l ev (headSpec kv_R_copy ({ frames := 1, cells := 0, slots := 0, locals := 21 })).room sg mg [.ref a, .ref a2].toArray bl mt cd H locs 0 0 (MQ bl (zz_Qw (fun (u : Unit) => none) (fun (u : Unit) H => (True) ∧ va_P D kcl [(a, .inr (1, [.ref b, .int (zz_I (((n2 : Nat) : Int)))])), (b, .inl (cI, cap, .inl (zz_A (ck_cp g g2 n2)))), (a2, .inr (1, [.ref b2, .int (zz_I (((n2 : Nat) : Int)))])), (b2, .inl (cI, cap2, .inl (zz_A (g2))))] H) (zz_F [(a, .inr (1, [.ref b, .int (zz_I (((n : Nat) : Int)))])), (b, .inl (cI, cap, .inl (zz_A (g)))), (a2, .inr (1, [.ref b2, .int (zz_I (((n2 : Nat) : Int)))])), (b2, .inl (cI, cap2, .inl (zz_A (g2))))])) [.ref a, .ref a2].toArray sg 0 0 (zz_F [(a, .inr (1, [.ref b, .int (zz_I (((n : Nat) : Int)))])), (b, .inl (cI, cap, .inl (zz_A (g)))), (a2, .inr (1, [.ref b2, .int (zz_I (((n2 : Nat) : Int)))])), (b2, .inl (cI, cap2, .inl (zz_A (g2))))])) (F0 mg 6 ls []) := by
    intro fuel
    induction fuel with
    | zero => intro i ls H locs hfu; exact absurd hfu (Nat.not_lt_zero _)
    | succ fuel ih6 =>
      intro i ls H locs hfu hi hl hP hD hS
      refine lv_iload_n hx hb kd_R_copy_6 rfl (lv_at hl 2 rfl) ?_
      refine lv_aload_n hx hb kd_R_copy_7 rfl (lv_at hl 1 rfl) ?_
      refine va_get (D := D) (ci := 1) (v := .int (zz_I (((n2 : Nat) : Int)))) (C := kn_R) (T := kf_R) (N := 2) hx hb hts ki_R hown hK hP 2 rfl rfl 1 (by decide) (hts _ kw_63) (fun _ h9 => h9) rfl kd_R_copy_8 ?_
      refine zz_icmp_ge (tgt := 29) hx hb kd_R_copy_11 (by decide) (by omega) (fun hbr11 => ?_) (fun hbr11 => ?_)
      · have e : i = n2 := by omega
        rw [e] at hP
        exact W.vret hx hb hr (zz_endw (()) (rfl) ⟨trivial, hP⟩ hS) hS.2.2 kd_R_copy_29
      · refine lv_aload_n hx hb kd_R_copy_14 rfl (lv_at hl 0 rfl) ?_
        refine lv_aload_n hx hb kd_R_copy_15 rfl (lv_at hl 1 rfl) ?_
        refine lv_iload_n hx hb kd_R_copy_16 rfl (lv_at hl 2 rfl) ?_
        refine zz_pV ⟨hx, hb, hml, hown, hts⟩ hK (kc_R_at l D cI cW a2 b2 n2 cap2 g2 ((i : Nat) : Int) (by omega) (by omega) (by omega) (v := g2 i) (ck_ri_in (by omega))) (zz_gV kw_517 kw_164 kw_165 kw_28 kw_166) ⟨rfl, rfl⟩ ⟨rfl, kh_R_at⟩ ⟨Nat.le_of_ble_eq_true rfl, Nat.le_of_ble_eq_true rfl⟩ (va_recv (q := (kn_R, kf_R, 2)) hK hP rfl (show ([(a, .inr (1, [.ref b, .int (zz_I (((i : Nat) : Int)))])), (b, .inl (cI, cap, .inl (zz_A (ck_cp g g2 i)))), (a2, .inr (1, [.ref b2, .int (zz_I (((n2 : Nat) : Int)))])), (b2, .inl (cI, cap2, .inl (zz_A (g2))))] : va_W)[2]? = some _ from rfl)) (hP.sub (ws' := [(a2, .inr (1, [.ref b2, .int (zz_I (((n2 : Nat) : Int)))])), (b2, .inl (cI, cap2, .inl (zz_A (g2))))]) [2, 3] rfl) rfl hl.1 rfl (Nat.le_of_ble_eq_true rfl) kd_R_copy_17 ⟨Nat.le_of_ble_eq_true rfl, Nat.le_of_ble_eq_true rfl⟩ ?_
        refine zz_wV ⟨hx, hb, hml, hown, hts⟩ hK (kc_R_add l D cI cW a b i cap (ck_cp g g2 i) (g2 i) (by omega) (by omega) (hN.sub [0, 1] rfl rfl)) (zz_gV kw_251 kw_252 kw_253 kw_28 kw_254) ⟨rfl, rfl⟩ ⟨rfl, kh_R_add⟩ ⟨Nat.le_of_ble_eq_true rfl, Nat.le_of_ble_eq_true rfl⟩ (va_recv (q := (kn_R, kf_R, 2)) hK hP rfl (show ([(a, .inr (1, [.ref b, .int (zz_I (((i : Nat) : Int)))])), (b, .inl (cI, cap, .inl (zz_A (ck_cp g g2 i)))), (a2, .inr (1, [.ref b2, .int (zz_I (((n2 : Nat) : Int)))])), (b2, .inl (cI, cap2, .inl (zz_A (g2))))] : va_W)[0]? = some _ from rfl)) hP hD hS [0, 1] rfl rfl (fun _ => rfl) rfl hl.1 rfl (Nat.le_of_ble_eq_true rfl) kd_R_copy_20 ⟨Nat.le_of_ble_eq_true rfl, Nat.le_of_ble_eq_true rfl⟩ (fun u20 H locs hu20 hP hD hS => ?_)
        have hP : va_P D kcl [(a, .inr (1, [.ref b, .int (zz_I (((i + 1 : Nat) : Int)))])), (b, .inl (cI, cap, .inl (zz_A (zz_u (ck_cp g g2 i) i (g2 i))))), (a2, .inr (1, [.ref b2, .int (zz_I (((n2 : Nat) : Int)))])), (b2, .inl (cI, cap2, .inl (zz_A (g2))))] H := hP
        have hD : va_D (zz_F [(a, .inr (1, [.ref b, .int (zz_I (((n : Nat) : Int)))])), (b, .inl (cI, cap, .inl (zz_A (g)))), (a2, .inr (1, [.ref b2, .int (zz_I (((n2 : Nat) : Int)))])), (b2, .inl (cI, cap2, .inl (zz_A (g2))))]) [(a, .inr (1, [.ref b, .int (zz_I (((i + 1 : Nat) : Int)))])), (b, .inl (cI, cap, .inl (zz_A (zz_u (ck_cp g g2 i) i (g2 i))))), (a2, .inr (1, [.ref b2, .int (zz_I (((n2 : Nat) : Int)))])), (b2, .inl (cI, cap2, .inl (zz_A (g2))))] := hD
        refine zz_iinc (k := 2) hx hb kd_R_copy_23 hl rfl rfl (by decide) rfl (fun ls hl => ?_)
        have hl : lv_has ls 3 [(2, .int (zz_I (((i : Nat) : Int) + 1))), (0, .ref a), (1, .ref a2)] := hl
        refine lv_goto (tgt := 6) hx hb kd_R_copy_26 (by decide) ?_
        rw [ck_cp_s] at hP hD
        exact ih6 (i + 1) ls _ _ (by omega) (by omega) (lv_sub hl [1, 2, 0] rfl) hP hD hS
  have hP : va_P D kcl [(a, .inr (1, [.ref b, .int (zz_I (((0 : Nat) : Int)))])), (b, .inl (cI, cap, .inl (zz_A (ck_cp g g2 0)))), (a2, .inr (1, [.ref b2, .int (zz_I (((n2 : Nat) : Int)))])), (b2, .inl (cI, cap2, .inl (zz_A (g2))))] H := by rw [ck_cp_0]; exact hP
  have hD : va_D (zz_F [(a, .inr (1, [.ref b, .int (zz_I (((n : Nat) : Int)))])), (b, .inl (cI, cap, .inl (zz_A (g)))), (a2, .inr (1, [.ref b2, .int (zz_I (((n2 : Nat) : Int)))])), (b2, .inl (cI, cap2, .inl (zz_A (g2))))]) [(a, .inr (1, [.ref b, .int (zz_I (((0 : Nat) : Int)))])), (b, .inl (cI, cap, .inl (zz_A (ck_cp g g2 0)))), (a2, .inr (1, [.ref b2, .int (zz_I (((n2 : Nat) : Int)))])), (b2, .inl (cI, cap2, .inl (zz_A (g2))))] := by rw [ck_cp_0]; exact hD
  exact lp6 _ 0 ls _ _ (Nat.lt_succ_self _) (Nat.zero_le _) (lv_sub hl [1, 2, 0] rfl) hP hD hS
set_option maxHeartbeats 4000000 in
set_option maxRecDepth 100000 in
theorem kc_R_order (l : Launch) (D : va_G) (cI cW : ClassId) (a : Nat) (b : Nat) (n : Nat) (cap : Nat) (g : Nat → Int) (a2 : Nat) (b2 : Nat) (n2 : Nat) (cap2 : Nat) (g2 : Nat → Int) (hn : n ≤ cap) (hcap : cap ≤ 1000) (hn2 : n2 ≤ cap2) (hcap2 : cap2 ≤ 1000) (hg : ck_ok g n) (hg2 : ck_ok g2 n2) {v : Int} (hv : ck_ord g n g2 n2 = v) : Met l ky_R_order kv_R_order ({ frames := 1, cells := 0, slots := 0, locals := 40 }) (va_Pc [.ref a, .ref a2] (zz_P D cI cW (va_P D kcl [(a, .inr (1, [.ref b, .int (zz_I (((n : Nat) : Int)))])), (b, .inl (cI, cap, .inl (zz_A (g)))), (a2, .inr (1, [.ref b2, .int (zz_I (((n2 : Nat) : Int)))])), (b2, .inl (cI, cap2, .inl (zz_A (g2))))]))) (zz_Qp (.int (zz_I v))) 0 0 (fun _ => False) := by
  subst hv
  refine Met.ofW (cc := kb_R_order) (maxL := 4) (ret := (some .int)) (by decide) rfl ?_
  intro pg ev sg mg ag bl mt cd s1 Bd hml hv
  obtain ⟨rfl, hP, hK⟩ := hv
  have hP : va_P D kcl [(a, .inr (1, [.ref b, .int (zz_I (((n : Nat) : Int)))])), (b, .inl (cI, cap, .inl (zz_A (g)))), (a2, .inr (1, [.ref b2, .int (zz_I (((n2 : Nat) : Int)))])), (b2, .inl (cI, cap2, .inl (zz_A (g2))))] sg.heap := hP
  have hx := Bd.exec
  have hb := Bd.bytes
  have hr := Bd.returns
  have hlocks := Bd.notSynchronized
  have hts : ∀ w ∈ zz_tbl, w.before _ sg = true := fun w h => atoms_spec (ws := kv_R_order) Bd.pre w (List.mem_cons_of_mem _ h)
  have hown : sg.vm.findClass kn_R = some mg.cls := findClass_of_methodNamed Bd.named
  have hl := lv_entry ([.ref a, .ref a2]) (n := 4) (Nat.le_of_ble_eq_true rfl)
  rw [lg_entry_eq]
  generalize (lg_sl ([.ref a, .ref a2]) ++ List.replicate (4 - (lg_sl ([.ref a, .ref a2])).length) Slot.unset).toArray = ls at hl ⊢
  have hl : lv_has ls 4 [(0, .ref a), (1, .ref a2)] := hl
  refine lv_aload_n hx hb kd_R_order_0 rfl (lv_at hl 0 rfl) ?_
  refine va_get (D := D) (ci := 1) (v := .int (zz_I (((n : Nat) : Int)))) (C := kn_R) (T := kf_R) (N := 2) hx hb hts ki_R hown hK hP 0 rfl rfl 1 (by decide) (hts _ kw_63) (fun _ h9 => h9) rfl kd_R_order_1 ?_
  refine lv_aload_n hx hb kd_R_order_4 rfl (lv_at hl 1 rfl) ?_
  refine va_get (D := D) (ci := 1) (v := .int (zz_I (((n2 : Nat) : Int)))) (C := kn_R) (T := kf_R) (N := 2) hx hb hts ki_R hown hK hP 2 rfl rfl 1 (by decide) (hts _ kw_63) (fun _ h9 => h9) rfl kd_R_order_5 ?_
  refine zz_mmin hx hb (hml.trans hl.1.symm) hown (hts _ kw_330) (hts _ kw_331) (hts _ kw_39) (hts _ kw_332) (Nat.le_of_ble_eq_true rfl) (Nat.le_of_ble_eq_true rfl) ⟨Nat.le_of_ble_eq_true rfl, Nat.le_of_ble_eq_true rfl⟩ (v := ((min n n2 : Nat) : Int)) (by omega) (by omega) kd_R_order_8 ?_
  refine lv_istore_n hx hb kd_R_order_11 rfl hl (by decide) rfl (fun ls hl => ?_)
  have hl : lv_has ls 4 [(2, .int (zz_I (((min n n2 : Nat) : Int)))), (0, .ref a), (1, .ref a2)] := hl
  refine zz_iconst hx hb (v := 0) (rfl) kd_R_order_12 ?_
  refine lv_istore_n hx hb kd_R_order_13 rfl hl (by decide) rfl (fun ls hl => ?_)
  have hl : lv_has ls 4 [(3, .int (zz_I (0))), (2, .int (zz_I (((min n n2 : Nat) : Int)))), (0, .ref a), (1, .ref a2)] := hl
  have lp14 : ∀ (fuel : Nat) (i : Nat) (ls : Array Slot), min n n2 - i < fuel → (i ≤ min n n2) → (ck_lex g g2 (ck_c3 n n2) i (min n n2 - i) = ck_lex g g2 (ck_c3 n n2) 0 (min n n2)) → lv_has ls 4 [(0, .ref a), (1, .ref a2), (2, .int (zz_I (((min n n2 : Nat) : Int)))), (3, .int (zz_I (((i : Nat) : Int))))] → W pg l ev (headSpec kv_R_order ({ frames := 1, cells := 0, slots := 0, locals := 40 })).room sg mg [.ref a, .ref a2].toArray bl mt cd sg.heap [] 0 0 (MQ bl (zz_Qp (.int (zz_I (ck_ord g n g2 n2)))) [.ref a, .ref a2].toArray sg 0 0 (fun _ => False)) (F0 mg 14 ls []) := by
    intro fuel
    induction fuel with
    | zero => intro i ls hfu; exact absurd hfu (Nat.not_lt_zero _)
    | succ fuel ih14 =>
      intro i ls hfu hi hq hl
      refine lv_iload_n hx hb kd_R_order_14 rfl (lv_at hl 3 rfl) ?_
      refine lv_iload_n hx hb kd_R_order_15 rfl (lv_at hl 2 rfl) ?_
      refine zz_icmp_ge (tgt := 56) hx hb kd_R_order_16 (by decide) (by omega) (fun hbr16 => ?_) (fun hbr16 => ?_)
      · refine lv_aload_n hx hb kd_R_order_56 rfl (lv_at hl 0 rfl) ?_
        refine va_get (D := D) (ci := 1) (v := .int (zz_I (((n : Nat) : Int)))) (C := kn_R) (T := kf_R) (N := 2) hx hb hts ki_R hown hK hP 0 rfl rfl 1 (by decide) (hts _ kw_63) (fun _ h9 => h9) rfl kd_R_order_57 ?_
        refine lv_aload_n hx hb kd_R_order_60 rfl (lv_at hl 1 rfl) ?_
        refine va_get (D := D) (ci := 1) (v := .int (zz_I (((n2 : Nat) : Int)))) (C := kn_R) (T := kf_R) (N := 2) hx hb hts ki_R hown hK hP 2 rfl rfl 1 (by decide) (hts _ kw_63) (fun _ h9 => h9) rfl kd_R_order_61 ?_
        refine zz_pS ⟨hx, hb, hml, hown, hts⟩ hK (kc_I_compare l D cI cW ((n : Nat) : Int) ((n2 : Nat) : Int) (by omega) (by omega) rfl) (zz_gS kw_333 kw_334 kw_40 kw_335) ⟨rfl, rfl⟩ kh_I_compare ⟨Nat.le_of_ble_eq_true rfl, Nat.le_of_ble_eq_true rfl⟩  trivial rfl hl.1 rfl (Nat.le_of_ble_eq_true rfl) kd_R_order_64 ⟨Nat.le_of_ble_eq_true rfl, Nat.le_of_ble_eq_true rfl⟩ ?_
        exact W.iret hx hb hr (zz_endp (by unfold ck_ord; rw [← hq, show min n n2 - i = 0 by omega]; rfl)) (fun _ h => nomatch h) kd_R_order_67
      · refine lv_aload_n hx hb kd_R_order_19 rfl (lv_at hl 0 rfl) ?_
        refine va_get (D := D) (ci := 1) (v := .ref b) (C := kn_R) (T := kf_R) (N := 2) hx hb hts ki_R hown hK hP 0 rfl rfl 0 (by decide) (hts _ kw_62) (fun _ h9 => h9) rfl kd_R_order_20 ?_
        refine lv_iload_n hx hb kd_R_order_23 rfl (lv_at hl 3 rfl) ?_
        refine zz_iald hx hb hK hP 1 0 rfl rfl (by omega) (v := g i) (rfl) kd_R_order_24 ?_
        refine lv_aload_n hx hb kd_R_order_25 rfl (lv_at hl 1 rfl) ?_
        refine va_get (D := D) (ci := 1) (v := .ref b2) (C := kn_R) (T := kf_R) (N := 2) hx hb hts ki_R hown hK hP 2 rfl rfl 0 (by decide) (hts _ kw_62) (fun _ h9 => h9) rfl kd_R_order_26 ?_
        refine lv_iload_n hx hb kd_R_order_29 rfl (lv_at hl 3 rfl) ?_
        refine zz_iald hx hb hK hP 3 0 rfl rfl (by omega) (v := g2 i) (rfl) kd_R_order_30 ?_
        refine zz_icmp_eq (tgt := 50) hx hb kd_R_order_31 (by decide) (by have := hg i (by omega); have := hg2 i (by omega); omega) (fun hbr31 => ?_) (fun hbr31 => ?_)
        · refine zz_iinc (k := 3) hx hb kd_R_order_50 hl rfl rfl (by decide) rfl (fun ls hl => ?_)
          have hl : lv_has ls 4 [(3, .int (zz_I (((i : Nat) : Int) + 1))), (0, .ref a), (1, .ref a2), (2, .int (zz_I (((min n n2 : Nat) : Int))))] := hl
          refine lv_goto (tgt := 14) hx hb kd_R_order_53 (by decide) ?_
          exact ih14 (i + 1) ls (by omega) (by omega) ((ck_lex_go (by omega) (by assumption)).trans hq) (lv_sub hl [1, 2, 3, 0] rfl)
        · refine lv_aload_n hx hb kd_R_order_34 rfl (lv_at hl 0 rfl) ?_
          refine va_get (D := D) (ci := 1) (v := .ref b) (C := kn_R) (T := kf_R) (N := 2) hx hb hts ki_R hown hK hP 0 rfl rfl 0 (by decide) (hts _ kw_62) (fun _ h9 => h9) rfl kd_R_order_35 ?_
          refine lv_iload_n hx hb kd_R_order_38 rfl (lv_at hl 3 rfl) ?_
          refine zz_iald hx hb hK hP 1 0 rfl rfl (by omega) (v := g i) (rfl) kd_R_order_39 ?_
          refine lv_aload_n hx hb kd_R_order_40 rfl (lv_at hl 1 rfl) ?_
          refine va_get (D := D) (ci := 1) (v := .ref b2) (C := kn_R) (T := kf_R) (N := 2) hx hb hts ki_R hown hK hP 2 rfl rfl 0 (by decide) (hts _ kw_62) (fun _ h9 => h9) rfl kd_R_order_41 ?_
          refine lv_iload_n hx hb kd_R_order_44 rfl (lv_at hl 3 rfl) ?_
          refine zz_iald hx hb hK hP 3 0 rfl rfl (by omega) (v := g2 i) (rfl) kd_R_order_45 ?_
          refine zz_pS ⟨hx, hb, hml, hown, hts⟩ hK (kc_I_compare l D cI cW (g i) (g2 i) (by have := hg i (by omega); omega) (by have := hg2 i (by omega); omega) rfl) (zz_gS kw_333 kw_334 kw_40 kw_335) ⟨rfl, rfl⟩ kh_I_compare ⟨Nat.le_of_ble_eq_true rfl, Nat.le_of_ble_eq_true rfl⟩  trivial rfl hl.1 rfl (Nat.le_of_ble_eq_true rfl) kd_R_order_46 ⟨Nat.le_of_ble_eq_true rfl, Nat.le_of_ble_eq_true rfl⟩ ?_
          exact W.iret hx hb hr (zz_endp (by unfold ck_ord; rw [← hq]; exact (ck_lex_no (by omega) (by assumption)).symm)) (fun _ h => nomatch h) kd_R_order_49
  exact lp14 _ 0 ls (Nat.lt_succ_self _) (Nat.zero_le _) (rfl) (lv_sub hl [2, 3, 1, 0] rfl)
