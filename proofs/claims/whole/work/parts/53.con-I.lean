set_option maxHeartbeats 4000000 in
set_option maxRecDepth 100000 in
theorem kc_R_init48 (l : Launch) (D : va_G) (cI cW : ClassId) (a : Nat) (sz : Nat) : Met l ky_R_init kv_R_init ({ frames := 1, cells := 1, slots := 48, locals := 20 }) (va_Pc [.ref a, .int (zz_I (48))] (zz_C D cI cW sz a (va_P D kcl [(a, .inr (1, [.null, .int (zz_I (0))]))]))) (zz_Qc sz 1 a (va_P D kcl [(a, .inr (1, [.ref sz, .int (zz_I (((0 : Nat) : Int)))])), (sz, .inl (cI, 48, .inl (zz_A (ck_z))))])) 1 48 (zz_Fc sz a) := by
  refine Met.ofW (cc := kb_R_init) (maxL := 2) (ret := none) (by decide) rfl ?_
  intro pg ev sg mg ag bl mt cd s1 Bd hml hv
  obtain ⟨rfl, hsz, hal, hP, hK, hAO⟩ := hv
  have hZ := hsz
  have hin : mt.name = "<init>" := (name_of_methodNamed Bd.named Bd.method).1
  have hP : va_P D kcl [(a, .inr (1, [.null, .int (zz_I (0))]))] sg.heap := hP
  have hx := Bd.exec
  have hb := Bd.bytes
  have hr := Bd.returns
  have hlocks := Bd.notSynchronized
  have hts : ∀ w ∈ zz_tbl, w.before _ sg = true := fun w h => atoms_spec (ws := kv_R_init) Bd.pre w (List.mem_cons_of_mem _ h)
  have hown : sg.vm.findClass kn_R = some mg.cls := findClass_of_methodNamed Bd.named
  have hD : va_D (zz_Fc sz a) [(a, .inr (1, [.null, .int (zz_I (0))]))] := zz_D1
  have hS : va_S (zz_Fc sz a) sg.heap sg.heap [] := va_S.rf
  have hl := lv_entry ([.ref a, .int (zz_I (48))]) (n := 2) (Nat.le_of_ble_eq_true rfl)
  rw [lg_entry_eq]
  generalize (lg_sl ([.ref a, .int (zz_I (48))]) ++ List.replicate (2 - (lg_sl ([.ref a, .int (zz_I (48))])).length) Slot.unset).toArray = ls at hl ⊢
  have hl : lv_has ls 2 [(0, .ref a), (1, .int (zz_I (48)))] := hl
  refine lv_aload_n hx hb kd_R_init_0 rfl (lv_at hl 0 rfl) ?_
  refine W.objInit hx hb hown (hts _ kw_61) (hts _ kw_48) (hts _ kw_49) rfl (by rw [hml]; exact hl.1) rfl kd_R_init_1 (Nat.le_of_ble_eq_true rfl) (Nat.le_of_ble_eq_true rfl) ?_
  refine W.eq (g2 := F0 mg 4 ls []) rfl ?_
  refine lv_aload_n hx hb kd_R_init_4 rfl (lv_at hl 0 rfl) ?_
  refine lv_iload_n hx hb kd_R_init_5 rfl (lv_at hl 1 rfl) ?_
  refine zz_newi (h := sz) (N := 48) hx hb (hts _ kw_69) hK 0 rfl hP hD hS hZ (Or.inr (by omega)) (by omega) (Nat.le_of_ble_eq_true rfl) (Nat.le_of_ble_eq_true rfl) kd_R_init_6 (fun H hZ hP hD hS => ?_)
  have hP : va_P D kcl [(a, .inr (1, [.null, .int (zz_I (0))])), (sz, .inl (cI, 48, .inl (zz_A (ck_z))))] H := hP
  have hD : va_D (zz_Fc sz a) [(a, .inr (1, [.null, .int (zz_I (0))])), (sz, .inl (cI, 48, .inl (zz_A (ck_z))))] := hD
  have hZ : H.size = sz + 1 := hZ
  refine zz_putFZ (D := D) (ci := 1) (v := .ref sz) (ty := .array .int) (C := kn_R) (T := kf_R) (N := 2) hx hb hts ki_R kt_R kk_R km_R hown hK hP hD hS 0 rfl rfl 0 (by decide) (hts _ kw_62) (fun _ h9 => h9) rfl hin rfl (by decide +kernel) rfl rfl (Nat.le_of_ble_eq_true rfl) kd_R_init_8 (fun H locs hE hP hD hS => ?_)
  have hZ := hE.trans hZ
  have hP : va_P D kcl [(a, .inr (1, [.ref sz, .int (zz_I (0))])), (sz, .inl (cI, 48, .inl (zz_A (ck_z))))] H := hP
  have hD : va_D (zz_Fc sz a) [(a, .inr (1, [.ref sz, .int (zz_I (0))])), (sz, .inl (cI, 48, .inl (zz_A (ck_z))))] := hD
  have hZ : H.size = sz + 1 := hZ
  refine lv_aload_n hx hb kd_R_init_11 rfl (lv_at hl 0 rfl) ?_
  refine zz_iconst hx hb (v := 0) (rfl) kd_R_init_12 ?_
  refine zz_putZ (D := D) (ci := 1) (v := .int (zz_I (0))) (ty := .int) (C := kn_R) (T := kf_R) (N := 2) hx hb hts ki_R kt_R kk_R km_R hown hK hP hD hS 0 rfl rfl 1 (by decide) (hts _ kw_63) (fun _ h9 => h9) rfl (by decide +kernel) rfl rfl (Nat.le_of_ble_eq_true rfl) kd_R_init_13 (fun H locs hE hP hD hS => ?_)
  have hZ := hE.trans hZ
  have hP : va_P D kcl [(a, .inr (1, [.ref sz, .int (zz_I (0))])), (sz, .inl (cI, 48, .inl (zz_A (ck_z))))] H := hP
  have hD : va_D (zz_Fc sz a) [(a, .inr (1, [.ref sz, .int (zz_I (0))])), (sz, .inl (cI, 48, .inl (zz_A (ck_z))))] := hD
  have hZ : H.size = sz + 1 := hZ
  exact W.vret hx hb hr (zz_endc hsz hZ hP hS) hS.2.2 kd_R_init_16
set_option maxHeartbeats 4000000 in
set_option maxRecDepth 100000 in
theorem kc_R_init144 (l : Launch) (D : va_G) (cI cW : ClassId) (a : Nat) (sz : Nat) : Met l ky_R_init kv_R_init ({ frames := 1, cells := 1, slots := 144, locals := 20 }) (va_Pc [.ref a, .int (zz_I (144))] (zz_C D cI cW sz a (va_P D kcl [(a, .inr (1, [.null, .int (zz_I (0))]))]))) (zz_Qc sz 1 a (va_P D kcl [(a, .inr (1, [.ref sz, .int (zz_I (((0 : Nat) : Int)))])), (sz, .inl (cI, 144, .inl (zz_A (ck_z))))])) 1 144 (zz_Fc sz a) := by
  refine Met.ofW (cc := kb_R_init) (maxL := 2) (ret := none) (by decide) rfl ?_
  intro pg ev sg mg ag bl mt cd s1 Bd hml hv
  obtain ⟨rfl, hsz, hal, hP, hK, hAO⟩ := hv
  have hZ := hsz
  have hin : mt.name = "<init>" := (name_of_methodNamed Bd.named Bd.method).1
  have hP : va_P D kcl [(a, .inr (1, [.null, .int (zz_I (0))]))] sg.heap := hP
  have hx := Bd.exec
  have hb := Bd.bytes
  have hr := Bd.returns
  have hlocks := Bd.notSynchronized
  have hts : ∀ w ∈ zz_tbl, w.before _ sg = true := fun w h => atoms_spec (ws := kv_R_init) Bd.pre w (List.mem_cons_of_mem _ h)
  have hown : sg.vm.findClass kn_R = some mg.cls := findClass_of_methodNamed Bd.named
  have hD : va_D (zz_Fc sz a) [(a, .inr (1, [.null, .int (zz_I (0))]))] := zz_D1
  have hS : va_S (zz_Fc sz a) sg.heap sg.heap [] := va_S.rf
  have hl := lv_entry ([.ref a, .int (zz_I (144))]) (n := 2) (Nat.le_of_ble_eq_true rfl)
  rw [lg_entry_eq]
  generalize (lg_sl ([.ref a, .int (zz_I (144))]) ++ List.replicate (2 - (lg_sl ([.ref a, .int (zz_I (144))])).length) Slot.unset).toArray = ls at hl ⊢
  have hl : lv_has ls 2 [(0, .ref a), (1, .int (zz_I (144)))] := hl
  refine lv_aload_n hx hb kd_R_init_0 rfl (lv_at hl 0 rfl) ?_
  refine W.objInit hx hb hown (hts _ kw_61) (hts _ kw_48) (hts _ kw_49) rfl (by rw [hml]; exact hl.1) rfl kd_R_init_1 (Nat.le_of_ble_eq_true rfl) (Nat.le_of_ble_eq_true rfl) ?_
  refine W.eq (g2 := F0 mg 4 ls []) rfl ?_
  refine lv_aload_n hx hb kd_R_init_4 rfl (lv_at hl 0 rfl) ?_
  refine lv_iload_n hx hb kd_R_init_5 rfl (lv_at hl 1 rfl) ?_
  refine zz_newi (h := sz) (N := 144) hx hb (hts _ kw_69) hK 0 rfl hP hD hS hZ (Or.inr (by omega)) (by omega) (Nat.le_of_ble_eq_true rfl) (Nat.le_of_ble_eq_true rfl) kd_R_init_6 (fun H hZ hP hD hS => ?_)
  have hP : va_P D kcl [(a, .inr (1, [.null, .int (zz_I (0))])), (sz, .inl (cI, 144, .inl (zz_A (ck_z))))] H := hP
  have hD : va_D (zz_Fc sz a) [(a, .inr (1, [.null, .int (zz_I (0))])), (sz, .inl (cI, 144, .inl (zz_A (ck_z))))] := hD
  have hZ : H.size = sz + 1 := hZ
  refine zz_putFZ (D := D) (ci := 1) (v := .ref sz) (ty := .array .int) (C := kn_R) (T := kf_R) (N := 2) hx hb hts ki_R kt_R kk_R km_R hown hK hP hD hS 0 rfl rfl 0 (by decide) (hts _ kw_62) (fun _ h9 => h9) rfl hin rfl (by decide +kernel) rfl rfl (Nat.le_of_ble_eq_true rfl) kd_R_init_8 (fun H locs hE hP hD hS => ?_)
  have hZ := hE.trans hZ
  have hP : va_P D kcl [(a, .inr (1, [.ref sz, .int (zz_I (0))])), (sz, .inl (cI, 144, .inl (zz_A (ck_z))))] H := hP
  have hD : va_D (zz_Fc sz a) [(a, .inr (1, [.ref sz, .int (zz_I (0))])), (sz, .inl (cI, 144, .inl (zz_A (ck_z))))] := hD
  have hZ : H.size = sz + 1 := hZ
  refine lv_aload_n hx hb kd_R_init_11 rfl (lv_at hl 0 rfl) ?_
  refine zz_iconst hx hb (v := 0) (rfl) kd_R_init_12 ?_
  refine zz_putZ (D := D) (ci := 1) (v := .int (zz_I (0))) (ty := .int) (C := kn_R) (T := kf_R) (N := 2) hx hb hts ki_R kt_R kk_R km_R hown hK hP hD hS 0 rfl rfl 1 (by decide) (hts _ kw_63) (fun _ h9 => h9) rfl (by decide +kernel) rfl rfl (Nat.le_of_ble_eq_true rfl) kd_R_init_13 (fun H locs hE hP hD hS => ?_)
  have hZ := hE.trans hZ
  have hP : va_P D kcl [(a, .inr (1, [.ref sz, .int (zz_I (0))])), (sz, .inl (cI, 144, .inl (zz_A (ck_z))))] H := hP
  have hD : va_D (zz_Fc sz a) [(a, .inr (1, [.ref sz, .int (zz_I (0))])), (sz, .inl (cI, 144, .inl (zz_A (ck_z))))] := hD
  have hZ : H.size = sz + 1 := hZ
  exact W.vret hx hb hr (zz_endc hsz hZ hP hS) hS.2.2 kd_R_init_16
set_option maxHeartbeats 4000000 in
set_option maxRecDepth 100000 in
theorem kc_R_init96 (l : Launch) (D : va_G) (cI cW : ClassId) (a : Nat) (sz : Nat) : Met l ky_R_init kv_R_init ({ frames := 1, cells := 1, slots := 96, locals := 20 }) (va_Pc [.ref a, .int (zz_I (96))] (zz_C D cI cW sz a (va_P D kcl [(a, .inr (1, [.null, .int (zz_I (0))]))]))) (zz_Qc sz 1 a (va_P D kcl [(a, .inr (1, [.ref sz, .int (zz_I (((0 : Nat) : Int)))])), (sz, .inl (cI, 96, .inl (zz_A (ck_z))))])) 1 96 (zz_Fc sz a) := by
  refine Met.ofW (cc := kb_R_init) (maxL := 2) (ret := none) (by decide) rfl ?_
  intro pg ev sg mg ag bl mt cd s1 Bd hml hv
  obtain ⟨rfl, hsz, hal, hP, hK, hAO⟩ := hv
  have hZ := hsz
  have hin : mt.name = "<init>" := (name_of_methodNamed Bd.named Bd.method).1
  have hP : va_P D kcl [(a, .inr (1, [.null, .int (zz_I (0))]))] sg.heap := hP
  have hx := Bd.exec
  have hb := Bd.bytes
  have hr := Bd.returns
  have hlocks := Bd.notSynchronized
  have hts : ∀ w ∈ zz_tbl, w.before _ sg = true := fun w h => atoms_spec (ws := kv_R_init) Bd.pre w (List.mem_cons_of_mem _ h)
  have hown : sg.vm.findClass kn_R = some mg.cls := findClass_of_methodNamed Bd.named
  have hD : va_D (zz_Fc sz a) [(a, .inr (1, [.null, .int (zz_I (0))]))] := zz_D1
  have hS : va_S (zz_Fc sz a) sg.heap sg.heap [] := va_S.rf
  have hl := lv_entry ([.ref a, .int (zz_I (96))]) (n := 2) (Nat.le_of_ble_eq_true rfl)
  rw [lg_entry_eq]
  generalize (lg_sl ([.ref a, .int (zz_I (96))]) ++ List.replicate (2 - (lg_sl ([.ref a, .int (zz_I (96))])).length) Slot.unset).toArray = ls at hl ⊢
  have hl : lv_has ls 2 [(0, .ref a), (1, .int (zz_I (96)))] := hl
  refine lv_aload_n hx hb kd_R_init_0 rfl (lv_at hl 0 rfl) ?_
  refine W.objInit hx hb hown (hts _ kw_61) (hts _ kw_48) (hts _ kw_49) rfl (by rw [hml]; exact hl.1) rfl kd_R_init_1 (Nat.le_of_ble_eq_true rfl) (Nat.le_of_ble_eq_true rfl) ?_
  refine W.eq (g2 := F0 mg 4 ls []) rfl ?_
  refine lv_aload_n hx hb kd_R_init_4 rfl (lv_at hl 0 rfl) ?_
  refine lv_iload_n hx hb kd_R_init_5 rfl (lv_at hl 1 rfl) ?_
  refine zz_newi (h := sz) (N := 96) hx hb (hts _ kw_69) hK 0 rfl hP hD hS hZ (Or.inr (by omega)) (by omega) (Nat.le_of_ble_eq_true rfl) (Nat.le_of_ble_eq_true rfl) kd_R_init_6 (fun H hZ hP hD hS => ?_)
  have hP : va_P D kcl [(a, .inr (1, [.null, .int (zz_I (0))])), (sz, .inl (cI, 96, .inl (zz_A (ck_z))))] H := hP
  have hD : va_D (zz_Fc sz a) [(a, .inr (1, [.null, .int (zz_I (0))])), (sz, .inl (cI, 96, .inl (zz_A (ck_z))))] := hD
  have hZ : H.size = sz + 1 := hZ
  refine zz_putFZ (D := D) (ci := 1) (v := .ref sz) (ty := .array .int) (C := kn_R) (T := kf_R) (N := 2) hx hb hts ki_R kt_R kk_R km_R hown hK hP hD hS 0 rfl rfl 0 (by decide) (hts _ kw_62) (fun _ h9 => h9) rfl hin rfl (by decide +kernel) rfl rfl (Nat.le_of_ble_eq_true rfl) kd_R_init_8 (fun H locs hE hP hD hS => ?_)
  have hZ := hE.trans hZ
  have hP : va_P D kcl [(a, .inr (1, [.ref sz, .int (zz_I (0))])), (sz, .inl (cI, 96, .inl (zz_A (ck_z))))] H := hP
  have hD : va_D (zz_Fc sz a) [(a, .inr (1, [.ref sz, .int (zz_I (0))])), (sz, .inl (cI, 96, .inl (zz_A (ck_z))))] := hD
  have hZ : H.size = sz + 1 := hZ
  refine lv_aload_n hx hb kd_R_init_11 rfl (lv_at hl 0 rfl) ?_
  refine zz_iconst hx hb (v := 0) (rfl) kd_R_init_12 ?_
  refine zz_putZ (D := D) (ci := 1) (v := .int (zz_I (0))) (ty := .int) (C := kn_R) (T := kf_R) (N := 2) hx hb hts ki_R kt_R kk_R km_R hown hK hP hD hS 0 rfl rfl 1 (by decide) (hts _ kw_63) (fun _ h9 => h9) rfl (by decide +kernel) rfl rfl (Nat.le_of_ble_eq_true rfl) kd_R_init_13 (fun H locs hE hP hD hS => ?_)
  have hZ := hE.trans hZ
  have hP : va_P D kcl [(a, .inr (1, [.ref sz, .int (zz_I (0))])), (sz, .inl (cI, 96, .inl (zz_A (ck_z))))] H := hP
  have hD : va_D (zz_Fc sz a) [(a, .inr (1, [.ref sz, .int (zz_I (0))])), (sz, .inl (cI, 96, .inl (zz_A (ck_z))))] := hD
  have hZ : H.size = sz + 1 := hZ
  exact W.vret hx hb hr (zz_endc hsz hZ hP hS) hS.2.2 kd_R_init_16
set_option maxHeartbeats 4000000 in
set_option maxRecDepth 100000 in
theorem kc_W_init (l : Launch) (D : va_G) (cI cW : ClassId) (a : Nat) (sz : Nat) : Met l ky_W_init kv_W_init ({ frames := 2, cells := 4, slots := 196, locals := 41 }) (va_Pc [.ref a] (zz_C D cI cW sz a (va_P D kcl [(a, .inr (3, [.null, .null]))]))) (zz_Qc sz 4 a (va_P D kcl [(a, .inr (3, [.ref sz, .ref (sz + 2)])), (sz, .inr (1, [.ref (sz + 1), .int (zz_I (((0 : Nat) : Int)))])), (sz + 1, .inl (cI, 48, .inl (zz_A (ck_z)))), (sz + 2, .inr (1, [.ref (sz + 3), .int (zz_I (((0 : Nat) : Int)))])), (sz + 3, .inl (cI, 144, .inl (zz_A (ck_z))))])) 4 196 (zz_Fc sz a) := by
  refine Met.ofW (cc := kb_W_init) (maxL := 1) (ret := none) (by decide) rfl ?_
  intro pg ev sg mg ag bl mt cd s1 Bd hml hv
  obtain ⟨rfl, hsz, hal, hP, hK, hAO⟩ := hv
  have hZ := hsz
  have hin : mt.name = "<init>" := (name_of_methodNamed Bd.named Bd.method).1
  have hP : va_P D kcl [(a, .inr (3, [.null, .null]))] sg.heap := hP
  have hx := Bd.exec
  have hb := Bd.bytes
  have hr := Bd.returns
  have hlocks := Bd.notSynchronized
  have hts : ∀ w ∈ zz_tbl, w.before _ sg = true := fun w h => atoms_spec (ws := kv_W_init) Bd.pre w (List.mem_cons_of_mem _ h)
  have hown : sg.vm.findClass kn_W = some mg.cls := findClass_of_methodNamed Bd.named
  have hD : va_D (zz_Fc sz a) [(a, .inr (3, [.null, .null]))] := zz_D1
  have hS : va_S (zz_Fc sz a) sg.heap sg.heap [] := va_S.rf
  have hl := lv_entry ([.ref a]) (n := 1) (Nat.le_of_ble_eq_true rfl)
  rw [lg_entry_eq]
  generalize (lg_sl ([.ref a]) ++ List.replicate (1 - (lg_sl ([.ref a])).length) Slot.unset).toArray = ls at hl ⊢
  have hl : lv_has ls 1 [(0, .ref a)] := hl
  refine lv_aload_n hx hb kd_W_init_0 rfl (lv_at hl 0 rfl) ?_
  refine W.objInit hx hb hown (hts _ kw_55) (hts _ kw_48) (hts _ kw_49) rfl (by rw [hml]; exact hl.1) rfl kd_W_init_1 (Nat.le_of_ble_eq_true rfl) (Nat.le_of_ble_eq_true rfl) ?_
  refine W.eq (g2 := F0 mg 4 ls []) rfl ?_
  refine lv_aload_n hx hb kd_W_init_4 rfl (lv_at hl 0 rfl) ?_
  refine zz_newo (ci := 1) (h := sz) (fs := [.null, .int (zz_I (0))]) (C := kn_R) (T := kf_R) (N := 2) hx hb hts ki_R kt_R kk_R hown (hts _ kw_56) (hts _ kw_57) (hts _ kw_28) hK hP hD hS hZ (Or.inr (by omega)) rfl (fun j hj => by rcases j with _ | _ | j; rfl; rfl; omega) (Nat.le_of_ble_eq_true rfl) (Nat.le_of_ble_eq_true rfl) kd_W_init_5 (fun H hZ hP hD hS => ?_)
  have hP : va_P D kcl [(a, .inr (3, [.null, .null])), (sz, .inr (1, [.null, .int (zz_I (0))]))] H := hP
  have hD : va_D (zz_Fc sz a) [(a, .inr (3, [.null, .null])), (sz, .inr (1, [.null, .int (zz_I (0))]))] := hD
  have hZ : H.size = sz + 1 := hZ
  refine lv_dup hx hb kd_W_init_8 rfl ?_
  refine zz_bipush hx hb kd_W_init_9 (by decide) ?_
  refine zz_ctor (k := 1) ⟨hx, hb, hml, hown, hts⟩ hK hAO (kc_R_init48 l D cI cW sz (sz + 1)) ⟨rfl, rfl⟩ kw_58 kw_59 kw_28 kw_60 rfl kh_R_init ⟨Nat.le_of_ble_eq_true rfl, Nat.le_of_ble_eq_true rfl⟩ hZ (by omega) 1 rfl hP hD hS (fun q hq => Or.inr (by omega)) (zz_Dr (js := [0]) rfl rfl) rfl hl.1 rfl (Nat.le_of_ble_eq_true rfl) kd_W_init_11 ⟨Nat.le_of_ble_eq_true rfl, Nat.le_of_ble_eq_true rfl⟩ (fun H locs hZ hP hD hS => ?_)
  have hP : va_P D kcl [(a, .inr (3, [.null, .null])), (sz, .inr (1, [.ref (sz + 1), .int (zz_I (((0 : Nat) : Int)))])), (sz + 1, .inl (cI, 48, .inl (zz_A (ck_z))))] H := hP
  have hD : va_D (zz_Fc sz a) [(a, .inr (3, [.null, .null])), (sz, .inr (1, [.ref (sz + 1), .int (zz_I (((0 : Nat) : Int)))])), (sz + 1, .inl (cI, 48, .inl (zz_A (ck_z))))] := hD
  have hZ : H.size = sz + 2 := hZ
  refine zz_putFZ (D := D) (ci := 3) (v := .ref sz) (ty := .object "LookalikeDesk$Row") (C := kn_W) (T := kf_W) (N := 2) hx hb hts ki_W kt_W kk_W km_W hown hK hP hD hS 0 rfl rfl 0 (by decide) (hts _ kw_70) (fun _ h9 => h9) rfl hin rfl (by decide +kernel) rfl rfl (Nat.le_of_ble_eq_true rfl) kd_W_init_14 (fun H locs hE hP hD hS => ?_)
  have hZ := hE.trans hZ
  have hP : va_P D kcl [(a, .inr (3, [.ref sz, .null])), (sz, .inr (1, [.ref (sz + 1), .int (zz_I (((0 : Nat) : Int)))])), (sz + 1, .inl (cI, 48, .inl (zz_A (ck_z))))] H := hP
  have hD : va_D (zz_Fc sz a) [(a, .inr (3, [.ref sz, .null])), (sz, .inr (1, [.ref (sz + 1), .int (zz_I (((0 : Nat) : Int)))])), (sz + 1, .inl (cI, 48, .inl (zz_A (ck_z))))] := hD
  have hZ : H.size = sz + 2 := hZ
  refine lv_aload_n hx hb kd_W_init_17 rfl (lv_at hl 0 rfl) ?_
  refine zz_newo (ci := 1) (h := sz + 2) (fs := [.null, .int (zz_I (0))]) (C := kn_R) (T := kf_R) (N := 2) hx hb hts ki_R kt_R kk_R hown (hts _ kw_56) (hts _ kw_57) (hts _ kw_28) hK hP hD hS hZ (Or.inr (by omega)) rfl (fun j hj => by rcases j with _ | _ | j; rfl; rfl; omega) (Nat.le_of_ble_eq_true rfl) (Nat.le_of_ble_eq_true rfl) kd_W_init_18 (fun H hZ hP hD hS => ?_)
  have hP : va_P D kcl [(a, .inr (3, [.ref sz, .null])), (sz, .inr (1, [.ref (sz + 1), .int (zz_I (((0 : Nat) : Int)))])), (sz + 1, .inl (cI, 48, .inl (zz_A (ck_z)))), (sz + 2, .inr (1, [.null, .int (zz_I (0))]))] H := hP
  have hD : va_D (zz_Fc sz a) [(a, .inr (3, [.ref sz, .null])), (sz, .inr (1, [.ref (sz + 1), .int (zz_I (((0 : Nat) : Int)))])), (sz + 1, .inl (cI, 48, .inl (zz_A (ck_z)))), (sz + 2, .inr (1, [.null, .int (zz_I (0))]))] := hD
  have hZ : H.size = sz + 3 := hZ
  refine lv_dup hx hb kd_W_init_21 rfl ?_
  refine zz_sipush hx hb kd_W_init_22 (by decide) ?_
  refine zz_ctor (k := 1) ⟨hx, hb, hml, hown, hts⟩ hK hAO (kc_R_init144 l D cI cW (sz + 2) (sz + 3)) ⟨rfl, rfl⟩ kw_58 kw_59 kw_28 kw_60 rfl kh_R_init ⟨Nat.le_of_ble_eq_true rfl, Nat.le_of_ble_eq_true rfl⟩ hZ (by omega) 3 rfl hP hD hS (fun q hq => Or.inr (by omega)) (zz_Dr (js := [0]) rfl rfl) rfl hl.1 rfl (Nat.le_of_ble_eq_true rfl) kd_W_init_25 ⟨Nat.le_of_ble_eq_true rfl, Nat.le_of_ble_eq_true rfl⟩ (fun H locs hZ hP hD hS => ?_)
  have hP : va_P D kcl [(a, .inr (3, [.ref sz, .null])), (sz, .inr (1, [.ref (sz + 1), .int (zz_I (((0 : Nat) : Int)))])), (sz + 1, .inl (cI, 48, .inl (zz_A (ck_z)))), (sz + 2, .inr (1, [.ref (sz + 3), .int (zz_I (((0 : Nat) : Int)))])), (sz + 3, .inl (cI, 144, .inl (zz_A (ck_z))))] H := hP
  have hD : va_D (zz_Fc sz a) [(a, .inr (3, [.ref sz, .null])), (sz, .inr (1, [.ref (sz + 1), .int (zz_I (((0 : Nat) : Int)))])), (sz + 1, .inl (cI, 48, .inl (zz_A (ck_z)))), (sz + 2, .inr (1, [.ref (sz + 3), .int (zz_I (((0 : Nat) : Int)))])), (sz + 3, .inl (cI, 144, .inl (zz_A (ck_z))))] := hD
  have hZ : H.size = sz + 4 := hZ
  refine zz_putFZ (D := D) (ci := 3) (v := .ref (sz + 2)) (ty := .object "LookalikeDesk$Row") (C := kn_W) (T := kf_W) (N := 2) hx hb hts ki_W kt_W kk_W km_W hown hK hP hD hS 0 rfl rfl 1 (by decide) (hts _ kw_71) (fun _ h9 => h9) rfl hin rfl (by decide +kernel) rfl rfl (Nat.le_of_ble_eq_true rfl) kd_W_init_28 (fun H locs hE hP hD hS => ?_)
  have hZ := hE.trans hZ
  have hP : va_P D kcl [(a, .inr (3, [.ref sz, .ref (sz + 2)])), (sz, .inr (1, [.ref (sz + 1), .int (zz_I (((0 : Nat) : Int)))])), (sz + 1, .inl (cI, 48, .inl (zz_A (ck_z)))), (sz + 2, .inr (1, [.ref (sz + 3), .int (zz_I (((0 : Nat) : Int)))])), (sz + 3, .inl (cI, 144, .inl (zz_A (ck_z))))] H := hP
  have hD : va_D (zz_Fc sz a) [(a, .inr (3, [.ref sz, .ref (sz + 2)])), (sz, .inr (1, [.ref (sz + 1), .int (zz_I (((0 : Nat) : Int)))])), (sz + 1, .inl (cI, 48, .inl (zz_A (ck_z)))), (sz + 2, .inr (1, [.ref (sz + 3), .int (zz_I (((0 : Nat) : Int)))])), (sz + 3, .inl (cI, 144, .inl (zz_A (ck_z))))] := hD
  have hZ : H.size = sz + 4 := hZ
  exact W.vret hx hb hr (zz_endc hsz hZ hP hS) hS.2.2 kd_W_init_31
set_option maxHeartbeats 4000000 in
set_option maxRecDepth 100000 in
theorem kc_L_init (l : Launch) (D : va_G) (cI cW : ClassId) (a : Nat) (sz : Nat) : Met l ky_L_init kv_L_init ({ frames := 1, cells := 2, slots := 96, locals := 20 }) (va_Pc [.ref a] (zz_C D cI cW sz a (va_P D kcl [(a, .inr (2, [.null, .null, .int (zz_I (0))]))]))) (zz_Qc sz 2 a (va_P D kcl [(a, .inr (2, [.ref sz, .ref (sz + 1), .int (zz_I (((0 : Nat) : Int)))])), (sz, .inl (cI, 48, .inl (zz_A (ck_z)))), (sz + 1, .inl (cI, 48, .inl (zz_A (ck_z))))])) 2 96 (zz_Fc sz a) := by
  refine Met.ofW (cc := kb_L_init) (maxL := 1) (ret := none) (by decide) rfl ?_
  intro pg ev sg mg ag bl mt cd s1 Bd hml hv
  obtain ⟨rfl, hsz, hal, hP, hK, hAO⟩ := hv
  have hZ := hsz
  have hin : mt.name = "<init>" := (name_of_methodNamed Bd.named Bd.method).1
  have hP : va_P D kcl [(a, .inr (2, [.null, .null, .int (zz_I (0))]))] sg.heap := hP
  have hx := Bd.exec
  have hb := Bd.bytes
  have hr := Bd.returns
  have hlocks := Bd.notSynchronized
  have hts : ∀ w ∈ zz_tbl, w.before _ sg = true := fun w h => atoms_spec (ws := kv_L_init) Bd.pre w (List.mem_cons_of_mem _ h)
  have hown : sg.vm.findClass kn_L = some mg.cls := findClass_of_methodNamed Bd.named
  have hD : va_D (zz_Fc sz a) [(a, .inr (2, [.null, .null, .int (zz_I (0))]))] := zz_D1
  have hS : va_S (zz_Fc sz a) sg.heap sg.heap [] := va_S.rf
  have hl := lv_entry ([.ref a]) (n := 1) (Nat.le_of_ble_eq_true rfl)
  rw [lg_entry_eq]
  generalize (lg_sl ([.ref a]) ++ List.replicate (1 - (lg_sl ([.ref a])).length) Slot.unset).toArray = ls at hl ⊢
  have hl : lv_has ls 1 [(0, .ref a)] := hl
  refine lv_aload_n hx hb kd_L_init_0 rfl (lv_at hl 0 rfl) ?_
  refine W.objInit hx hb hown (hts _ kw_98) (hts _ kw_48) (hts _ kw_49) rfl (by rw [hml]; exact hl.1) rfl kd_L_init_1 (Nat.le_of_ble_eq_true rfl) (Nat.le_of_ble_eq_true rfl) ?_
  refine W.eq (g2 := F0 mg 4 ls []) rfl ?_
  refine lv_aload_n hx hb kd_L_init_4 rfl (lv_at hl 0 rfl) ?_
  refine zz_bipush hx hb kd_L_init_5 (by decide) ?_
  refine zz_newi (h := sz) (N := 48) hx hb (hts _ kw_69) hK 0 rfl hP hD hS hZ (Or.inr (by omega)) (by omega) (Nat.le_of_ble_eq_true rfl) (Nat.le_of_ble_eq_true rfl) kd_L_init_7 (fun H hZ hP hD hS => ?_)
  have hP : va_P D kcl [(a, .inr (2, [.null, .null, .int (zz_I (0))])), (sz, .inl (cI, 48, .inl (zz_A (ck_z))))] H := hP
  have hD : va_D (zz_Fc sz a) [(a, .inr (2, [.null, .null, .int (zz_I (0))])), (sz, .inl (cI, 48, .inl (zz_A (ck_z))))] := hD
  have hZ : H.size = sz + 1 := hZ
  refine zz_putFZ (D := D) (ci := 2) (v := .ref sz) (ty := .array .int) (C := kn_L) (T := kf_L) (N := 3) hx hb hts ki_L kt_L kk_L km_L hown hK hP hD hS 0 rfl rfl 0 (by decide) (hts _ kw_99) (fun _ h9 => h9) rfl hin rfl (by decide +kernel) rfl rfl (Nat.le_of_ble_eq_true rfl) kd_L_init_9 (fun H locs hE hP hD hS => ?_)
  have hZ := hE.trans hZ
  have hP : va_P D kcl [(a, .inr (2, [.ref sz, .null, .int (zz_I (0))])), (sz, .inl (cI, 48, .inl (zz_A (ck_z))))] H := hP
  have hD : va_D (zz_Fc sz a) [(a, .inr (2, [.ref sz, .null, .int (zz_I (0))])), (sz, .inl (cI, 48, .inl (zz_A (ck_z))))] := hD
  have hZ : H.size = sz + 1 := hZ
  refine lv_aload_n hx hb kd_L_init_12 rfl (lv_at hl 0 rfl) ?_
  refine zz_bipush hx hb kd_L_init_13 (by decide) ?_
  refine zz_newi (h := sz + 1) (N := 48) hx hb (hts _ kw_69) hK 0 rfl hP hD hS hZ (Or.inr (by omega)) (by omega) (Nat.le_of_ble_eq_true rfl) (Nat.le_of_ble_eq_true rfl) kd_L_init_15 (fun H hZ hP hD hS => ?_)
  have hP : va_P D kcl [(a, .inr (2, [.ref sz, .null, .int (zz_I (0))])), (sz, .inl (cI, 48, .inl (zz_A (ck_z)))), (sz + 1, .inl (cI, 48, .inl (zz_A (ck_z))))] H := hP
  have hD : va_D (zz_Fc sz a) [(a, .inr (2, [.ref sz, .null, .int (zz_I (0))])), (sz, .inl (cI, 48, .inl (zz_A (ck_z)))), (sz + 1, .inl (cI, 48, .inl (zz_A (ck_z))))] := hD
  have hZ : H.size = sz + 2 := hZ
  refine zz_putFZ (D := D) (ci := 2) (v := .ref (sz + 1)) (ty := .array .int) (C := kn_L) (T := kf_L) (N := 3) hx hb hts ki_L kt_L kk_L km_L hown hK hP hD hS 0 rfl rfl 1 (by decide) (hts _ kw_100) (fun _ h9 => h9) rfl hin rfl (by decide +kernel) rfl rfl (Nat.le_of_ble_eq_true rfl) kd_L_init_17 (fun H locs hE hP hD hS => ?_)
  have hZ := hE.trans hZ
  have hP : va_P D kcl [(a, .inr (2, [.ref sz, .ref (sz + 1), .int (zz_I (0))])), (sz, .inl (cI, 48, .inl (zz_A (ck_z)))), (sz + 1, .inl (cI, 48, .inl (zz_A (ck_z))))] H := hP
  have hD : va_D (zz_Fc sz a) [(a, .inr (2, [.ref sz, .ref (sz + 1), .int (zz_I (0))])), (sz, .inl (cI, 48, .inl (zz_A (ck_z)))), (sz + 1, .inl (cI, 48, .inl (zz_A (ck_z))))] := hD
  have hZ : H.size = sz + 2 := hZ
  refine lv_aload_n hx hb kd_L_init_20 rfl (lv_at hl 0 rfl) ?_
  refine zz_iconst hx hb (v := 0) (rfl) kd_L_init_21 ?_
  refine zz_putZ (D := D) (ci := 2) (v := .int (zz_I (0))) (ty := .int) (C := kn_L) (T := kf_L) (N := 3) hx hb hts ki_L kt_L kk_L km_L hown hK hP hD hS 0 rfl rfl 2 (by decide) (hts _ kw_101) (fun _ h9 => h9) rfl (by decide +kernel) rfl rfl (Nat.le_of_ble_eq_true rfl) kd_L_init_22 (fun H locs hE hP hD hS => ?_)
  have hZ := hE.trans hZ
  have hP : va_P D kcl [(a, .inr (2, [.ref sz, .ref (sz + 1), .int (zz_I (0))])), (sz, .inl (cI, 48, .inl (zz_A (ck_z)))), (sz + 1, .inl (cI, 48, .inl (zz_A (ck_z))))] H := hP
  have hD : va_D (zz_Fc sz a) [(a, .inr (2, [.ref sz, .ref (sz + 1), .int (zz_I (0))])), (sz, .inl (cI, 48, .inl (zz_A (ck_z)))), (sz + 1, .inl (cI, 48, .inl (zz_A (ck_z))))] := hD
  have hZ : H.size = sz + 2 := hZ
  exact W.vret hx hb hr (zz_endc hsz hZ hP hS) hS.2.2 kd_L_init_25
set_option maxHeartbeats 4000000 in
set_option maxRecDepth 100000 in
theorem kc_M_init (l : Launch) (D : va_G) (cI cW : ClassId) (a : Nat) (sz : Nat) : Met l ky_M_init kv_M_init ({ frames := 1, cells := 5, slots := 1168, locals := 20 }) (va_Pc [.ref a] (zz_C D cI cW sz a (va_P D kcl [(a, .inr (5, [.int (zz_I (0)), .null, .null, .int (zz_I (0)), .null, .null, .null, .int (zz_I (0))]))]))) (zz_Qc sz 5 a (va_P D kcl [(a, .inr (5, [.int (zz_I (0)), .ref sz, .ref (sz + 1), .int (zz_I (((0 : Nat) : Int))), .ref (sz + 2), .ref (sz + 3), .ref (sz + 4), .int (zz_I (((0 : Nat) : Int)))])), (sz, .inl (cI, 672, .inl (zz_A (ck_z)))), (sz + 1, .inl (cI, 14, .inl (zz_A (ck_z)))), (sz + 2, .inl (cI, 320, .inl (zz_A (ck_z)))), (sz + 3, .inl (cI, 2, .inl (zz_A (ck_z)))), (sz + 4, .inl (cI, 160, .inl (zz_A (ck_z))))])) 5 1168 (zz_Fc sz a) := by
  refine Met.ofW (cc := kb_M_init) (maxL := 1) (ret := none) (by decide) rfl ?_
  intro pg ev sg mg ag bl mt cd s1 Bd hml hv
  obtain ⟨rfl, hsz, hal, hP, hK, hAO⟩ := hv
  have hZ := hsz
  have hin : mt.name = "<init>" := (name_of_methodNamed Bd.named Bd.method).1
  have hP : va_P D kcl [(a, .inr (5, [.int (zz_I (0)), .null, .null, .int (zz_I (0)), .null, .null, .null, .int (zz_I (0))]))] sg.heap := hP
  have hx := Bd.exec
  have hb := Bd.bytes
  have hr := Bd.returns
  have hlocks := Bd.notSynchronized
  have hts : ∀ w ∈ zz_tbl, w.before _ sg = true := fun w h => atoms_spec (ws := kv_M_init) Bd.pre w (List.mem_cons_of_mem _ h)
  have hown : sg.vm.findClass kn_M = some mg.cls := findClass_of_methodNamed Bd.named
  have hD : va_D (zz_Fc sz a) [(a, .inr (5, [.int (zz_I (0)), .null, .null, .int (zz_I (0)), .null, .null, .null, .int (zz_I (0))]))] := zz_D1
  have hS : va_S (zz_Fc sz a) sg.heap sg.heap [] := va_S.rf
  have hl := lv_entry ([.ref a]) (n := 1) (Nat.le_of_ble_eq_true rfl)
  rw [lg_entry_eq]
  generalize (lg_sl ([.ref a]) ++ List.replicate (1 - (lg_sl ([.ref a])).length) Slot.unset).toArray = ls at hl ⊢
  have hl : lv_has ls 1 [(0, .ref a)] := hl
  refine lv_aload_n hx hb kd_M_init_0 rfl (lv_at hl 0 rfl) ?_
  refine W.objInit hx hb hown (hts _ kw_600) (hts _ kw_48) (hts _ kw_49) rfl (by rw [hml]; exact hl.1) rfl kd_M_init_1 (Nat.le_of_ble_eq_true rfl) (Nat.le_of_ble_eq_true rfl) ?_
  refine W.eq (g2 := F0 mg 4 ls []) rfl ?_
  refine lv_aload_n hx hb kd_M_init_4 rfl (lv_at hl 0 rfl) ?_
  refine zz_sipush hx hb kd_M_init_5 (by decide) ?_
  refine zz_newi (h := sz) (N := 672) hx hb (hts _ kw_69) hK 0 rfl hP hD hS hZ (Or.inr (by omega)) (by omega) (Nat.le_of_ble_eq_true rfl) (Nat.le_of_ble_eq_true rfl) kd_M_init_8 (fun H hZ hP hD hS => ?_)
  have hP : va_P D kcl [(a, .inr (5, [.int (zz_I (0)), .null, .null, .int (zz_I (0)), .null, .null, .null, .int (zz_I (0))])), (sz, .inl (cI, 672, .inl (zz_A (ck_z))))] H := hP
  have hD : va_D (zz_Fc sz a) [(a, .inr (5, [.int (zz_I (0)), .null, .null, .int (zz_I (0)), .null, .null, .null, .int (zz_I (0))])), (sz, .inl (cI, 672, .inl (zz_A (ck_z))))] := hD
  have hZ : H.size = sz + 1 := hZ
  refine zz_putFZ (D := D) (ci := 5) (v := .ref sz) (ty := .array .int) (C := kn_M) (T := kf_M) (N := 8) hx hb hts ki_M kt_M kk_M km_M hown hK hP hD hS 0 rfl rfl 1 (by decide) (hts _ kw_602) (fun _ h9 => h9) rfl hin rfl (by decide +kernel) rfl rfl (Nat.le_of_ble_eq_true rfl) kd_M_init_10 (fun H locs hE hP hD hS => ?_)
  have hZ := hE.trans hZ
  have hP : va_P D kcl [(a, .inr (5, [.int (zz_I (0)), .ref sz, .null, .int (zz_I (0)), .null, .null, .null, .int (zz_I (0))])), (sz, .inl (cI, 672, .inl (zz_A (ck_z))))] H := hP
  have hD : va_D (zz_Fc sz a) [(a, .inr (5, [.int (zz_I (0)), .ref sz, .null, .int (zz_I (0)), .null, .null, .null, .int (zz_I (0))])), (sz, .inl (cI, 672, .inl (zz_A (ck_z))))] := hD
  have hZ : H.size = sz + 1 := hZ
  refine lv_aload_n hx hb kd_M_init_13 rfl (lv_at hl 0 rfl) ?_
  refine zz_bipush hx hb kd_M_init_14 (by decide) ?_
  refine zz_newi (h := sz + 1) (N := 14) hx hb (hts _ kw_69) hK 0 rfl hP hD hS hZ (Or.inr (by omega)) (by omega) (Nat.le_of_ble_eq_true rfl) (Nat.le_of_ble_eq_true rfl) kd_M_init_16 (fun H hZ hP hD hS => ?_)
  have hP : va_P D kcl [(a, .inr (5, [.int (zz_I (0)), .ref sz, .null, .int (zz_I (0)), .null, .null, .null, .int (zz_I (0))])), (sz, .inl (cI, 672, .inl (zz_A (ck_z)))), (sz + 1, .inl (cI, 14, .inl (zz_A (ck_z))))] H := hP
  have hD : va_D (zz_Fc sz a) [(a, .inr (5, [.int (zz_I (0)), .ref sz, .null, .int (zz_I (0)), .null, .null, .null, .int (zz_I (0))])), (sz, .inl (cI, 672, .inl (zz_A (ck_z)))), (sz + 1, .inl (cI, 14, .inl (zz_A (ck_z))))] := hD
  have hZ : H.size = sz + 2 := hZ
  refine zz_putFZ (D := D) (ci := 5) (v := .ref (sz + 1)) (ty := .array .int) (C := kn_M) (T := kf_M) (N := 8) hx hb hts ki_M kt_M kk_M km_M hown hK hP hD hS 0 rfl rfl 2 (by decide) (hts _ kw_603) (fun _ h9 => h9) rfl hin rfl (by decide +kernel) rfl rfl (Nat.le_of_ble_eq_true rfl) kd_M_init_18 (fun H locs hE hP hD hS => ?_)
  have hZ := hE.trans hZ
  have hP : va_P D kcl [(a, .inr (5, [.int (zz_I (0)), .ref sz, .ref (sz + 1), .int (zz_I (0)), .null, .null, .null, .int (zz_I (0))])), (sz, .inl (cI, 672, .inl (zz_A (ck_z)))), (sz + 1, .inl (cI, 14, .inl (zz_A (ck_z))))] H := hP
  have hD : va_D (zz_Fc sz a) [(a, .inr (5, [.int (zz_I (0)), .ref sz, .ref (sz + 1), .int (zz_I (0)), .null, .null, .null, .int (zz_I (0))])), (sz, .inl (cI, 672, .inl (zz_A (ck_z)))), (sz + 1, .inl (cI, 14, .inl (zz_A (ck_z))))] := hD
  have hZ : H.size = sz + 2 := hZ
  refine lv_aload_n hx hb kd_M_init_21 rfl (lv_at hl 0 rfl) ?_
  refine zz_sipush hx hb kd_M_init_22 (by decide) ?_
  refine zz_newi (h := sz + 2) (N := 320) hx hb (hts _ kw_69) hK 0 rfl hP hD hS hZ (Or.inr (by omega)) (by omega) (Nat.le_of_ble_eq_true rfl) (Nat.le_of_ble_eq_true rfl) kd_M_init_25 (fun H hZ hP hD hS => ?_)
  have hP : va_P D kcl [(a, .inr (5, [.int (zz_I (0)), .ref sz, .ref (sz + 1), .int (zz_I (0)), .null, .null, .null, .int (zz_I (0))])), (sz, .inl (cI, 672, .inl (zz_A (ck_z)))), (sz + 1, .inl (cI, 14, .inl (zz_A (ck_z)))), (sz + 2, .inl (cI, 320, .inl (zz_A (ck_z))))] H := hP
  have hD : va_D (zz_Fc sz a) [(a, .inr (5, [.int (zz_I (0)), .ref sz, .ref (sz + 1), .int (zz_I (0)), .null, .null, .null, .int (zz_I (0))])), (sz, .inl (cI, 672, .inl (zz_A (ck_z)))), (sz + 1, .inl (cI, 14, .inl (zz_A (ck_z)))), (sz + 2, .inl (cI, 320, .inl (zz_A (ck_z))))] := hD
  have hZ : H.size = sz + 3 := hZ
  refine zz_putFZ (D := D) (ci := 5) (v := .ref (sz + 2)) (ty := .array .int) (C := kn_M) (T := kf_M) (N := 8) hx hb hts ki_M kt_M kk_M km_M hown hK hP hD hS 0 rfl rfl 4 (by decide) (hts _ kw_605) (fun _ h9 => h9) rfl hin rfl (by decide +kernel) rfl rfl (Nat.le_of_ble_eq_true rfl) kd_M_init_27 (fun H locs hE hP hD hS => ?_)
  have hZ := hE.trans hZ
  have hP : va_P D kcl [(a, .inr (5, [.int (zz_I (0)), .ref sz, .ref (sz + 1), .int (zz_I (0)), .ref (sz + 2), .null, .null, .int (zz_I (0))])), (sz, .inl (cI, 672, .inl (zz_A (ck_z)))), (sz + 1, .inl (cI, 14, .inl (zz_A (ck_z)))), (sz + 2, .inl (cI, 320, .inl (zz_A (ck_z))))] H := hP
  have hD : va_D (zz_Fc sz a) [(a, .inr (5, [.int (zz_I (0)), .ref sz, .ref (sz + 1), .int (zz_I (0)), .ref (sz + 2), .null, .null, .int (zz_I (0))])), (sz, .inl (cI, 672, .inl (zz_A (ck_z)))), (sz + 1, .inl (cI, 14, .inl (zz_A (ck_z)))), (sz + 2, .inl (cI, 320, .inl (zz_A (ck_z))))] := hD
  have hZ : H.size = sz + 3 := hZ
  refine lv_aload_n hx hb kd_M_init_30 rfl (lv_at hl 0 rfl) ?_
  refine zz_iconst hx hb (v := 2) (rfl) kd_M_init_31 ?_
  refine zz_newi (h := sz + 3) (N := 2) hx hb (hts _ kw_69) hK 0 rfl hP hD hS hZ (Or.inr (by omega)) (by omega) (Nat.le_of_ble_eq_true rfl) (Nat.le_of_ble_eq_true rfl) kd_M_init_32 (fun H hZ hP hD hS => ?_)
  have hP : va_P D kcl [(a, .inr (5, [.int (zz_I (0)), .ref sz, .ref (sz + 1), .int (zz_I (0)), .ref (sz + 2), .null, .null, .int (zz_I (0))])), (sz, .inl (cI, 672, .inl (zz_A (ck_z)))), (sz + 1, .inl (cI, 14, .inl (zz_A (ck_z)))), (sz + 2, .inl (cI, 320, .inl (zz_A (ck_z)))), (sz + 3, .inl (cI, 2, .inl (zz_A (ck_z))))] H := hP
  have hD : va_D (zz_Fc sz a) [(a, .inr (5, [.int (zz_I (0)), .ref sz, .ref (sz + 1), .int (zz_I (0)), .ref (sz + 2), .null, .null, .int (zz_I (0))])), (sz, .inl (cI, 672, .inl (zz_A (ck_z)))), (sz + 1, .inl (cI, 14, .inl (zz_A (ck_z)))), (sz + 2, .inl (cI, 320, .inl (zz_A (ck_z)))), (sz + 3, .inl (cI, 2, .inl (zz_A (ck_z))))] := hD
  have hZ : H.size = sz + 4 := hZ
  refine zz_putFZ (D := D) (ci := 5) (v := .ref (sz + 3)) (ty := .array .int) (C := kn_M) (T := kf_M) (N := 8) hx hb hts ki_M kt_M kk_M km_M hown hK hP hD hS 0 rfl rfl 5 (by decide) (hts _ kw_606) (fun _ h9 => h9) rfl hin rfl (by decide +kernel) rfl rfl (Nat.le_of_ble_eq_true rfl) kd_M_init_34 (fun H locs hE hP hD hS => ?_)
  have hZ := hE.trans hZ
  have hP : va_P D kcl [(a, .inr (5, [.int (zz_I (0)), .ref sz, .ref (sz + 1), .int (zz_I (0)), .ref (sz + 2), .ref (sz + 3), .null, .int (zz_I (0))])), (sz, .inl (cI, 672, .inl (zz_A (ck_z)))), (sz + 1, .inl (cI, 14, .inl (zz_A (ck_z)))), (sz + 2, .inl (cI, 320, .inl (zz_A (ck_z)))), (sz + 3, .inl (cI, 2, .inl (zz_A (ck_z))))] H := hP
  have hD : va_D (zz_Fc sz a) [(a, .inr (5, [.int (zz_I (0)), .ref sz, .ref (sz + 1), .int (zz_I (0)), .ref (sz + 2), .ref (sz + 3), .null, .int (zz_I (0))])), (sz, .inl (cI, 672, .inl (zz_A (ck_z)))), (sz + 1, .inl (cI, 14, .inl (zz_A (ck_z)))), (sz + 2, .inl (cI, 320, .inl (zz_A (ck_z)))), (sz + 3, .inl (cI, 2, .inl (zz_A (ck_z))))] := hD
  have hZ : H.size = sz + 4 := hZ
  refine lv_aload_n hx hb kd_M_init_37 rfl (lv_at hl 0 rfl) ?_
  refine zz_sipush hx hb kd_M_init_38 (by decide) ?_
  refine zz_newi (h := sz + 4) (N := 160) hx hb (hts _ kw_69) hK 0 rfl hP hD hS hZ (Or.inr (by omega)) (by omega) (Nat.le_of_ble_eq_true rfl) (Nat.le_of_ble_eq_true rfl) kd_M_init_41 (fun H hZ hP hD hS => ?_)
  have hP : va_P D kcl [(a, .inr (5, [.int (zz_I (0)), .ref sz, .ref (sz + 1), .int (zz_I (0)), .ref (sz + 2), .ref (sz + 3), .null, .int (zz_I (0))])), (sz, .inl (cI, 672, .inl (zz_A (ck_z)))), (sz + 1, .inl (cI, 14, .inl (zz_A (ck_z)))), (sz + 2, .inl (cI, 320, .inl (zz_A (ck_z)))), (sz + 3, .inl (cI, 2, .inl (zz_A (ck_z)))), (sz + 4, .inl (cI, 160, .inl (zz_A (ck_z))))] H := hP
  have hD : va_D (zz_Fc sz a) [(a, .inr (5, [.int (zz_I (0)), .ref sz, .ref (sz + 1), .int (zz_I (0)), .ref (sz + 2), .ref (sz + 3), .null, .int (zz_I (0))])), (sz, .inl (cI, 672, .inl (zz_A (ck_z)))), (sz + 1, .inl (cI, 14, .inl (zz_A (ck_z)))), (sz + 2, .inl (cI, 320, .inl (zz_A (ck_z)))), (sz + 3, .inl (cI, 2, .inl (zz_A (ck_z)))), (sz + 4, .inl (cI, 160, .inl (zz_A (ck_z))))] := hD
  have hZ : H.size = sz + 5 := hZ
  refine zz_putFZ (D := D) (ci := 5) (v := .ref (sz + 4)) (ty := .array .int) (C := kn_M) (T := kf_M) (N := 8) hx hb hts ki_M kt_M kk_M km_M hown hK hP hD hS 0 rfl rfl 6 (by decide) (hts _ kw_607) (fun _ h9 => h9) rfl hin rfl (by decide +kernel) rfl rfl (Nat.le_of_ble_eq_true rfl) kd_M_init_43 (fun H locs hE hP hD hS => ?_)
  have hZ := hE.trans hZ
  have hP : va_P D kcl [(a, .inr (5, [.int (zz_I (0)), .ref sz, .ref (sz + 1), .int (zz_I (0)), .ref (sz + 2), .ref (sz + 3), .ref (sz + 4), .int (zz_I (0))])), (sz, .inl (cI, 672, .inl (zz_A (ck_z)))), (sz + 1, .inl (cI, 14, .inl (zz_A (ck_z)))), (sz + 2, .inl (cI, 320, .inl (zz_A (ck_z)))), (sz + 3, .inl (cI, 2, .inl (zz_A (ck_z)))), (sz + 4, .inl (cI, 160, .inl (zz_A (ck_z))))] H := hP
  have hD : va_D (zz_Fc sz a) [(a, .inr (5, [.int (zz_I (0)), .ref sz, .ref (sz + 1), .int (zz_I (0)), .ref (sz + 2), .ref (sz + 3), .ref (sz + 4), .int (zz_I (0))])), (sz, .inl (cI, 672, .inl (zz_A (ck_z)))), (sz + 1, .inl (cI, 14, .inl (zz_A (ck_z)))), (sz + 2, .inl (cI, 320, .inl (zz_A (ck_z)))), (sz + 3, .inl (cI, 2, .inl (zz_A (ck_z)))), (sz + 4, .inl (cI, 160, .inl (zz_A (ck_z))))] := hD
  have hZ : H.size = sz + 5 := hZ
  exact W.vret hx hb hr (zz_endc hsz hZ hP hS) hS.2.2 kd_M_init_46
