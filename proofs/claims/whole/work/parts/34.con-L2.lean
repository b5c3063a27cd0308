set_option maxHeartbeats 4000000 in
set_option maxRecDepth 100000 in
theorem kc_L_note (l : Launch) (D : va_G) (cI cW : ClassId) (o : Nat) (p : Nat) (q : Nat) (k : Nat) (B : Nat → Int) (E : Nat → Int) (x1 : Int) (x2 : Int) (hk : k < 48) (hN : zz_N [o, p, q]) : Met l ky_L_note kv_L_note ({ frames := 0, cells := 0, slots := 0, locals := 0 }) (va_Pc [.ref o, .int (zz_I (x1)), .int (zz_I (x2))] (zz_P D cI cW (va_P D kcl [(o, .inr (2, [.ref p, .ref q, .int (zz_I (((k : Nat) : Int)))])), (p, .inl (cI, 48, .inl (zz_A (B)))), (q, .inl (cI, 48, .inl (zz_A (E))))]))) (zz_Qw (fun (u : Unit) => none) (fun (u : Unit) H => (True) ∧ va_P D kcl [(o, .inr (2, [.ref p, .ref q, .int (zz_I (((k + 1 : Nat) : Int)))])), (p, .inl (cI, 48, .inl (zz_A (zz_u B k x1)))), (q, .inl (cI, 48, .inl (zz_A (zz_u E k x2))))] H) (zz_F [(o, .inr (2, [.ref p, .ref q, .int (zz_I (((k : Nat) : Int)))])), (p, .inl (cI, 48, .inl (zz_A (B)))), (q, .inl (cI, 48, .inl (zz_A (E))))])) 0 0 (zz_F [(o, .inr (2, [.ref p, .ref q, .int (zz_I (((k : Nat) : Int)))])), (p, .inl (cI, 48, .inl (zz_A (B)))), (q, .inl (cI, 48, .inl (zz_A (E))))]) := by
  refine Met.ofW (cc := kb_L_note) (maxL := 3) (ret := none) (by decide) rfl ?_
  intro pg ev sg mg ag bl mt cd s1 Bd hml hv
  obtain ⟨rfl, hP, hK⟩ := hv
  have hP : va_P D kcl [(o, .inr (2, [.ref p, .ref q, .int (zz_I (((k : Nat) : Int)))])), (p, .inl (cI, 48, .inl (zz_A (B)))), (q, .inl (cI, 48, .inl (zz_A (E))))] sg.heap := hP
  have hx := Bd.exec
  have hb := Bd.bytes
  have hr := Bd.returns
  have hlocks := Bd.notSynchronized
  have hts : ∀ w ∈ zz_tbl, w.before _ sg = true := fun w h => atoms_spec (ws := kv_L_note) Bd.pre w (List.mem_cons_of_mem _ h)
  have hown : sg.vm.findClass kn_L = some mg.cls := findClass_of_methodNamed Bd.named
  have hD : va_D (zz_F [(o, .inr (2, [.ref p, .ref q, .int (zz_I (((k : Nat) : Int)))])), (p, .inl (cI, 48, .inl (zz_A (B)))), (q, .inl (cI, 48, .inl (zz_A (E))))]) [(o, .inr (2, [.ref p, .ref q, .int (zz_I (((k : Nat) : Int)))])), (p, .inl (cI, 48, .inl (zz_A (B)))), (q, .inl (cI, 48, .inl (zz_A (E))))] := zz_Dof hN rfl
  have hS : va_S (zz_F [(o, .inr (2, [.ref p, .ref q, .int (zz_I (((k : Nat) : Int)))])), (p, .inl (cI, 48, .inl (zz_A (B)))), (q, .inl (cI, 48, .inl (zz_A (E))))]) sg.heap sg.heap [] := va_S.rf
  have hl := lv_entry ([.ref o, .int (zz_I (x1)), .int (zz_I (x2))]) (n := 3) (Nat.le_of_ble_eq_true rfl)
  rw [lg_entry_eq]
  generalize (lg_sl ([.ref o, .int (zz_I (x1)), .int (zz_I (x2))]) ++ List.replicate (3 - (lg_sl ([.ref o, .int (zz_I (x1)), .int (zz_I (x2))])).length) Slot.unset).toArray = ls at hl ⊢
  have hl : lv_has ls 3 [(0, .ref o), (1, .int (zz_I (x1))), (2, .int (zz_I (x2)))] := hl
  refine lv_aload_n hx hb kd_L_note_0 rfl (lv_at hl 0 rfl) ?_
  refine va_get (D := D) (ci := 2) (v := .int (zz_I (((k : Nat) : Int)))) (C := kn_L) (T := kf_L) (N := 3) hx hb hts ki_L hown hK hP 0 rfl rfl 2 (by decide) (hts _ kw_101) (fun _ h9 => h9) rfl kd_L_note_1 ?_
  refine lv_aload_n hx hb kd_L_note_4 rfl (lv_at hl 0 rfl) ?_
  refine va_get (D := D) (ci := 2) (v := .ref p) (C := kn_L) (T := kf_L) (N := 3) hx hb hts ki_L hown hK hP 0 rfl rfl 0 (by decide) (hts _ kw_99) (fun _ h9 => h9) rfl kd_L_note_5 ?_
  refine zz_alen hx hb hK hP 1 0 rfl rfl kd_L_note_8 ?_
  refine zz_icmp_ge (tgt := 42) hx hb kd_L_note_9 (by decide) (by omega) (fun hbr9 => absurd hbr9 (by omega)) (fun hbr9 => ?_)
  refine lv_aload_n hx hb kd_L_note_12 rfl (lv_at hl 0 rfl) ?_
  refine va_get (D := D) (ci := 2) (v := .ref p) (C := kn_L) (T := kf_L) (N := 3) hx hb hts ki_L hown hK hP 0 rfl rfl 0 (by decide) (hts _ kw_99) (fun _ h9 => h9) rfl kd_L_note_13 ?_
  refine lv_aload_n hx hb kd_L_note_16 rfl (lv_at hl 0 rfl) ?_
  refine va_get (D := D) (ci := 2) (v := .int (zz_I (((k : Nat) : Int)))) (C := kn_L) (T := kf_L) (N := 3) hx hb hts ki_L hown hK hP 0 rfl rfl 2 (by decide) (hts _ kw_101) (fun _ h9 => h9) rfl kd_L_note_17 ?_
  refine lv_iload_n hx hb kd_L_note_20 rfl (lv_at hl 1 rfl) ?_
  refine zz_iast (k := k) hx hb hK hP hD hS 1 0 rfl rfl (by omega) (rfl) kd_L_note_21 (fun H locs hP hD hS => ?_)
  have hP : va_P D kcl [(o, .inr (2, [.ref p, .ref q, .int (zz_I (((k : Nat) : Int)))])), (p, .inl (cI, 48, .inl (zz_A (zz_u B k (x1))))), (q, .inl (cI, 48, .inl (zz_A (E))))] H := hP
  have hD : va_D (zz_F [(o, .inr (2, [.ref p, .ref q, .int (zz_I (((k : Nat) : Int)))])), (p, .inl (cI, 48, .inl (zz_A (B)))), (q, .inl (cI, 48, .inl (zz_A (E))))]) [(o, .inr (2, [.ref p, .ref q, .int (zz_I (((k : Nat) : Int)))])), (p, .inl (cI, 48, .inl (zz_A (zz_u B k (x1))))), (q, .inl (cI, 48, .inl (zz_A (E))))] := hD
  refine lv_aload_n hx hb kd_L_note_22 rfl (lv_at hl 0 rfl) ?_
  refine va_get (D := D) (ci := 2) (v := .ref q) (C := kn_L) (T := kf_L) (N := 3) hx hb hts ki_L hown hK hP 0 rfl rfl 1 (by decide) (hts _ kw_100) (fun _ h9 => h9) rfl kd_L_note_23 ?_
  refine lv_aload_n hx hb kd_L_note_26 rfl (lv_at hl 0 rfl) ?_
  refine va_get (D := D) (ci := 2) (v := .int (zz_I (((k : Nat) : Int)))) (C := kn_L) (T := kf_L) (N := 3) hx hb hts ki_L hown hK hP 0 rfl rfl 2 (by decide) (hts _ kw_101) (fun _ h9 => h9) rfl kd_L_note_27 ?_
  refine lv_iload_n hx hb kd_L_note_30 rfl (lv_at hl 2 rfl) ?_
  refine zz_iast (k := k) hx hb hK hP hD hS 2 0 rfl rfl (by omega) (rfl) kd_L_note_31 (fun H locs hP hD hS => ?_)
  have hP : va_P D kcl [(o, .inr (2, [.ref p, .ref q, .int (zz_I (((k : Nat) : Int)))])), (p, .inl (cI, 48, .inl (zz_A (zz_u B k (x1))))), (q, .inl (cI, 48, .inl (zz_A (zz_u E k (x2)))))] H := hP
  have hD : va_D (zz_F [(o, .inr (2, [.ref p, .ref q, .int (zz_I (((k : Nat) : Int)))])), (p, .inl (cI, 48, .inl (zz_A (B)))), (q, .inl (cI, 48, .inl (zz_A (E))))]) [(o, .inr (2, [.ref p, .ref q, .int (zz_I (((k : Nat) : Int)))])), (p, .inl (cI, 48, .inl (zz_A (zz_u B k (x1))))), (q, .inl (cI, 48, .inl (zz_A (zz_u E k (x2)))))] := hD
  refine lv_aload_n hx hb kd_L_note_32 rfl (lv_at hl 0 rfl) ?_
  refine lv_dup hx hb kd_L_note_33 rfl ?_
  refine va_get (D := D) (ci := 2) (v := .int (zz_I (((k : Nat) : Int)))) (C := kn_L) (T := kf_L) (N := 3) hx hb hts ki_L hown hK hP 0 rfl rfl 2 (by decide) (hts _ kw_101) (fun _ h9 => h9) rfl kd_L_note_34 ?_
  refine zz_iconst hx hb (v := 1) (rfl) kd_L_note_37 ?_
  refine zz_iadd hx hb (v := ((k : Nat) : Int) + 1) (rfl) kd_L_note_38 ?_
  refine va_put (D := D) (ci := 2) (v := .int (zz_I (((k : Nat) : Int) + 1))) (ty := .int) (C := kn_L) (T := kf_L) (N := 3) hx hb hts ki_L kt_L kk_L km_L hown hK hP hD hS 0 rfl rfl 2 (by decide) (hts _ kw_101) (fun _ h9 => h9) rfl (by decide +kernel) rfl rfl (Nat.le_of_ble_eq_true rfl) kd_L_note_39 (fun H locs hP hD hS => ?_)
  have hP : va_P D kcl [(o, .inr (2, [.ref p, .ref q, .int (zz_I (((k : Nat) : Int) + 1))])), (p, .inl (cI, 48, .inl (zz_A (zz_u B k (x1))))), (q, .inl (cI, 48, .inl (zz_A (zz_u E k (x2)))))] H := hP
  have hD : va_D (zz_F [(o, .inr (2, [.ref p, .ref q, .int (zz_I (((k : Nat) : Int)))])), (p, .inl (cI, 48, .inl (zz_A (B)))), (q, .inl (cI, 48, .inl (zz_A (E))))]) [(o, .inr (2, [.ref p, .ref q, .int (zz_I (((k : Nat) : Int) + 1))])), (p, .inl (cI, 48, .inl (zz_A (zz_u B k (x1))))), (q, .inl (cI, 48, .inl (zz_A (zz_u E k (x2)))))] := hD
  exact W.vret hx hb hr (zz_endw (()) (rfl) ⟨trivial, hP⟩ hS) hS.2.2 kd_L_note_42
set_option maxHeartbeats 4000000 in
set_option maxRecDepth 100000 in
theorem kc_L_find (l : Launch) (D : va_G) (cI cW : ClassId) (o : Nat) (p : Nat) (q : Nat) (k : Nat) (B : Nat → Int) (E : Nat → Int) (a : Nat) (b : Nat) (n : Nat) (cap : Nat) (g : Nat → Int) (hn : n ≤ cap) (hcap : cap ≤ 1000) (hg : ck_ok g n) (hn48 : n ≤ 48) (hN : zz_N [o, p, q, a, b]) : Met l ky_L_find kv_L_find ({ frames := 5, cells := 0, slots := 0, locals := 103 }) (va_Pc [.ref o, .ref a] (zz_P D cI cW (va_P D kcl [(o, .inr (2, [.ref p, .ref q, .int (zz_I (((k : Nat) : Int)))])), (p, .inl (cI, 48, .inl (zz_A (B)))), (q, .inl (cI, 48, .inl (zz_A (E)))), (a, .inr (1, [.ref b, .int (zz_I (((n : Nat) : Int)))])), (b, .inl (cI, cap, .inl (zz_A (g))))]))) (zz_Qw (fun (u : Unit) => none) (fun (u : Unit) H => (True) ∧ va_P D kcl [(o, .inr (2, [.ref p, .ref q, .int (zz_I ((((ck_wk g n n 0 (0, B, E)).1 : Nat) : Int)))])), (p, .inl (cI, 48, .inl (zz_A ((ck_wk g n n 0 (0, B, E)).2.1)))), (q, .inl (cI, 48, .inl (zz_A ((ck_wk g n n 0 (0, B, E)).2.2)))), (a, .inr (1, [.ref b, .int (zz_I (((n : Nat) : Int)))])), (b, .inl (cI, cap, .inl (zz_A (g))))] H) (zz_F [(o, .inr (2, [.ref p, .ref q, .int (zz_I (((k : Nat) : Int)))])), (p, .inl (cI, 48, .inl (zz_A (B)))), (q, .inl (cI, 48, .inl (zz_A (E)))), (a, .inr (1, [.ref b, .int (zz_I (((n : Nat) : Int)))])), (b, .inl (cI, cap, .inl (zz_A (g))))])) 0 0 (zz_F [(o, .inr (2, [.ref p, .ref q, .int (zz_I (((k : Nat) : Int)))])), (p, .inl (cI, 48, .inl (zz_A (B)))), (q, .inl (cI, 48, .inl (zz_A (E)))), (a, .inr (1, [.ref b, .int (zz_I (((n : Nat) : Int)))])), (b, .inl (cI, cap, .inl (zz_A (g))))]) := by
  refine Met.ofW (cc := kb_L_find) (maxL := 4) (ret := none) (by decide) rfl ?_
  intro pg ev sg mg ag bl mt cd s1 Bd hml hv
  obtain ⟨rfl, hP, hK⟩ := hv
  have hP : va_P D kcl [(o, .inr (2, [.ref p, .ref q, .int (zz_I (((k : Nat) : Int)))])), (p, .inl (cI, 48, .inl (zz_A (B)))), (q, .inl (cI, 48, .inl (zz_A (E)))), (a, .inr (1, [.ref b, .int (zz_I (((n : Nat) : Int)))])), (b, .inl (cI, cap, .inl (zz_A (g))))] sg.heap := hP
  have hx := Bd.exec
  have hb := Bd.bytes
  have hr := Bd.returns
  have hlocks := Bd.notSynchronized
  have hts : ∀ w ∈ zz_tbl, w.before _ sg = true := fun w h => atoms_spec (ws := kv_L_find) Bd.pre w (List.mem_cons_of_mem _ h)
  have hown : sg.vm.findClass kn_L = some mg.cls := findClass_of_methodNamed Bd.named
  have hD : va_D (zz_F [(o, .inr (2, [.ref p, .ref q, .int (zz_I (((k : Nat) : Int)))])), (p, .inl (cI, 48, .inl (zz_A (B)))), (q, .inl (cI, 48, .inl (zz_A (E)))), (a, .inr (1, [.ref b, .int (zz_I (((n : Nat) : Int)))])), (b, .inl (cI, cap, .inl (zz_A (g))))]) [(o, .inr (2, [.ref p, .ref q, .int (zz_I (((k : Nat) : Int)))])), (p, .inl (cI, 48, .inl (zz_A (B)))), (q, .inl (cI, 48, .inl (zz_A (E)))), (a, .inr (1, [.ref b, .int (zz_I (((n : Nat) : Int)))])), (b, .inl (cI, cap, .inl (zz_A (g))))] := zz_Dof hN rfl
  have hS : va_S (zz_F [(o, .inr (2, [.ref p, .ref q, .int (zz_I (((k : Nat) : Int)))])), (p, .inl (cI, 48, .inl (zz_A (B)))), (q, .inl (cI, 48, .inl (zz_A (E)))), (a, .inr (1, [.ref b, .int (zz_I (((n : Nat) : Int)))])), (b, .inl (cI, cap, .inl (zz_A (g))))]) sg.heap sg.heap [] := va_S.rf
  have hl := lv_entry ([.ref o, .ref a]) (n := 4) (Nat.le_of_ble_eq_true rfl)
  rw [lg_entry_eq]
  generalize (lg_sl ([.ref o, .ref a]) ++ List.replicate (4 - (lg_sl ([.ref o, .ref a])).length) Slot.unset).toArray = ls at hl ⊢
  have hl : lv_has ls 4 [(0, .ref o), (1, .ref a)] := hl
  refine lv_aload_n hx hb kd_L_find_0 rfl (lv_at hl 0 rfl) ?_
  refine zz_iconst hx hb (v := 0) (rfl) kd_L_find_1 ?_
  refine va_put (D := D) (ci := 2) (v := .int (zz_I (0))) (ty := .int) (C := kn_L) (T := kf_L) (N := 3) hx hb hts ki_L kt_L kk_L km_L hown hK hP hD hS 0 rfl rfl 2 (by decide) (hts _ kw_101) (fun _ h9 => h9) rfl (by decide +kernel) rfl rfl (Nat.le_of_ble_eq_true rfl) kd_L_find_2 (fun H locs hP hD hS => ?_)
  have hP : va_P D kcl [(o, .inr (2, [.ref p, .ref q, .int (zz_I (0))])), (p, .inl (cI, 48, .inl (zz_A (B)))), (q, .inl (cI, 48, .inl (zz_A (E)))), (a, .inr (1, [.ref b, .int (zz_I (((n : Nat) : Int)))])), (b, .inl (cI, cap, .inl (zz_A (g))))] H := hP
  have hD : va_D (zz_F [(o, .inr (2, [.ref p, .ref q, .int (zz_I (((k : Nat) : Int)))])), (p, .inl (cI, 48, .inl (zz_A (B)))), (q, .inl (cI, 48, .inl (zz_A (E)))), (a, .inr (1, [.ref b, .int (zz_I (((n : Nat) : Int)))])), (b, .inl (cI, cap, .inl (zz_A (g))))]) [(o, .inr (2, [.ref p, .ref q, .int (zz_I (0))])), (p, .inl (cI, 48, .inl (zz_A (B)))), (q, .inl (cI, 48, .inl (zz_A (E)))), (a, .inr (1, [.ref b, .int (zz_I (((n : Nat) : Int)))])), (b, .inl (cI, cap, .inl (zz_A (g))))] := hD
  refine zz_iconst hx hb (v := 0) (rfl) kd_L_find_5 ?_
  refine lv_istore_n hx hb kd_L_find_6 rfl hl (by decide) rfl (fun ls hl => ?_)
  have hl : lv_has ls 4 [(2, .int (zz_I (0))), (0, .ref o), (1, .ref a)] := hl
  have lp7 : ∀ (fuel : Nat) (y : Nat) (c1 : Nat) (B1 : Nat → Int) (E1 : Nat → Int) (ls : Array Slot) (H : Heap) (locs : List Loc), n - y < fuel → (y ≤ n) → (c1 ≤ y) → (∀ f, n - y ≤ f → ck_wk g n f y (c1, B1, E1) = ck_wk g n n 0 (0, B, E)) → lv_has ls 4 [(0, .ref o), (1, .ref a), (2, .int (zz_I (((y : Nat) : Int))))] → va_P D kcl [(o, .inr (2, [.ref p, .ref q, .int (zz_I (((c1 : Nat) : Int)))])), (p, .inl (cI, 48, .inl (zz_A (B1)))), (q, .inl (cI, 48, .inl (zz_A (E1)))), (a, .inr (1, [.ref b, .int (zz_I (((n : Nat) : Int)))])), (b, .inl (cI, cap, .inl (zz_A (g))))] H → va_D (zz_F [(o, .inr (2, [.ref p, .ref q, .int (zz_I (((k : Nat) : Int)))])), (p, .inl (cI, 48, .inl (zz_A (B)))), (q, .inl (cI, 48, .inl (zz_A (E)))), (a, .inr (1, [.ref b, .int (zz_I (((n : Nat) : Int)))])), (b, .inl (cI, cap, .inl (zz_A (g))))]) [(o, .inr (2, [.ref p, .ref q, .int (zz_I (((c1 : Nat) : Int)))])), (p, .inl (cI, 48, .inl (zz_A (B1)))), (q, .inl (cI, 48, .inl (zz_A (E1)))), (a, .inr (1, [.ref b, .int (zz_I (((n : Nat) : Int)))])), (b, .inl (cI, cap, .inl (zz_A (g))))] → va_S (zz_F [(o, .inr (2, [.ref p, .ref q, .int (zz_I (((k : Nat) : Int)))])), (p, .inl (cI, 48, .inl (zz_A (B)))), (q, .inl (cI, 48, .inl (zz_A (E)))), (a, .inr (1, [.ref b, .int (zz_I (((n : Nat) : Int)))])), (b, .inl (cI, cap, .inl (zz_A (g))))]) sg.heap H locs → W pg l ev (headSpec kv_L_find ({ frames := 5, cells := 0, slots := 0, locals := 103 })).room sg mg [.ref o, .ref a].toArray bl mt cd H locs 0 0 (MQ bl (zz_Qw (fun (u : Unit) => none) (fun (u : Unit) H => (True) ∧ va_P D kcl [(o, .inr (2, [.ref p, .ref q, .int (zz_I ((((ck_wk g n n 0 (0, B, E)).1 : Nat) : Int)))])), (p, .inl (cI, 48, .inl (zz_A ((ck_wk g n n 0 (0, B, E)).2.1)))), (q, .inl (cI, 48, .inl (zz_A ((ck_wk g n n 0 (0, B, E)).2.2)))), (a, .inr (1, [.ref b, .int (zz_I (((n : Nat) : Int)))])), (b, .inl (cI, cap, .inl (zz_A (g))))] H) (zz_F [(o, .inr (2, [.ref p, .ref q, .int (zz_I (((k : Nat) : Int)))])), (p, .inl (cI, 48, .inl (zz_A (B)))), (q, .inl (cI, 48, .inl (zz_A (E)))), (a, .inr (1, [.ref b, .int (zz_I (((n : Nat) : Int)))])), (b, .inl (cI, cap, .inl (zz_A (g))))])) [.ref o, .ref a].toArray sg 0 0 (zz_F [(o, .inr (2, [.ref p, .ref q, .int (zz_I (((k : Nat) : Int)))])), (p, .inl (cI, 48, .inl (zz_A (B)))), (q, .inl (cI, 48, .inl (zz_A (E)))), (a, .inr (1, [.ref b, .int (zz_I (((n : Nat) : Int)))])), (b, .inl (cI, cap, .inl (zz_A (g))))])) (F0 mg 7 ls []) := by
    intro fuel
    induction fuel with
    | zero => intro y c1 B1 E1 ls H locs hfu; exact absurd hfu (Nat.not_lt_zero _)
    | succ fuel ih7 =>
      intro y c1 B1 E1 ls H locs hfu hy hc1 hq hl hP hD hS
      refine lv_iload_n hx hb kd_L_find_7 rfl (lv_at hl 2 rfl) ?_
      refine lv_aload_n hx hb kd_L_find_8 rfl (lv_at hl 1 rfl) ?_
      refine zz_pV ⟨hx, hb, hml, hown, hts⟩ hK (kc_R_length l D cI cW a b n  rfl) (zz_gV kw_284 kw_139 kw_140 kw_28 kw_141) ⟨rfl, rfl⟩ ⟨rfl, kh_R_length⟩ ⟨Nat.le_of_ble_eq_true rfl, Nat.le_of_ble_eq_true rfl⟩ (va_recv (q := (kn_R, kf_R, 2)) hK hP rfl (show ([(o, .inr (2, [.ref p, .ref q, .int (zz_I (((c1 : Nat) : Int)))])), (p, .inl (cI, 48, .inl (zz_A (B1)))), (q, .inl (cI, 48, .inl (zz_A (E1)))), (a, .inr (1, [.ref b, .int (zz_I (((n : Nat) : Int)))])), (b, .inl (cI, cap, .inl (zz_A (g))))] : va_W)[3]? = some _ from rfl)) (hP.sub (ws' := [(a, .inr (1, [.ref b, .int (zz_I (((n : Nat) : Int)))]))]) [3] rfl) rfl hl.1 rfl (Nat.le_of_ble_eq_true rfl) kd_L_find_9 ⟨Nat.le_of_ble_eq_true rfl, Nat.le_of_ble_eq_true rfl⟩ ?_
      refine zz_icmp_ge (tgt := 43) hx hb kd_L_find_12 (by decide) (by omega) (fun hbr12 => ?_) (fun hbr12 => ?_)
      · have e := (ck_wk_out (g := g) (f := n) (p := y) (st := (c1, B1, E1)) (by omega)).symm.trans (hq n (by omega))
        rw [← e]
        exact W.vret hx hb hr (zz_endw (()) (rfl) ⟨trivial, hP⟩ hS) hS.2.2 kd_L_find_43
      · refine lv_aload_n hx hb kd_L_find_15 rfl (lv_at hl 1 rfl) ?_
        refine lv_iload_n hx hb kd_L_find_16 rfl (lv_at hl 2 rfl) ?_
        refine zz_pS ⟨hx, hb, hml, hown, hts⟩ hK (kc_L_identifierEnd l D cI cW a b n cap g y (by omega) (by omega) (by assumption) (by omega) rfl) (zz_gS kw_285 kw_286 kw_30 kw_287) ⟨rfl, rfl⟩ kh_L_identifierEnd ⟨Nat.le_of_ble_eq_true rfl, Nat.le_of_ble_eq_true rfl⟩  (hP.sub (ws' := [(a, .inr (1, [.ref b, .int (zz_I (((n : Nat) : Int)))])), (b, .inl (cI, cap, .inl (zz_A (g))))]) [3, 4] rfl) rfl hl.1 rfl (Nat.le_of_ble_eq_true rfl) kd_L_find_17 ⟨Nat.le_of_ble_eq_true rfl, Nat.le_of_ble_eq_true rfl⟩ ?_
        refine lv_istore_n hx hb kd_L_find_20 rfl hl (by decide) rfl (fun ls hl => ?_)
        have hl : lv_has ls 4 [(3, .int (zz_I (((ck_ie g n y : Nat) : Int)))), (0, .ref o), (1, .ref a), (2, .int (zz_I (((y : Nat) : Int))))] := hl
        refine lv_iload_n hx hb kd_L_find_21 rfl (lv_at hl 0 rfl) ?_
        refine lv_iload_n hx hb kd_L_find_22 rfl (lv_at hl 3 rfl) ?_
        refine zz_icmp_le (tgt := 32) hx hb kd_L_find_23 (by decide) (by have := ck_ie_le (g := g) (n := n) (p := y); omega) (fun hbr23 => ?_) (fun hbr23 => ?_)
        · refine lv_iload_n hx hb kd_L_find_32 rfl (lv_at hl 0 rfl) ?_
          refine lv_iload_n hx hb kd_L_find_33 rfl (lv_at hl 3 rfl) ?_
          refine zz_iconst hx hb (v := 1) (rfl) kd_L_find_34 ?_
          refine zz_iadd hx hb (v := ((y + 1 : Nat) : Int)) (by omega) kd_L_find_35 ?_
          refine zz_mmax hx hb (hml.trans hl.1.symm) hown (hts _ kw_302) (hts _ kw_303) (hts _ kw_39) (hts _ kw_304) (Nat.le_of_ble_eq_true rfl) (Nat.le_of_ble_eq_true rfl) ⟨Nat.le_of_ble_eq_true rfl, Nat.le_of_ble_eq_true rfl⟩ (v := ((max (ck_ie g n y) (y + 1) : Nat) : Int)) (by omega) (by have := ck_ie_le (g := g) (n := n) (p := y); omega) kd_L_find_36 ?_
          refine lv_istore_n hx hb kd_L_find_39 rfl hl (by decide) rfl (fun ls hl => ?_)
          have hl : lv_has ls 4 [(2, .int (zz_I (((max (ck_ie g n y) (y + 1) : Nat) : Int)))), (3, .int (zz_I (((ck_ie g n y : Nat) : Int)))), (0, .ref o), (1, .ref a)] := hl
          refine lv_goto (tgt := 7) hx hb kd_L_find_40 (by decide) ?_
          exact ih7 (max (ck_ie g n y) (y + 1)) c1 B1 E1 ls _ _ (by have := ck_ie_le (g := g) (n := n) (p := y); omega) (by have := ck_ie_le (g := g) (n := n) (p := y); omega) (by omega) (fun f hf => (ck_wk_n (by omega) (by omega) hf).trans (hq n (by omega))) (lv_sub hl [2, 3, 0] rfl) hP hD hS
        · refine lv_aload_n hx hb kd_L_find_26 rfl (lv_at hl 1 rfl) ?_
          refine lv_iload_n hx hb kd_L_find_27 rfl (lv_at hl 3 rfl) ?_
          refine lv_iload_n hx hb kd_L_find_28 rfl (lv_at hl 0 rfl) ?_
          refine zz_wV ⟨hx, hb, hml, hown, hts⟩ hK (kc_L_note l D cI cW o p q c1 B1 E1 ((y : Nat) : Int) ((ck_ie g n y : Nat) : Int) (by omega) (hN.sub [0, 1, 2] rfl rfl)) (zz_gV kw_298 kw_300 kw_1 kw_30 kw_301) ⟨rfl, rfl⟩ ⟨rfl, kh_L_note⟩ ⟨Nat.le_of_ble_eq_true rfl, Nat.le_of_ble_eq_true rfl⟩ (va_recv (q := (kn_L, kf_L, 3)) hK hP rfl (show ([(o, .inr (2, [.ref p, .ref q, .int (zz_I (((c1 : Nat) : Int)))])), (p, .inl (cI, 48, .inl (zz_A (B1)))), (q, .inl (cI, 48, .inl (zz_A (E1)))), (a, .inr (1, [.ref b, .int (zz_I (((n : Nat) : Int)))])), (b, .inl (cI, cap, .inl (zz_A (g))))] : va_W)[0]? = some _ from rfl)) hP hD hS [0, 1, 2] rfl rfl (fun _ => rfl) rfl hl.1 rfl (Nat.le_of_ble_eq_true rfl) kd_L_find_29 ⟨Nat.le_of_ble_eq_true rfl, Nat.le_of_ble_eq_true rfl⟩ (fun u29 H locs hu29 hP hD hS => ?_)
          have hP : va_P D kcl [(o, .inr (2, [.ref p, .ref q, .int (zz_I (((c1 + 1 : Nat) : Int)))])), (p, .inl (cI, 48, .inl (zz_A (zz_u B1 c1 ((y : Nat) : Int))))), (q, .inl (cI, 48, .inl (zz_A (zz_u E1 c1 ((ck_ie g n y : Nat) : Int))))), (a, .inr (1, [.ref b, .int (zz_I (((n : Nat) : Int)))])), (b, .inl (cI, cap, .inl (zz_A (g))))] H := hP
          have hD : va_D (zz_F [(o, .inr (2, [.ref p, .ref q, .int (zz_I (((k : Nat) : Int)))])), (p, .inl (cI, 48, .inl (zz_A (B)))), (q, .inl (cI, 48, .inl (zz_A (E)))), (a, .inr (1, [.ref b, .int (zz_I (((n : Nat) : Int)))])), (b, .inl (cI, cap, .inl (zz_A (g))))]) [(o, .inr (2, [.ref p, .ref q, .int (zz_I (((c1 + 1 : Nat) : Int)))])), (p, .inl (cI, 48, .inl (zz_A (zz_u B1 c1 ((y : Nat) : Int))))), (q, .inl (cI, 48, .inl (zz_A (zz_u E1 c1 ((ck_ie g n y : Nat) : Int))))), (a, .inr (1, [.ref b, .int (zz_I (((n : Nat) : Int)))])), (b, .inl (cI, cap, .inl (zz_A (g))))] := hD
          refine lv_iload_n hx hb kd_L_find_32 rfl (lv_at hl 0 rfl) ?_
          refine lv_iload_n hx hb kd_L_find_33 rfl (lv_at hl 3 rfl) ?_
          refine zz_iconst hx hb (v := 1) (rfl) kd_L_find_34 ?_
          refine zz_iadd hx hb (v := ((y + 1 : Nat) : Int)) (by omega) kd_L_find_35 ?_
          refine zz_mmax hx hb (hml.trans hl.1.symm) hown (hts _ kw_302) (hts _ kw_303) (hts _ kw_39) (hts _ kw_304) (Nat.le_of_ble_eq_true rfl) (Nat.le_of_ble_eq_true rfl) ⟨Nat.le_of_ble_eq_true rfl, Nat.le_of_ble_eq_true rfl⟩ (v := ((max (ck_ie g n y) (y + 1) : Nat) : Int)) (by omega) (by have := ck_ie_le (g := g) (n := n) (p := y); omega) kd_L_find_36 ?_
          refine lv_istore_n hx hb kd_L_find_39 rfl hl (by decide) rfl (fun ls hl => ?_)
          have hl : lv_has ls 4 [(2, .int (zz_I (((max (ck_ie g n y) (y + 1) : Nat) : Int)))), (3, .int (zz_I (((ck_ie g n y : Nat) : Int)))), (0, .ref o), (1, .ref a)] := hl
          refine lv_goto (tgt := 7) hx hb kd_L_find_40 (by decide) ?_
          exact ih7 (max (ck_ie g n y) (y + 1)) (c1 + 1) (zz_u B1 c1 ((y : Nat) : Int)) (zz_u E1 c1 ((ck_ie g n y : Nat) : Int)) ls _ _ (by have := ck_ie_le (g := g) (n := n) (p := y); omega) (by have := ck_ie_le (g := g) (n := n) (p := y); omega) (by omega) (fun f hf => (ck_wk_y (by omega) (by omega) hf).trans (hq n (by omega))) (lv_sub hl [2, 3, 0] rfl) hP hD hS
  exact lp7 _ 0 0 B E ls _ _ (Nat.lt_succ_self _) (Nat.zero_le _) (Nat.le_refl _) (fun f hf => ck_wk_fix f n 0 _ hf (by omega)) (lv_sub hl [1, 2, 0] rfl) hP hD hS
set_option maxHeartbeats 4000000 in
set_option maxRecDepth 100000 in
theorem kc_J_oddities (l : Launch) (D : va_G) (cI cW : ClassId) (a : Nat) (b : Nat) (n : Nat) (cap : Nat) (g : Nat → Int) (a2 : Nat) (b2 : Nat) (n2 : Nat) (g2 : Nat → Int) (hn : n ≤ cap) (hcap : cap ≤ 1000) (hg : ck_ok g n) (hn48 : n ≤ 48) (hN : zz_N [a, b, a2, b2]) : Met l ky_J_oddities kv_J_oddities ({ frames := 3, cells := 0, slots := 0, locals := 63 }) (va_Pc [.ref a, .ref a2] (zz_P D cI cW (va_P D kcl [(a, .inr (1, [.ref b, .int (zz_I (((n : Nat) : Int)))])), (b, .inl (cI, cap, .inl (zz_A (g)))), (a2, .inr (1, [.ref b2, .int (zz_I (((n2 : Nat) : Int)))])), (b2, .inl (cI, 96, .inl (zz_A (g2))))]))) (zz_Qw (fun (u : Unit) => some (.int (zz_I (ck_odd g n (ck_AF g n) (ck_AN g n))))) (fun (u : Unit) H => (True) ∧ va_P D kcl [(a, .inr (1, [.ref b, .int (zz_I (((n : Nat) : Int)))])), (b, .inl (cI, cap, .inl (zz_A (g)))), (a2, .inr (1, [.ref b2, .int (zz_I ((((ck_ao g g2 n).1 : Nat) : Int)))])), (b2, .inl (cI, 96, .inl (zz_A ((ck_ao g g2 n).2))))] H) (zz_F [(a, .inr (1, [.ref b, .int (zz_I (((n : Nat) : Int)))])), (b, .inl (cI, cap, .inl (zz_A (g)))), (a2, .inr (1, [.ref b2, .int (zz_I (((n2 : Nat) : Int)))])), (b2, .inl (cI, 96, .inl (zz_A (g2))))])) 0 0 (zz_F [(a, .inr (1, [.ref b, .int (zz_I (((n : Nat) : Int)))])), (b, .inl (cI, cap, .inl (zz_A (g)))), (a2, .inr (1, [.ref b2, .int (zz_I (((n2 : Nat) : Int)))])), (b2, .inl (cI, 96, .inl (zz_A (g2))))]) := by
  refine Met.ofW (cc := kb_J_oddities) (maxL := 7) (ret := (some .int)) (by decide) rfl ?_
  intro pg ev sg mg ag bl mt cd s1 Bd hml hv
  obtain ⟨rfl, hP, hK⟩ := hv
  have hP : va_P D kcl [(a, .inr (1, [.ref b, .int (zz_I (((n : Nat) : Int)))])), (b, .inl (cI, cap, .inl (zz_A (g)))), (a2, .inr (1, [.ref b2, .int (zz_I (((n2 : Nat) : Int)))])), (b2, .inl (cI, 96, .inl (zz_A (g2))))] sg.heap := hP
  have hx := Bd.exec
  have hb := Bd.bytes
  have hr := Bd.returns
  have hlocks := Bd.notSynchronized
  have hts : ∀ w ∈ zz_tbl, w.before _ sg = true := fun w h => atoms_spec (ws := kv_J_oddities) Bd.pre w (List.mem_cons_of_mem _ h)
  have hown : sg.vm.findClass kn_J = some mg.cls := findClass_of_methodNamed Bd.named
  have hD : va_D (zz_F [(a, .inr (1, [.ref b, .int (zz_I (((n : Nat) : Int)))])), (b, .inl (cI, cap, .inl (zz_A (g)))), (a2, .inr (1, [.ref b2, .int (zz_I (((n2 : Nat) : Int)))])), (b2, .inl (cI, 96, .inl (zz_A (g2))))]) [(a, .inr (1, [.ref b, .int (zz_I (((n : Nat) : Int)))])), (b, .inl (cI, cap, .inl (zz_A (g)))), (a2, .inr (1, [.ref b2, .int (zz_I (((n2 : Nat) : Int)))])), (b2, .inl (cI, 96, .inl (zz_A (g2))))] := zz_Dof hN rfl
  have hS : va_S (zz_F [(a, .inr (1, [.ref b, .int (zz_I (((n : Nat) : Int)))])), (b, .inl (cI, cap, .inl (zz_A (g)))), (a2, .inr (1, [.ref b2, .int (zz_I (((n2 : Nat) : Int)))])), (b2, .inl (cI, 96, .inl (zz_A (g2))))]) sg.heap sg.heap [] := va_S.rf
  have hl := lv_entry ([.ref a, .ref a2]) (n := 7) (Nat.le_of_ble_eq_true rfl)
  rw [lg_entry_eq]
  generalize (lg_sl ([.ref a, .ref a2]) ++ List.replicate (7 - (lg_sl ([.ref a, .ref a2])).length) Slot.unset).toArray = ls at hl ⊢
  have hl : lv_has ls 7 [(0, .ref a), (1, .ref a2)] := hl
  refine zz_iconst hx hb (v := zz_b (ck_any ck_west g 0)) (rfl) kd_J_oddities_0 ?_
  refine lv_istore_n hx hb kd_J_oddities_1 rfl hl (by decide) rfl (fun ls hl => ?_)
  have hl : lv_has ls 7 [(2, .int (zz_I (zz_b (ck_any ck_west g 0)))), (0, .ref a), (1, .ref a2)] := hl
  refine zz_iconst hx hb (v := zz_b (ck_any ck_east g 0)) (rfl) kd_J_oddities_2 ?_
  refine lv_istore_n hx hb kd_J_oddities_3 rfl hl (by decide) rfl (fun ls hl => ?_)
  have hl : lv_has ls 7 [(3, .int (zz_I (zz_b (ck_any ck_east g 0)))), (2, .int (zz_I (zz_b (ck_any ck_west g 0)))), (0, .ref a), (1, .ref a2)] := hl
  refine zz_iconst hx hb (v := zz_b (ck_any ck_inv g 0)) (rfl) kd_J_oddities_4 ?_
  refine lv_istore hx hb kd_J_oddities_5 hl (by decide) rfl (fun ls hl => ?_)
  have hl : lv_has ls 7 [(4, .int (zz_I (zz_b (ck_any ck_inv g 0)))), (3, .int (zz_I (zz_b (ck_any ck_east g 0)))), (2, .int (zz_I (zz_b (ck_any ck_west g 0)))), (0, .ref a), (1, .ref a2)] := hl
  refine lv_aload_n hx hb kd_J_oddities_7 rfl (lv_at hl 4 rfl) ?_
  refine zz_wV ⟨hx, hb, hml, hown, hts⟩ hK (kc_R_clear l D cI cW a2 b2 n2  (hN.sub [2] rfl rfl)) (zz_gV kw_237 kw_147 kw_148 kw_28 kw_149) ⟨rfl, rfl⟩ ⟨rfl, kh_R_clear⟩ ⟨Nat.le_of_ble_eq_true rfl, Nat.le_of_ble_eq_true rfl⟩ (va_recv (q := (kn_R, kf_R, 2)) hK hP rfl (show ([(a, .inr (1, [.ref b, .int (zz_I (((n : Nat) : Int)))])), (b, .inl (cI, cap, .inl (zz_A (g)))), (a2, .inr (1, [.ref b2, .int (zz_I (((n2 : Nat) : Int)))])), (b2, .inl (cI, 96, .inl (zz_A (g2))))] : va_W)[2]? = some _ from rfl)) hP hD hS [2] rfl rfl (fun _ => rfl) rfl hl.1 rfl (Nat.le_of_ble_eq_true rfl) kd_J_oddities_8 ⟨Nat.le_of_ble_eq_true rfl, Nat.le_of_ble_eq_true rfl⟩ (fun u8 H locs hu8 hP hD hS => ?_)
  have hP : va_P D kcl [(a, .inr (1, [.ref b, .int (zz_I (((n : Nat) : Int)))])), (b, .inl (cI, cap, .inl (zz_A (g)))), (a2, .inr (1, [.ref b2, .int (zz_I (((0 : Nat) : Int)))])), (b2, .inl (cI, 96, .inl (zz_A (g2))))] H := hP
  have hD : va_D (zz_F [(a, .inr (1, [.ref b, .int (zz_I (((n : Nat) : Int)))])), (b, .inl (cI, cap, .inl (zz_A (g)))), (a2, .inr (1, [.ref b2, .int (zz_I (((n2 : Nat) : Int)))])), (b2, .inl (cI, 96, .inl (zz_A (g2))))]) [(a, .inr (1, [.ref b, .int (zz_I (((n : Nat) : Int)))])), (b, .inl (cI, cap, .inl (zz_A (g)))), (a2, .inr (1, [.ref b2, .int (zz_I (((0 : Nat) : Int)))])), (b2, .inl (cI, 96, .inl (zz_A (g2))))] := hD
  refine zz_iconst hx hb (v := 0) (rfl) kd_J_oddities_11 ?_
  refine lv_istore hx hb kd_J_oddities_12 hl (by decide) rfl (fun ls hl => ?_)
  have hl : lv_has ls 7 [(5, .int (zz_I (0))), (4, .int (zz_I (zz_b (ck_any ck_inv g 0)))), (3, .int (zz_I (zz_b (ck_any ck_east g 0)))), (2, .int (zz_I (zz_b (ck_any ck_west g 0)))), (0, .ref a), (1, .ref a2)] := hl
  have lp14 : ∀ (fuel : Nat) (i : Nat) (ls : Array Slot) (H : Heap) (locs : List Loc), n - i < fuel → (i ≤ n) → lv_has ls 7 [(0, .ref a), (1, .ref a2), (2, .int (zz_I (zz_b (ck_any ck_west g i)))), (3, .int (zz_I (zz_b (ck_any ck_east g i)))), (4, .int (zz_I (zz_b (ck_any ck_inv g i)))), (5, .int (zz_I (((i : Nat) : Int))))] → va_P D kcl [(a, .inr (1, [.ref b, .int (zz_I (((n : Nat) : Int)))])), (b, .inl (cI, cap, .inl (zz_A (g)))), (a2, .inr (1, [.ref b2, .int (zz_I ((((ck_ao g g2 i).1 : Nat) : Int)))])), (b2, .inl (cI, 96, .inl (zz_A ((ck_ao g g2 i).2))))] H → va_D (zz_F [(a, .inr (1, [.ref b, .int (zz_I (((n : Nat) : Int)))])), (b, .inl (cI, cap, .inl (zz_A (g)))), (a2, .inr (1, [.ref b2, .int (zz_I (((n2 : Nat) : Int)))])), (b2, .inl (cI, 96, .inl (zz_A (g2))))]) [(a, .inr (1, [.ref b, .int (zz_I (((n : Nat) : Int)))])), (b, .inl (cI, cap, .inl (zz_A (g)))), (a2, .inr (1, [.ref b2, .int (zz_I ((((ck_ao g g2 i).1 : Nat) : Int)))])), (b2, .inl (cI, 96, .inl (zz_A ((ck_ao g g2 i).2))))] → va_S (zz_F [(a, .inr (1, [.ref b, .int (zz_I (((n : Nat) : Int)))])), (b, .inl (cI, cap, .inl (zz_A (g)))), (a2, .inr (1, [.ref b2, .int (zz_I (((n2 : Nat) : Int)))])), (b2, .inl (cI, 96, .inl (zz_A (g2))))]) sg.heap H locs → W pg l ev (headSpec kv_J_oddities ({ frames := 3, cells := 0, slots := 0, locals := 63 })).room sg mg [.ref a, .ref a2].toArray bl mt cd H locs 0 0 (MQ bl (zz_Qw (fun (u : Unit) => some (.int (zz_I (ck_odd g n (ck_AF g n) (ck_AN g n))))) (fun (u : Unit) H => (True) ∧ va_P D kcl [(a, .inr (1, [.ref b, .int (zz_I (((n : Nat) : Int)))])), (b, .inl (cI, cap, .inl (zz_A (g)))), (a2, .inr (1, [.ref b2, .int (zz_I ((((ck_ao g g2 n).1 : Nat) : Int)))])), (b2, .inl (cI, 96, .inl (zz_A ((ck_ao g g2 n).2))))] H) (zz_F [(a, .inr (1, [.ref b, .int (zz_I (((n : Nat) : Int)))])), (b, .inl (cI, cap, .inl (zz_A (g)))), (a2, .inr (1, [.ref b2, .int (zz_I (((n2 : Nat) : Int)))])), (b2, .inl (cI, 96, .inl (zz_A (g2))))])) [.ref a, .ref a2].toArray sg 0 0 (zz_F [(a, .inr (1, [.ref b, .int (zz_I (((n : Nat) : Int)))])), (b, .inl (cI, cap, .inl (zz_A (g)))), (a2, .inr (1, [.ref b2, .int (zz_I (((n2 : Nat) : Int)))])), (b2, .inl (cI, 96, .inl (zz_A (g2))))])) (F0 mg 14 ls []) := by
    intro fuel
    induction fuel with
    | zero => intro i ls H locs hfu; exact absurd hfu (Nat.not_lt_zero _)
    | succ fuel ih14 =>
      intro i ls H locs hfu hi hl hP hD hS
      refine lv_iload hx hb kd_J_oddities_14 (lv_at hl 5 rfl) ?_
      refine lv_aload_n hx hb kd_J_oddities_16 rfl (lv_at hl 0 rfl) ?_
      refine zz_pV ⟨hx, hb, hml, hown, hts⟩ hK (kc_R_length l D cI cW a b n  rfl) (zz_gV kw_178 kw_139 kw_140 kw_28 kw_141) ⟨rfl, rfl⟩ ⟨rfl, kh_R_length⟩ ⟨Nat.le_of_ble_eq_true rfl, Nat.le_of_ble_eq_true rfl⟩ (va_recv (q := (kn_R, kf_R, 2)) hK hP rfl (show ([(a, .inr (1, [.ref b, .int (zz_I (((n : Nat) : Int)))])), (b, .inl (cI, cap, .inl (zz_A (g)))), (a2, .inr (1, [.ref b2, .int (zz_I ((((ck_ao g g2 i).1 : Nat) : Int)))])), (b2, .inl (cI, 96, .inl (zz_A ((ck_ao g g2 i).2))))] : va_W)[0]? = some _ from rfl)) (hP.sub (ws' := [(a, .inr (1, [.ref b, .int (zz_I (((n : Nat) : Int)))]))]) [0] rfl) rfl hl.1 rfl (Nat.le_of_ble_eq_true rfl) kd_J_oddities_17 ⟨Nat.le_of_ble_eq_true rfl, Nat.le_of_ble_eq_true rfl⟩ ?_
      refine zz_icmp_ge (tgt := 99) hx hb kd_J_oddities_20 (by decide) (by omega) (fun hbr20 => ?_) (fun hbr20 => ?_)
      · have e : i = n := by omega
        rw [e] at hP hD hl
        have hl : lv_has ls 7 [(0, .ref a), (1, .ref a2), (2, .int (zz_I (zz_b (ck_any ck_west g n)))), (3, .int (zz_I (zz_b (ck_any ck_east g n)))), (4, .int (zz_I (zz_b (ck_any ck_inv g n)))), (5, .int (zz_I (((n : Nat) : Int))))] := hl
        refine lv_iload_n hx hb kd_J_oddities_99 rfl (lv_at hl 2 rfl) ?_
        have jn112 : ∀  (ls : Array Slot), lv_has ls 7 [(0, .ref a), (1, .ref a2), (2, .int (zz_I (zz_b (ck_any ck_west g n)))), (3, .int (zz_I (zz_b (ck_any ck_east g n)))), (4, .int (zz_I (zz_b (ck_any ck_inv g n)))), (5, .int (zz_I (((n : Nat) : Int))))] → W pg l ev (headSpec kv_J_oddities ({ frames := 3, cells := 0, slots := 0, locals := 63 })).room sg mg [.ref a, .ref a2].toArray bl mt cd H locs 0 0 (MQ bl (zz_Qw (fun (u : Unit) => some (.int (zz_I (ck_odd g n (ck_AF g n) (ck_AN g n))))) (fun (u : Unit) H => (True) ∧ va_P D kcl [(a, .inr (1, [.ref b, .int (zz_I (((n : Nat) : Int)))])), (b, .inl (cI, cap, .inl (zz_A (g)))), (a2, .inr (1, [.ref b2, .int (zz_I ((((ck_ao g g2 n).1 : Nat) : Int)))])), (b2, .inl (cI, 96, .inl (zz_A ((ck_ao g g2 n).2))))] H) (zz_F [(a, .inr (1, [.ref b, .int (zz_I (((n : Nat) : Int)))])), (b, .inl (cI, cap, .inl (zz_A (g)))), (a2, .inr (1, [.ref b2, .int (zz_I (((n2 : Nat) : Int)))])), (b2, .inl (cI, 96, .inl (zz_A (g2))))])) [.ref a, .ref a2].toArray sg 0 0 (zz_F [(a, .inr (1, [.ref b, .int (zz_I (((n : Nat) : Int)))])), (b, .inl (cI, cap, .inl (zz_A (g)))), (a2, .inr (1, [.ref b2, .int (zz_I (((n2 : Nat) : Int)))])), (b2, .inl (cI, 96, .inl (zz_A (g2))))])) (F0 mg 112 ls [.int (zz_I (zz_b (ck_any ck_west g n && ck_any ck_east g n)))]) := by
          intro  ls  hl
          refine lv_aload_n hx hb kd_J_oddities_112 rfl (lv_at hl 1 rfl) ?_
          refine zz_pS ⟨hx, hb, hml, hown, hts⟩ hK (kc_J_hasMarkTwice l D cI cW a2 b2 ((ck_ao g g2 n).1) 96 ((ck_ao g g2 n).2) (by have := ck_ao_le g g2 n; omega) (by omega) (ck_ao_ok n hg) rfl) (zz_gS kw_268 kw_269 kw_38 kw_270) ⟨rfl, rfl⟩ kh_J_hasMarkTwice ⟨Nat.le_of_ble_eq_true rfl, Nat.le_of_ble_eq_true rfl⟩  (hP.sub (ws' := [(a2, .inr (1, [.ref b2, .int (zz_I ((((ck_ao g g2 n).1 : Nat) : Int)))])), (b2, .inl (cI, 96, .inl (zz_A ((ck_ao g g2 n).2))))]) [2, 3] rfl) rfl hl.1 rfl (Nat.le_of_ble_eq_true rfl) kd_J_oddities_113 ⟨Nat.le_of_ble_eq_true rfl, Nat.le_of_ble_eq_true rfl⟩ ?_
          have jn124 : ∀  (ls : Array Slot), lv_has ls 7 [(0, .ref a), (1, .ref a2), (2, .int (zz_I (zz_b (ck_any ck_west g n)))), (3, .int (zz_I (zz_b (ck_any ck_east g n)))), (4, .int (zz_I (zz_b (ck_any ck_inv g n)))), (5, .int (zz_I (((n : Nat) : Int))))] → W pg l ev (headSpec kv_J_oddities ({ frames := 3, cells := 0, slots := 0, locals := 63 })).room sg mg [.ref a, .ref a2].toArray bl mt cd H locs 0 0 (MQ bl (zz_Qw (fun (u : Unit) => some (.int (zz_I (ck_odd g n (ck_AF g n) (ck_AN g n))))) (fun (u : Unit) H => (True) ∧ va_P D kcl [(a, .inr (1, [.ref b, .int (zz_I (((n : Nat) : Int)))])), (b, .inl (cI, cap, .inl (zz_A (g)))), (a2, .inr (1, [.ref b2, .int (zz_I ((((ck_ao g g2 n).1 : Nat) : Int)))])), (b2, .inl (cI, 96, .inl (zz_A ((ck_ao g g2 n).2))))] H) (zz_F [(a, .inr (1, [.ref b, .int (zz_I (((n : Nat) : Int)))])), (b, .inl (cI, cap, .inl (zz_A (g)))), (a2, .inr (1, [.ref b2, .int (zz_I (((n2 : Nat) : Int)))])), (b2, .inl (cI, 96, .inl (zz_A (g2))))])) [.ref a, .ref a2].toArray sg 0 0 (zz_F [(a, .inr (1, [.ref b, .int (zz_I (((n : Nat) : Int)))])), (b, .inl (cI, cap, .inl (zz_A (g)))), (a2, .inr (1, [.ref b2, .int (zz_I (((n2 : Nat) : Int)))])), (b2, .inl (cI, 96, .inl (zz_A (g2))))])) (F0 mg 124 ls [.int (zz_I (2 * zz_b (ck_tw (ck_ao g g2 n).2 (ck_ao g g2 n).1))), .int (zz_I (zz_b (ck_any ck_west g n && ck_any ck_east g n)))]) := by
            intro  ls  hl
            refine zz_iadd hx hb (v := (zz_b (ck_any ck_west g n && ck_any ck_east g n)) + (2 * zz_b (ck_tw (ck_ao g g2 n).2 (ck_ao g g2 n).1))) (rfl) kd_J_oddities_124 ?_
            refine lv_iload hx hb kd_J_oddities_125 (lv_at hl 4 rfl) ?_
            have jn135 : ∀  (ls : Array Slot), lv_has ls 7 [(0, .ref a), (1, .ref a2), (2, .int (zz_I (zz_b (ck_any ck_west g n)))), (3, .int (zz_I (zz_b (ck_any ck_east g n)))), (4, .int (zz_I (zz_b (ck_any ck_inv g n)))), (5, .int (zz_I (((n : Nat) : Int))))] → W pg l ev (headSpec kv_J_oddities ({ frames := 3, cells := 0, slots := 0, locals := 63 })).room sg mg [.ref a, .ref a2].toArray bl mt cd H locs 0 0 (MQ bl (zz_Qw (fun (u : Unit) => some (.int (zz_I (ck_odd g n (ck_AF g n) (ck_AN g n))))) (fun (u : Unit) H => (True) ∧ va_P D kcl [(a, .inr (1, [.ref b, .int (zz_I (((n : Nat) : Int)))])), (b, .inl (cI, cap, .inl (zz_A (g)))), (a2, .inr (1, [.ref b2, .int (zz_I ((((ck_ao g g2 n).1 : Nat) : Int)))])), (b2, .inl (cI, 96, .inl (zz_A ((ck_ao g g2 n).2))))] H) (zz_F [(a, .inr (1, [.ref b, .int (zz_I (((n : Nat) : Int)))])), (b, .inl (cI, cap, .inl (zz_A (g)))), (a2, .inr (1, [.ref b2, .int (zz_I (((n2 : Nat) : Int)))])), (b2, .inl (cI, 96, .inl (zz_A (g2))))])) [.ref a, .ref a2].toArray sg 0 0 (zz_F [(a, .inr (1, [.ref b, .int (zz_I (((n : Nat) : Int)))])), (b, .inl (cI, cap, .inl (zz_A (g)))), (a2, .inr (1, [.ref b2, .int (zz_I (((n2 : Nat) : Int)))])), (b2, .inl (cI, 96, .inl (zz_A (g2))))])) (F0 mg 135 ls [.int (zz_I (4 * zz_b (ck_any ck_inv g n))), .int (zz_I ((zz_b (ck_any ck_west g n && ck_any ck_east g n)) + (2 * zz_b (ck_tw (ck_ao g g2 n).2 (ck_ao g g2 n).1))))]) := by
              intro  ls  hl
              refine zz_iadd hx hb (v := ((zz_b (ck_any ck_west g n && ck_any ck_east g n)) + (2 * zz_b (ck_tw (ck_ao g g2 n).2 (ck_ao g g2 n).1))) + (4 * zz_b (ck_any ck_inv g n))) (rfl) kd_J_oddities_135 ?_
              refine lv_aload_n hx hb kd_J_oddities_136 rfl (lv_at hl 1 rfl) ?_
              refine zz_pS ⟨hx, hb, hml, hown, hts⟩ hK (kc_J_hasLooseMark l D cI cW a2 b2 ((ck_ao g g2 n).1) 96 ((ck_ao g g2 n).2) (by have := ck_ao_le g g2 n; omega) (by omega) (ck_ao_ok n hg) rfl) (zz_gS kw_272 kw_273 kw_38 kw_274) ⟨rfl, rfl⟩ kh_J_hasLooseMark ⟨Nat.le_of_ble_eq_true rfl, Nat.le_of_ble_eq_true rfl⟩  (hP.sub (ws' := [(a2, .inr (1, [.ref b2, .int (zz_I ((((ck_ao g g2 n).1 : Nat) : Int)))])), (b2, .inl (cI, 96, .inl (zz_A ((ck_ao g g2 n).2))))]) [2, 3] rfl) rfl hl.1 rfl (Nat.le_of_ble_eq_true rfl) kd_J_oddities_137 ⟨Nat.le_of_ble_eq_true rfl, Nat.le_of_ble_eq_true rfl⟩ ?_
              refine zz_ifb_eq (tgt := 148) hx hb kd_J_oddities_140 (by decide) (fun hbr140 => ?_) (fun hbr140 => ?_)
              · refine zz_iconst hx hb (v := 8 * zz_b (ck_lo (ck_ao g g2 n).2 (ck_ao g g2 n).1)) (ck_nil (by assumption)) kd_J_oddities_148 ?_
                refine zz_iadd hx hb (v := (((zz_b (ck_any ck_west g n && ck_any ck_east g n)) + (2 * zz_b (ck_tw (ck_ao g g2 n).2 (ck_ao g g2 n).1))) + (4 * zz_b (ck_any ck_inv g n))) + (8 * zz_b (ck_lo (ck_ao g g2 n).2 (ck_ao g g2 n).1))) (rfl) kd_J_oddities_149 ?_
                exact W.iret hx hb hr (zz_endw (()) (congrArg (fun z => some (Value.int (zz_I z))) (ck_odd_O (G := g) (f := g2) (n := n))) ⟨trivial, hP⟩ hS) hS.2.2 kd_J_oddities_150
              · refine zz_bipush hx hb kd_J_oddities_143 (by decide) ?_
                refine zz_cast (y := 8 * zz_b (ck_lo (ck_ao g g2 n).2 (ck_ao g g2 n).1)) (ck_eight (by assumption)) ?_
                refine lv_goto (tgt := 149) hx hb kd_J_oddities_145 (by decide) ?_
                refine zz_iadd hx hb (v := (((zz_b (ck_any ck_west g n && ck_any ck_east g n)) + (2 * zz_b (ck_tw (ck_ao g g2 n).2 (ck_ao g g2 n).1))) + (4 * zz_b (ck_any ck_inv g n))) + (8 * zz_b (ck_lo (ck_ao g g2 n).2 (ck_ao g g2 n).1))) (rfl) kd_J_oddities_149 ?_
                exact W.iret hx hb hr (zz_endw (()) (congrArg (fun z => some (Value.int (zz_I z))) (ck_odd_O (G := g) (f := g2) (n := n))) ⟨trivial, hP⟩ hS) hS.2.2 kd_J_oddities_150
            refine zz_ifb_eq (tgt := 134) hx hb kd_J_oddities_127 (by decide) (fun hbr127 => ?_) (fun hbr127 => ?_)
            · refine zz_iconst hx hb (v := 4 * zz_b (ck_any ck_inv g n)) (ck_nil (by assumption)) kd_J_oddities_134 ?_
              exact jn135  ls  (lv_sub hl [0, 1, 2, 3, 4, 5] rfl)
            · refine zz_iconst hx hb (v := 4 * zz_b (ck_any ck_inv g n)) (ck_four (by assumption)) kd_J_oddities_130 ?_
              refine lv_goto (tgt := 135) hx hb kd_J_oddities_131 (by decide) ?_
              exact jn135  ls  (lv_sub hl [0, 1, 2, 3, 4, 5] rfl)
          refine zz_ifb_eq (tgt := 123) hx hb kd_J_oddities_116 (by decide) (fun hbr116 => ?_) (fun hbr116 => ?_)
          · refine zz_iconst hx hb (v := 2 * zz_b (ck_tw (ck_ao g g2 n).2 (ck_ao g g2 n).1)) (ck_nil (by assumption)) kd_J_oddities_123 ?_
            exact jn124  ls  (lv_sub hl [0, 1, 2, 3, 4, 5] rfl)
          · refine zz_iconst hx hb (v := 2 * zz_b (ck_tw (ck_ao g g2 n).2 (ck_ao g g2 n).1)) (ck_two (by assumption)) kd_J_oddities_119 ?_
            refine lv_goto (tgt := 124) hx hb kd_J_oddities_120 (by decide) ?_
            exact jn124  ls  (lv_sub hl [0, 1, 2, 3, 4, 5] rfl)
        refine zz_ifb_eq (tgt := 111) hx hb kd_J_oddities_100 (by decide) (fun hbr100 => ?_) (fun hbr100 => ?_)
        · refine zz_iconst hx hb (v := zz_b (ck_any ck_west g n && ck_any ck_east g n)) (zz_f (by first | rw [show ck_any ck_west g n = false by assumption, Bool.false_and] | rw [show ck_any ck_east g n = false by assumption, Bool.and_false])) kd_J_oddities_111 ?_
          exact jn112  ls  (lv_sub hl [0, 1, 2, 3, 4, 5] rfl)
        · refine lv_iload_n hx hb kd_J_oddities_103 rfl (lv_at hl 3 rfl) ?_
          refine zz_ifb_eq (tgt := 111) hx hb kd_J_oddities_104 (by decide) (fun hbr104 => ?_) (fun hbr104 => ?_)
          · refine zz_iconst hx hb (v := zz_b (ck_any ck_west g n && ck_any ck_east g n)) (zz_f (by first | rw [show ck_any ck_west g n = false by assumption, Bool.false_and] | rw [show ck_any ck_east g n = false by assumption, Bool.and_false])) kd_J_oddities_111 ?_
            exact jn112  ls  (lv_sub hl [0, 1, 2, 3, 4, 5] rfl)
          · refine zz_iconst hx hb (v := zz_b (ck_any ck_west g n && ck_any ck_east g n)) (zz_t (by rw [show ck_any ck_west g n = true by assumption, show ck_any ck_east g n = true by assumption]; rfl)) kd_J_oddities_107 ?_
            refine lv_goto (tgt := 112) hx hb kd_J_oddities_108 (by decide) ?_
            exact jn112  ls  (lv_sub hl [0, 1, 2, 3, 4, 5] rfl)
      · refine lv_aload_n hx hb kd_J_oddities_23 rfl (lv_at hl 0 rfl) ?_
        refine lv_iload hx hb kd_J_oddities_24 (lv_at hl 5 rfl) ?_
        refine zz_pV ⟨hx, hb, hml, hown, hts⟩ hK (kc_R_at l D cI cW a b n cap g ((i : Nat) : Int) (by omega) (by omega) (by omega) (v := g i) (ck_ri_in (by omega))) (zz_gV kw_179 kw_164 kw_165 kw_28 kw_166) ⟨rfl, rfl⟩ ⟨rfl, kh_R_at⟩ ⟨Nat.le_of_ble_eq_true rfl, Nat.le_of_ble_eq_true rfl⟩ (va_recv (q := (kn_R, kf_R, 2)) hK hP rfl (show ([(a, .inr (1, [.ref b, .int (zz_I (((n : Nat) : Int)))])), (b, .inl (cI, cap, .inl (zz_A (g)))), (a2, .inr (1, [.ref b2, .int (zz_I ((((ck_ao g g2 i).1 : Nat) : Int)))])), (b2, .inl (cI, 96, .inl (zz_A ((ck_ao g g2 i).2))))] : va_W)[0]? = some _ from rfl)) (hP.sub (ws' := [(a, .inr (1, [.ref b, .int (zz_I (((n : Nat) : Int)))])), (b, .inl (cI, cap, .inl (zz_A (g))))]) [0, 1] rfl) rfl hl.1 rfl (Nat.le_of_ble_eq_true rfl) kd_J_oddities_26 ⟨Nat.le_of_ble_eq_true rfl, Nat.le_of_ble_eq_true rfl⟩ ?_
        refine lv_istore hx hb kd_J_oddities_29 hl (by decide) rfl (fun ls hl => ?_)
        have hl : lv_has ls 7 [(6, .int (zz_I (g i))), (0, .ref a), (1, .ref a2), (2, .int (zz_I (zz_b (ck_any ck_west g i)))), (3, .int (zz_I (zz_b (ck_any ck_east g i)))), (4, .int (zz_I (zz_b (ck_any ck_inv g i)))), (5, .int (zz_I (((i : Nat) : Int))))] := hl
        refine lv_iload_n hx hb kd_J_oddities_31 rfl (lv_at hl 3 rfl) ?_
        have jn48 : ∀  (ls : Array Slot), lv_has ls 7 [(6, .int (zz_I (g i))), (0, .ref a), (1, .ref a2), (2, .int (zz_I (zz_b (ck_any ck_west g i)))), (3, .int (zz_I (zz_b (ck_any ck_east g i)))), (4, .int (zz_I (zz_b (ck_any ck_inv g i)))), (5, .int (zz_I (((i : Nat) : Int))))] → W pg l ev (headSpec kv_J_oddities ({ frames := 3, cells := 0, slots := 0, locals := 63 })).room sg mg [.ref a, .ref a2].toArray bl mt cd H locs 0 0 (MQ bl (zz_Qw (fun (u : Unit) => some (.int (zz_I (ck_odd g n (ck_AF g n) (ck_AN g n))))) (fun (u : Unit) H => (True) ∧ va_P D kcl [(a, .inr (1, [.ref b, .int (zz_I (((n : Nat) : Int)))])), (b, .inl (cI, cap, .inl (zz_A (g)))), (a2, .inr (1, [.ref b2, .int (zz_I ((((ck_ao g g2 n).1 : Nat) : Int)))])), (b2, .inl (cI, 96, .inl (zz_A ((ck_ao g g2 n).2))))] H) (zz_F [(a, .inr (1, [.ref b, .int (zz_I (((n : Nat) : Int)))])), (b, .inl (cI, cap, .inl (zz_A (g)))), (a2, .inr (1, [.ref b2, .int (zz_I (((n2 : Nat) : Int)))])), (b2, .inl (cI, 96, .inl (zz_A (g2))))])) [.ref a, .ref a2].toArray sg 0 0 (zz_F [(a, .inr (1, [.ref b, .int (zz_I (((n : Nat) : Int)))])), (b, .inl (cI, cap, .inl (zz_A (g)))), (a2, .inr (1, [.ref b2, .int (zz_I (((n2 : Nat) : Int)))])), (b2, .inl (cI, 96, .inl (zz_A (g2))))])) (F0 mg 48 ls [.int (zz_I (zz_b (ck_any ck_west g (i + 1))))]) := by
          intro  ls  hl
          refine lv_istore_n hx hb kd_J_oddities_48 rfl hl (by decide) rfl (fun ls hl => ?_)
          have hl : lv_has ls 7 [(2, .int (zz_I (zz_b (ck_any ck_west g (i + 1))))), (6, .int (zz_I (g i))), (0, .ref a), (1, .ref a2), (3, .int (zz_I (zz_b (ck_any ck_east g i)))), (4, .int (zz_I (zz_b (ck_any ck_inv g i)))), (5, .int (zz_I (((i : Nat) : Int))))] := hl
          refine lv_iload_n hx hb kd_J_oddities_49 rfl (lv_at hl 4 rfl) ?_
          have jn66 : ∀  (ls : Array Slot), lv_has ls 7 [(2, .int (zz_I (zz_b (ck_any ck_west g (i + 1))))), (6, .int (zz_I (g i))), (0, .ref a), (1, .ref a2), (3, .int (zz_I (zz_b (ck_any ck_east g i)))), (4, .int (zz_I (zz_b (ck_any ck_inv g i)))), (5, .int (zz_I (((i : Nat) : Int))))] → W pg l ev (headSpec kv_J_oddities ({ frames := 3, cells := 0, slots := 0, locals := 63 })).room sg mg [.ref a, .ref a2].toArray bl mt cd H locs 0 0 (MQ bl (zz_Qw (fun (u : Unit) => some (.int (zz_I (ck_odd g n (ck_AF g n) (ck_AN g n))))) (fun (u : Unit) H => (True) ∧ va_P D kcl [(a, .inr (1, [.ref b, .int (zz_I (((n : Nat) : Int)))])), (b, .inl (cI, cap, .inl (zz_A (g)))), (a2, .inr (1, [.ref b2, .int (zz_I ((((ck_ao g g2 n).1 : Nat) : Int)))])), (b2, .inl (cI, 96, .inl (zz_A ((ck_ao g g2 n).2))))] H) (zz_F [(a, .inr (1, [.ref b, .int (zz_I (((n : Nat) : Int)))])), (b, .inl (cI, cap, .inl (zz_A (g)))), (a2, .inr (1, [.ref b2, .int (zz_I (((n2 : Nat) : Int)))])), (b2, .inl (cI, 96, .inl (zz_A (g2))))])) [.ref a, .ref a2].toArray sg 0 0 (zz_F [(a, .inr (1, [.ref b, .int (zz_I (((n : Nat) : Int)))])), (b, .inl (cI, cap, .inl (zz_A (g)))), (a2, .inr (1, [.ref b2, .int (zz_I (((n2 : Nat) : Int)))])), (b2, .inl (cI, 96, .inl (zz_A (g2))))])) (F0 mg 66 ls [.int (zz_I (zz_b (ck_any ck_east g (i + 1))))]) := by
            intro  ls  hl
            refine lv_istore_n hx hb kd_J_oddities_66 rfl hl (by decide) rfl (fun ls hl => ?_)
            have hl : lv_has ls 7 [(3, .int (zz_I (zz_b (ck_any ck_east g (i + 1))))), (2, .int (zz_I (zz_b (ck_any ck_west g (i + 1))))), (6, .int (zz_I (g i))), (0, .ref a), (1, .ref a2), (4, .int (zz_I (zz_b (ck_any ck_inv g i)))), (5, .int (zz_I (((i : Nat) : Int))))] := hl
            refine lv_iload hx hb kd_J_oddities_67 (lv_at hl 5 rfl) ?_
            have jn85 : ∀  (ls : Array Slot), lv_has ls 7 [(3, .int (zz_I (zz_b (ck_any ck_east g (i + 1))))), (2, .int (zz_I (zz_b (ck_any ck_west g (i + 1))))), (6, .int (zz_I (g i))), (0, .ref a), (1, .ref a2), (4, .int (zz_I (zz_b (ck_any ck_inv g i)))), (5, .int (zz_I (((i : Nat) : Int))))] → W pg l ev (headSpec kv_J_oddities ({ frames := 3, cells := 0, slots := 0, locals := 63 })).room sg mg [.ref a, .ref a2].toArray bl mt cd H locs 0 0 (MQ bl (zz_Qw (fun (u : Unit) => some (.int (zz_I (ck_odd g n (ck_AF g n) (ck_AN g n))))) (fun (u : Unit) H => (True) ∧ va_P D kcl [(a, .inr (1, [.ref b, .int (zz_I (((n : Nat) : Int)))])), (b, .inl (cI, cap, .inl (zz_A (g)))), (a2, .inr (1, [.ref b2, .int (zz_I ((((ck_ao g g2 n).1 : Nat) : Int)))])), (b2, .inl (cI, 96, .inl (zz_A ((ck_ao g g2 n).2))))] H) (zz_F [(a, .inr (1, [.ref b, .int (zz_I (((n : Nat) : Int)))])), (b, .inl (cI, cap, .inl (zz_A (g)))), (a2, .inr (1, [.ref b2, .int (zz_I (((n2 : Nat) : Int)))])), (b2, .inl (cI, 96, .inl (zz_A (g2))))])) [.ref a, .ref a2].toArray sg 0 0 (zz_F [(a, .inr (1, [.ref b, .int (zz_I (((n : Nat) : Int)))])), (b, .inl (cI, cap, .inl (zz_A (g)))), (a2, .inr (1, [.ref b2, .int (zz_I (((n2 : Nat) : Int)))])), (b2, .inl (cI, 96, .inl (zz_A (g2))))])) (F0 mg 85 ls [.int (zz_I (zz_b (ck_any ck_inv g (i + 1))))]) := by
              intro  ls  hl
              refine lv_istore hx hb kd_J_oddities_85 hl (by decide) rfl (fun ls hl => ?_)
              have hl : lv_has ls 7 [(4, .int (zz_I (zz_b (ck_any ck_inv g (i + 1))))), (3, .int (zz_I (zz_b (ck_any ck_east g (i + 1))))), (2, .int (zz_I (zz_b (ck_any ck_west g (i + 1))))), (6, .int (zz_I (g i))), (0, .ref a), (1, .ref a2), (5, .int (zz_I (((i : Nat) : Int))))] := hl
              refine lv_aload_n hx hb kd_J_oddities_87 rfl (lv_at hl 5 rfl) ?_
              refine lv_iload hx hb kd_J_oddities_88 (lv_at hl 3 rfl) ?_
              refine zz_wV ⟨hx, hb, hml, hown, hts⟩ hK (kc_R_addApart l D cI cW a2 b2 ((ck_ao g g2 i).1) 96 ((ck_ao g g2 i).2) (g i) (Nat.le_trans (ck_ap_le (ck_ao g g2 i) (g i)).2 (by have := ck_ao_le g g2 i; omega)) (by omega) (ck_ao_ok i (fun q hq => hg q (by omega))) (hg i (by omega)) (hN.sub [2, 3] rfl rfl)) (zz_gV kw_243 kw_244 kw_245 kw_28 kw_246) ⟨rfl, rfl⟩ ⟨rfl, kh_R_addApart⟩ ⟨Nat.le_of_ble_eq_true rfl, Nat.le_of_ble_eq_true rfl⟩ (va_recv (q := (kn_R, kf_R, 2)) hK hP rfl (show ([(a, .inr (1, [.ref b, .int (zz_I (((n : Nat) : Int)))])), (b, .inl (cI, cap, .inl (zz_A (g)))), (a2, .inr (1, [.ref b2, .int (zz_I ((((ck_ao g g2 i).1 : Nat) : Int)))])), (b2, .inl (cI, 96, .inl (zz_A ((ck_ao g g2 i).2))))] : va_W)[2]? = some _ from rfl)) hP hD hS [2, 3] rfl rfl (fun _ => rfl) rfl hl.1 rfl (Nat.le_of_ble_eq_true rfl) kd_J_oddities_90 ⟨Nat.le_of_ble_eq_true rfl, Nat.le_of_ble_eq_true rfl⟩ (fun u90 H locs hu90 hP hD hS => ?_)
              have hP : va_P D kcl [(a, .inr (1, [.ref b, .int (zz_I (((n : Nat) : Int)))])), (b, .inl (cI, cap, .inl (zz_A (g)))), (a2, .inr (1, [.ref b2, .int (zz_I ((((ck_ap (((ck_ao g g2 i).1), ((ck_ao g g2 i).2)) (g i)).1 : Nat) : Int)))])), (b2, .inl (cI, 96, .inl (zz_A ((ck_ap (((ck_ao g g2 i).1), ((ck_ao g g2 i).2)) (g i)).2))))] H := hP
              have hD : va_D (zz_F [(a, .inr (1, [.ref b, .int (zz_I (((n : Nat) : Int)))])), (b, .inl (cI, cap, .inl (zz_A (g)))), (a2, .inr (1, [.ref b2, .int (zz_I (((n2 : Nat) : Int)))])), (b2, .inl (cI, 96, .inl (zz_A (g2))))]) [(a, .inr (1, [.ref b, .int (zz_I (((n : Nat) : Int)))])), (b, .inl (cI, cap, .inl (zz_A (g)))), (a2, .inr (1, [.ref b2, .int (zz_I ((((ck_ap (((ck_ao g g2 i).1), ((ck_ao g g2 i).2)) (g i)).1 : Nat) : Int)))])), (b2, .inl (cI, 96, .inl (zz_A ((ck_ap (((ck_ao g g2 i).1), ((ck_ao g g2 i).2)) (g i)).2))))] := hD
              refine zz_iinc (k := 6) hx hb kd_J_oddities_93 hl rfl rfl (by decide) rfl (fun ls hl => ?_)
              have hl : lv_has ls 7 [(5, .int (zz_I (((i : Nat) : Int) + 1))), (4, .int (zz_I (zz_b (ck_any ck_inv g (i + 1))))), (3, .int (zz_I (zz_b (ck_any ck_east g (i + 1))))), (2, .int (zz_I (zz_b (ck_any ck_west g (i + 1))))), (6, .int (zz_I (g i))), (0, .ref a), (1, .ref a2)] := hl
              refine lv_goto (tgt := 14) hx hb kd_J_oddities_96 (by decide) ?_
              exact ih14 (i + 1) ls _ _ (by omega) (by omega) (lv_sub hl [5, 6, 3, 2, 1, 0] rfl) hP hD hS
            refine zz_ifb_ne (tgt := 80) hx hb kd_J_oddities_69 (by decide) (fun hbr69 => ?_) (fun hbr69 => ?_)
            · refine zz_iconst hx hb (v := zz_b (ck_any ck_inv g (i + 1))) (zz_t (by first | exact ck_any_mo (by assumption) | exact ck_any_hit (by assumption))) kd_J_oddities_80 ?_
              refine lv_goto (tgt := 85) hx hb kd_J_oddities_81 (by decide) ?_
              exact jn85  ls  (lv_sub hl [0, 1, 2, 3, 4, 5, 6] rfl)
            · refine lv_iload hx hb kd_J_oddities_72 (lv_at hl 2 rfl) ?_
              refine zz_pS ⟨hx, hb, hml, hown, hts⟩ hK (kc_A_isInvisible l D cI cW (g i) (by have := hg i (by omega); omega) rfl) (zz_gS kw_240 kw_241 kw_37 kw_242) ⟨rfl, rfl⟩ kh_A_isInvisible ⟨Nat.le_of_ble_eq_true rfl, Nat.le_of_ble_eq_true rfl⟩  trivial rfl hl.1 rfl (Nat.le_of_ble_eq_true rfl) kd_J_oddities_74 ⟨Nat.le_of_ble_eq_true rfl, Nat.le_of_ble_eq_true rfl⟩ ?_
              refine zz_ifb_eq (tgt := 84) hx hb kd_J_oddities_77 (by decide) (fun hbr77 => ?_) (fun hbr77 => ?_)
              · refine zz_iconst hx hb (v := zz_b (ck_any ck_inv g (i + 1))) (zz_f (ck_any_no (by assumption) (by assumption))) kd_J_oddities_84 ?_
                exact jn85  ls  (lv_sub hl [0, 1, 2, 3, 4, 5, 6] rfl)
              · refine zz_iconst hx hb (v := zz_b (ck_any ck_inv g (i + 1))) (zz_t (by first | exact ck_any_mo (by assumption) | exact ck_any_hit (by assumption))) kd_J_oddities_80 ?_
                refine lv_goto (tgt := 85) hx hb kd_J_oddities_81 (by decide) ?_
                exact jn85  ls  (lv_sub hl [0, 1, 2, 3, 4, 5, 6] rfl)
          refine zz_ifb_ne (tgt := 61) hx hb kd_J_oddities_50 (by decide) (fun hbr50 => ?_) (fun hbr50 => ?_)
          · refine zz_iconst hx hb (v := zz_b (ck_any ck_east g (i + 1))) (zz_t (by first | exact ck_any_mo (by assumption) | exact ck_any_hit (by assumption))) kd_J_oddities_61 ?_
            refine lv_goto (tgt := 66) hx hb kd_J_oddities_62 (by decide) ?_
            exact jn66  ls  (lv_sub hl [0, 1, 2, 3, 4, 5, 6] rfl)
          · refine lv_iload hx hb kd_J_oddities_53 (lv_at hl 1 rfl) ?_
            refine zz_pS ⟨hx, hb, hml, hown, hts⟩ hK (kc_A_isEasternDigit l D cI cW (g i) (by have := hg i (by omega); omega) rfl) (zz_gS kw_239 kw_184 kw_37 kw_185) ⟨rfl, rfl⟩ kh_A_isEasternDigit ⟨Nat.le_of_ble_eq_true rfl, Nat.le_of_ble_eq_true rfl⟩  trivial rfl hl.1 rfl (Nat.le_of_ble_eq_true rfl) kd_J_oddities_55 ⟨Nat.le_of_ble_eq_true rfl, Nat.le_of_ble_eq_true rfl⟩ ?_
            refine zz_ifb_eq (tgt := 65) hx hb kd_J_oddities_58 (by decide) (fun hbr58 => ?_) (fun hbr58 => ?_)
            · refine zz_iconst hx hb (v := zz_b (ck_any ck_east g (i + 1))) (zz_f (ck_any_no (by assumption) (by assumption))) kd_J_oddities_65 ?_
              exact jn66  ls  (lv_sub hl [0, 1, 2, 3, 4, 5, 6] rfl)
            · refine zz_iconst hx hb (v := zz_b (ck_any ck_east g (i + 1))) (zz_t (by first | exact ck_any_mo (by assumption) | exact ck_any_hit (by assumption))) kd_J_oddities_61 ?_
              refine lv_goto (tgt := 66) hx hb kd_J_oddities_62 (by decide) ?_
              exact jn66  ls  (lv_sub hl [0, 1, 2, 3, 4, 5, 6] rfl)
        refine zz_ifb_ne (tgt := 43) hx hb kd_J_oddities_32 (by decide) (fun hbr32 => ?_) (fun hbr32 => ?_)
        · refine zz_iconst hx hb (v := zz_b (ck_any ck_west g (i + 1))) (zz_t (by first | exact ck_any_mo (by assumption) | exact ck_any_hit (by assumption))) kd_J_oddities_43 ?_
          refine lv_goto (tgt := 48) hx hb kd_J_oddities_44 (by decide) ?_
          exact jn48  ls  (lv_sub hl [0, 1, 2, 3, 4, 5, 6] rfl)
        · refine lv_iload hx hb kd_J_oddities_35 (lv_at hl 0 rfl) ?_
          refine zz_pS ⟨hx, hb, hml, hown, hts⟩ hK (kc_A_isWesternDigit l D cI cW (g i) (by have := hg i (by omega); omega) rfl) (zz_gS kw_238 kw_215 kw_37 kw_216) ⟨rfl, rfl⟩ kh_A_isWesternDigit ⟨Nat.le_of_ble_eq_true rfl, Nat.le_of_ble_eq_true rfl⟩  trivial rfl hl.1 rfl (Nat.le_of_ble_eq_true rfl) kd_J_oddities_37 ⟨Nat.le_of_ble_eq_true rfl, Nat.le_of_ble_eq_true rfl⟩ ?_
          refine zz_ifb_eq (tgt := 47) hx hb kd_J_oddities_40 (by decide) (fun hbr40 => ?_) (fun hbr40 => ?_)
          · refine zz_iconst hx hb (v := zz_b (ck_any ck_west g (i + 1))) (zz_f (ck_any_no (by assumption) (by assumption))) kd_J_oddities_47 ?_
            exact jn48  ls  (lv_sub hl [0, 1, 2, 3, 4, 5, 6] rfl)
          · refine zz_iconst hx hb (v := zz_b (ck_any ck_west g (i + 1))) (zz_t (by first | exact ck_any_mo (by assumption) | exact ck_any_hit (by assumption))) kd_J_oddities_43 ?_
            refine lv_goto (tgt := 48) hx hb kd_J_oddities_44 (by decide) ?_
            exact jn48  ls  (lv_sub hl [0, 1, 2, 3, 4, 5, 6] rfl)
  exact lp14 _ 0 ls _ _ (Nat.lt_succ_self _) (Nat.zero_le _) (lv_sub hl [4, 5, 3, 2, 1, 0] rfl) hP hD hS
