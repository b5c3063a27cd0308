set_option maxHeartbeats 4000000 in
set_option maxRecDepth 100000 in
theorem kc_D_byteOf (l : Launch) (D : va_G) (cI cW : ClassId) (x : Int64) (i : Nat) (hi : i < 8) {v : Int} (hv : ((ck_by x i : Nat) : Int) = v) : Met l ky_D_byteOf kv_D_byteOf ({ frames := 0, cells := 0, slots := 0, locals := 0 }) (va_Pc [.long (x), .int (zz_I (((i : Nat) : Int)))] (zz_P D cI cW (fun _ => True))) (zz_Qp (.int (zz_I v))) 0 0 (fun _ => False) := by
  subst hv
  refine Met.ofW (cc := kb_D_byteOf) (maxL := 3) (ret := (some .int)) (by decide) rfl ?_
  intro pg ev sg mg ag bl mt cd s1 Bd hml hv
  obtain ⟨rfl, hP, hK⟩ := hv
  have hx := Bd.exec
  have hb := Bd.bytes
  have hr := Bd.returns
  have hlocks := Bd.notSynchronized
  have hts : ∀ w ∈ zz_tbl, w.before _ sg = true := fun w h => atoms_spec (ws := kv_D_byteOf) Bd.pre w (List.mem_cons_of_mem _ h)
  have hown : sg.vm.findClass kn_D = some mg.cls := findClass_of_methodNamed Bd.named
  have hl := lv_entry ([.long (x), .int (zz_I (((i : Nat) : Int)))]) (n := 3) (Nat.le_of_ble_eq_true rfl)
  rw [lg_entry_eq]
  generalize (lg_sl ([.long (x), .int (zz_I (((i : Nat) : Int)))]) ++ List.replicate (3 - (lg_sl ([.long (x), .int (zz_I (((i : Nat) : Int)))])).length) Slot.unset).toArray = ls at hl ⊢
  have hl : lv_has ls 3 [(0, .long (x)), (2, .int (zz_I (((i : Nat) : Int))))] := hl
  refine lv_lload_n hx hb kd_D_byteOf_0 rfl (lv_at hl 0 rfl) ?_
  refine zz_bipush hx hb kd_D_byteOf_1 (by decide) ?_
  refine lv_iload_n hx hb kd_D_byteOf_3 rfl (lv_at hl 1 rfl) ?_
  refine zz_imul hx hb (v := ((8 * i : Nat) : Int)) (by omega) kd_D_byteOf_4 ?_
  refine lv_lushr hx hb kd_D_byteOf_5 (v := ((x).toUInt64 >>> ((zz_I (((8 * i : Nat) : Int))).toInt64.toUInt64 &&& Int64.toUInt64 63)).toInt64) rfl ?_
  refine lv_l2i hx hb kd_D_byteOf_6 rfl ?_
  refine zz_sipush hx hb kd_D_byteOf_7 (by decide) ?_
  refine lv_iand hx hb kd_D_byteOf_10 ?_
  refine zz_castr (y := ((ck_by x i : Nat) : Int)) (ck_by_u x hi) ?_
  exact W.iret hx hb hr (zz_endp (by rfl)) (fun _ h => nomatch h) kd_D_byteOf_11
set_option maxHeartbeats 4000000 in
set_option maxRecDepth 100000 in
theorem kc_D_areCharacters (l : Launch) (D : va_G) (cI cW : ClassId) (x : Int64) (n : Nat) (hn : n ≤ 8) {v : Int} (hv : zz_b (!ck_bad x n) = v) : Met l ky_D_areCharacters kv_D_areCharacters ({ frames := 1, cells := 0, slots := 0, locals := 22 }) (va_Pc [.long (x), .int (zz_I (((n : Nat) : Int)))] (zz_P D cI cW (fun _ => True))) (zz_Qp (.int (zz_I v))) 0 0 (fun _ => False) := by
  subst hv
  refine Met.ofW (cc := kb_D_areCharacters) (maxL := 4) (ret := (some .boolean)) (by decide) rfl ?_
  intro pg ev sg mg ag bl mt cd s1 Bd hml hv
  obtain ⟨rfl, hP, hK⟩ := hv
  have hx := Bd.exec
  have hb := Bd.bytes
  have hr := Bd.returns
  have hlocks := Bd.notSynchronized
  have hts : ∀ w ∈ zz_tbl, w.before _ sg = true := fun w h => atoms_spec (ws := kv_D_areCharacters) Bd.pre w (List.mem_cons_of_mem _ h)
  have hown : sg.vm.findClass kn_D = some mg.cls := findClass_of_methodNamed Bd.named
  have hl := lv_entry ([.long (x), .int (zz_I (((n : Nat) : Int)))]) (n := 4) (Nat.le_of_ble_eq_true rfl)
  rw [lg_entry_eq]
  generalize (lg_sl ([.long (x), .int (zz_I (((n : Nat) : Int)))]) ++ List.replicate (4 - (lg_sl ([.long (x), .int (zz_I (((n : Nat) : Int)))])).length) Slot.unset).toArray = ls at hl ⊢
  have hl : lv_has ls 4 [(0, .long (x)), (2, .int (zz_I (((n : Nat) : Int))))] := hl
  refine zz_iconst hx hb (v := 0) (rfl) kd_D_areCharacters_0 ?_
  refine lv_istore_n hx hb kd_D_areCharacters_1 rfl hl (by decide) rfl (fun ls hl => ?_)
  have hl : lv_has ls 4 [(3, .int (zz_I (0))), (0, .long (x)), (2, .int (zz_I (((n : Nat) : Int))))] := hl
  have lp2 : ∀ (fuel : Nat) (i : Nat) (ls : Array Slot), n - i < fuel → (i ≤ n) → (ck_bad x i = false) → lv_has ls 4 [(0, .long (x)), (2, .int (zz_I (((n : Nat) : Int)))), (3, .int (zz_I (((i : Nat) : Int))))] → W pg l ev (headSpec kv_D_areCharacters ({ frames := 1, cells := 0, slots := 0, locals := 22 })).room sg mg [.long (x), .int (zz_I (((n : Nat) : Int)))].toArray bl mt cd sg.heap [] 0 0 (MQ bl (zz_Qp (.int (zz_I (zz_b (!ck_bad x n))))) [.long (x), .int (zz_I (((n : Nat) : Int)))].toArray sg 0 0 (fun _ => False)) (F0 mg 2 ls []) := by
    intro fuel
    induction fuel with
    | zero => intro i ls hfu; exact absurd hfu (Nat.not_lt_zero _)
    | succ fuel ih2 =>
      intro i ls hfu hi hq hl
      refine lv_iload_n hx hb kd_D_areCharacters_2 rfl (lv_at hl 2 rfl) ?_
      refine lv_iload_n hx hb kd_D_areCharacters_3 rfl (lv_at hl 1 rfl) ?_
      refine zz_icmp_ge (tgt := 25) hx hb kd_D_areCharacters_4 (by decide) (by omega) (fun hbr4 => ?_) (fun hbr4 => ?_)
      · refine zz_iconst hx hb (v := 1) (rfl) kd_D_areCharacters_25 ?_
        exact W.zret (ty := .boolean) hx hb hr (by decide) (zz_endp (zz_t (by rw [show ck_bad x n = false by have e : i = n := (by omega); rw [← e]; exact hq]; rfl))) (fun _ h => nomatch h) kd_D_areCharacters_26
      · refine lv_lload_n hx hb kd_D_areCharacters_7 rfl (lv_at hl 0 rfl) ?_
        refine lv_iload_n hx hb kd_D_areCharacters_8 rfl (lv_at hl 2 rfl) ?_
        refine zz_pS ⟨hx, hb, hml, hown, hts⟩ hK (kc_D_byteOf l D cI cW x i (by omega) rfl) (zz_gS kw_348 kw_349 kw_26 kw_350) ⟨rfl, rfl⟩ kh_D_byteOf ⟨Nat.le_of_ble_eq_true rfl, Nat.le_of_ble_eq_true rfl⟩  trivial rfl hl.1 rfl (Nat.le_of_ble_eq_true rfl) kd_D_areCharacters_9 ⟨Nat.le_of_ble_eq_true rfl, Nat.le_of_ble_eq_true rfl⟩ ?_
        refine zz_bipush hx hb kd_D_areCharacters_12 (by decide) ?_
        refine zz_icmp_le (tgt := 19) hx hb kd_D_areCharacters_14 (by decide) (by have := ck_by_lt x i; omega) (fun hbr14 => ?_) (fun hbr14 => ?_)
        · refine zz_iinc (k := 2) hx hb kd_D_areCharacters_19 hl rfl rfl (by decide) rfl (fun ls hl => ?_)
          have hl : lv_has ls 4 [(3, .int (zz_I (((i : Nat) : Int) + 1))), (0, .long (x)), (2, .int (zz_I (((n : Nat) : Int))))] := hl
          refine lv_goto (tgt := 2) hx hb kd_D_areCharacters_22 (by decide) ?_
          exact ih2 (i + 1) ls (by omega) (by omega) (ck_anyN_no hq (decide_eq_false (by omega))) (lv_sub hl [1, 2, 0] rfl)
        · refine zz_iconst hx hb (v := 0) (rfl) kd_D_areCharacters_17 ?_
          exact W.zret (ty := .boolean) hx hb hr (by decide) (zz_endp (zz_f (by rw [show ck_bad x n = true from ck_anyN_up (P := fun j => decide (127 < ck_by x j)) (k := i) (decide_eq_true (by omega)) n (by omega)]; rfl))) (fun _ h => nomatch h) kd_D_areCharacters_18
  exact lp2 _ 0 ls (Nat.lt_succ_self _) (Nat.zero_le _) (rfl) (lv_sub hl [1, 2, 0] rfl)
set_option maxHeartbeats 4000000 in
set_option maxRecDepth 100000 in
theorem kc_M_type (l : Launch) (D : va_G) (cI cW : ClassId) (o : Nat) (t : Nat) (z : Nat) (w : Nat) (y : Nat) (d : Nat) (th : Int) (k : Nat) (bg : Nat) (T : Nat → Int) (Sz : Nat → Int) (s : Nat) (x : Int64) (n : Int) (hs_G : Sz 12 = ((s : Nat) : Int)) (hs48 : s ≤ 48) (hn : -2147483648 ≤ n ∧ n ≤ 2147483647) (hN : zz_N [o, t, z]) : Met l ky_M_type kv_M_type ({ frames := 1, cells := 0, slots := 0, locals := 21 }) (va_Pc [.ref o, .long (x), .int (zz_I (n))] (zz_P D cI cW (va_P D kcl [(o, .inr (5, [.int (zz_I (th)), .ref t, .ref z, .int (zz_I (((k : Nat) : Int))), .ref w, .ref y, .ref d, .int (zz_I (((bg : Nat) : Int)))])), (t, .inl (cI, 672, .inl (zz_A (T)))), (z, .inl (cI, 14, .inl (zz_A (Sz))))]))) (zz_Qw (fun (u : Int × Int × (Nat → Int) × (Nat → Int)) => some (.int (zz_I u.2.1))) (fun (u : Int × Int × (Nat → Int) × (Nat → Int)) H => ((¬ (1 ≤ n ∧ n ≤ 8 ∧ ck_bad x n.toNat = false) ∧ u = (1, 0, T, Sz)) ∨ ((1 ≤ n ∧ n ≤ 8 ∧ ck_bad x n.toNat = false) ∧ 48 < ((s : Nat) : Int) + n ∧ u = (2, 0, T, Sz)) ∨ ((1 ≤ n ∧ n ≤ 8 ∧ ck_bad x n.toNat = false) ∧ ((s : Nat) : Int) + n ≤ 48 ∧ u = (0, ((s + n.toNat : Nat) : Int), ck_ty T x s n.toNat n.toNat, zz_u Sz 12 ((s + n.toNat : Nat) : Int)))) ∧ va_P D kcl [(o, .inr (5, [.int (zz_I (u.1)), .ref t, .ref z, .int (zz_I (((k : Nat) : Int))), .ref w, .ref y, .ref d, .int (zz_I (((bg : Nat) : Int)))])), (t, .inl (cI, 672, .inl (zz_A (u.2.2.1)))), (z, .inl (cI, 14, .inl (zz_A (u.2.2.2))))] H) (zz_F [(o, .inr (5, [.int (zz_I (th)), .ref t, .ref z, .int (zz_I (((k : Nat) : Int))), .ref w, .ref y, .ref d, .int (zz_I (((bg : Nat) : Int)))])), (t, .inl (cI, 672, .inl (zz_A (T)))), (z, .inl (cI, 14, .inl (zz_A (Sz))))])) 0 0 (zz_F [(o, .inr (5, [.int (zz_I (th)), .ref t, .ref z, .int (zz_I (((k : Nat) : Int))), .ref w, .ref y, .ref d, .int (zz_I (((bg : Nat) : Int)))])), (t, .inl (cI, 672, .inl (zz_A (T)))), (z, .inl (cI, 14, .inl (zz_A (Sz))))]) := by
  refine Met.ofW (cc := kb_M_type) (maxL := 5) (ret := (some .int)) (by decide) rfl ?_
  intro pg ev sg mg ag bl mt cd s1 Bd hml hv
  obtain ⟨rfl, hP, hK⟩ := hv
  have hP : va_P D kcl [(o, .inr (5, [.int (zz_I (th)), .ref t, .ref z, .int (zz_I (((k : Nat) : Int))), .ref w, .ref y, .ref d, .int (zz_I (((bg : Nat) : Int)))])), (t, .inl (cI, 672, .inl (zz_A (T)))), (z, .inl (cI, 14, .inl (zz_A (Sz))))] sg.heap := hP
  have hx := Bd.exec
  have hb := Bd.bytes
  have hr := Bd.returns
  have hlocks := Bd.notSynchronized
  have hts : ∀ w ∈ zz_tbl, w.before _ sg = true := fun w h => atoms_spec (ws := kv_M_type) Bd.pre w (List.mem_cons_of_mem _ h)
  have hown : sg.vm.findClass kn_M = some mg.cls := findClass_of_methodNamed Bd.named
  have hD : va_D (zz_F [(o, .inr (5, [.int (zz_I (th)), .ref t, .ref z, .int (zz_I (((k : Nat) : Int))), .ref w, .ref y, .ref d, .int (zz_I (((bg : Nat) : Int)))])), (t, .inl (cI, 672, .inl (zz_A (T)))), (z, .inl (cI, 14, .inl (zz_A (Sz))))]) [(o, .inr (5, [.int (zz_I (th)), .ref t, .ref z, .int (zz_I (((k : Nat) : Int))), .ref w, .ref y, .ref d, .int (zz_I (((bg : Nat) : Int)))])), (t, .inl (cI, 672, .inl (zz_A (T)))), (z, .inl (cI, 14, .inl (zz_A (Sz))))] := zz_Dof hN rfl
  have hS : va_S (zz_F [(o, .inr (5, [.int (zz_I (th)), .ref t, .ref z, .int (zz_I (((k : Nat) : Int))), .ref w, .ref y, .ref d, .int (zz_I (((bg : Nat) : Int)))])), (t, .inl (cI, 672, .inl (zz_A (T)))), (z, .inl (cI, 14, .inl (zz_A (Sz))))]) sg.heap sg.heap [] := va_S.rf
  have hl := lv_entry ([.ref o, .long (x), .int (zz_I (n))]) (n := 5) (Nat.le_of_ble_eq_true rfl)
  rw [lg_entry_eq]
  generalize (lg_sl ([.ref o, .long (x), .int (zz_I (n))]) ++ List.replicate (5 - (lg_sl ([.ref o, .long (x), .int (zz_I (n))])).length) Slot.unset).toArray = ls at hl ⊢
  have hl : lv_has ls 5 [(0, .ref o), (1, .long (x)), (3, .int (zz_I (n)))] := hl
  refine lv_aload_n hx hb kd_M_type_0 rfl (lv_at hl 0 rfl) ?_
  refine zz_iconst hx hb (v := 0) (rfl) kd_M_type_1 ?_
  refine va_put (D := D) (ci := 5) (v := .int (zz_I (0))) (ty := .int) (C := kn_M) (T := kf_M) (N := 8) hx hb hts ki_M kt_M kk_M km_M hown hK hP hD hS 0 rfl rfl 0 (by decide) (hts _ kw_601) (fun _ h9 => h9) rfl (by decide +kernel) rfl rfl (Nat.le_of_ble_eq_true rfl) kd_M_type_2 (fun H locs hP hD hS => ?_)
  have hP : va_P D kcl [(o, .inr (5, [.int (zz_I (0)), .ref t, .ref z, .int (zz_I (((k : Nat) : Int))), .ref w, .ref y, .ref d, .int (zz_I (((bg : Nat) : Int)))])), (t, .inl (cI, 672, .inl (zz_A (T)))), (z, .inl (cI, 14, .inl (zz_A (Sz))))] H := hP
  have hD : va_D (zz_F [(o, .inr (5, [.int (zz_I (th)), .ref t, .ref z, .int (zz_I (((k : Nat) : Int))), .ref w, .ref y, .ref d, .int (zz_I (((bg : Nat) : Int)))])), (t, .inl (cI, 672, .inl (zz_A (T)))), (z, .inl (cI, 14, .inl (zz_A (Sz))))]) [(o, .inr (5, [.int (zz_I (0)), .ref t, .ref z, .int (zz_I (((k : Nat) : Int))), .ref w, .ref y, .ref d, .int (zz_I (((bg : Nat) : Int)))])), (t, .inl (cI, 672, .inl (zz_A (T)))), (z, .inl (cI, 14, .inl (zz_A (Sz))))] := hD
  refine lv_iload_n hx hb kd_M_type_5 rfl (lv_at hl 2 rfl) ?_
  refine zz_iconst hx hb (v := 1) (rfl) kd_M_type_6 ?_
  refine zz_icmp_lt (tgt := 16) hx hb kd_M_type_7 (by decide) (by omega) (fun hbr7 => ?_) (fun hbr7 => ?_)
  · refine lv_aload_n hx hb kd_M_type_16 rfl (lv_at hl 0 rfl) ?_
    refine zz_iconst hx hb (v := 1) (rfl) kd_M_type_17 ?_
    refine zz_wV ⟨hx, hb, hml, hown, hts⟩ hK (kc_M_refuse l D cI cW o t z w y d 0 k bg 1  (hN.sub [0] rfl rfl)) (zz_gV kw_634 kw_636 kw_6 kw_31 kw_637) ⟨rfl, rfl⟩ ⟨rfl, kh_M_refuse⟩ ⟨Nat.le_of_ble_eq_true rfl, Nat.le_of_ble_eq_true rfl⟩ (va_recv (q := (kn_M, kf_M, 8)) hK hP rfl (show ([(o, .inr (5, [.int (zz_I (0)), .ref t, .ref z, .int (zz_I (((k : Nat) : Int))), .ref w, .ref y, .ref d, .int (zz_I (((bg : Nat) : Int)))])), (t, .inl (cI, 672, .inl (zz_A (T)))), (z, .inl (cI, 14, .inl (zz_A (Sz))))] : va_W)[0]? = some _ from rfl)) hP hD hS [0] rfl rfl (fun _ => rfl) rfl hl.1 rfl (Nat.le_of_ble_eq_true rfl) kd_M_type_18 ⟨Nat.le_of_ble_eq_true rfl, Nat.le_of_ble_eq_true rfl⟩ (fun u18 H locs hu18 hP hD hS => ?_)
    have hP : va_P D kcl [(o, .inr (5, [.int (zz_I (1)), .ref t, .ref z, .int (zz_I (((k : Nat) : Int))), .ref w, .ref y, .ref d, .int (zz_I (((bg : Nat) : Int)))])), (t, .inl (cI, 672, .inl (zz_A (T)))), (z, .inl (cI, 14, .inl (zz_A (Sz))))] H := hP
    have hD : va_D (zz_F [(o, .inr (5, [.int (zz_I (th)), .ref t, .ref z, .int (zz_I (((k : Nat) : Int))), .ref w, .ref y, .ref d, .int (zz_I (((bg : Nat) : Int)))])), (t, .inl (cI, 672, .inl (zz_A (T)))), (z, .inl (cI, 14, .inl (zz_A (Sz))))]) [(o, .inr (5, [.int (zz_I (1)), .ref t, .ref z, .int (zz_I (((k : Nat) : Int))), .ref w, .ref y, .ref d, .int (zz_I (((bg : Nat) : Int)))])), (t, .inl (cI, 672, .inl (zz_A (T)))), (z, .inl (cI, 14, .inl (zz_A (Sz))))] := hD
    exact W.iret hx hb hr (zz_endw ((1, 0, T, Sz)) (rfl) ⟨Or.inl ⟨fun q => by omega, rfl⟩, hP⟩ hS) hS.2.2 kd_M_type_21
  · refine lv_iload_n hx hb kd_M_type_10 rfl (lv_at hl 2 rfl) ?_
    refine zz_bipush hx hb kd_M_type_11 (by decide) ?_
    refine zz_icmp_le (tgt := 22) hx hb kd_M_type_13 (by decide) (by omega) (fun hbr13 => ?_) (fun hbr13 => ?_)
    · refine zz_iconst hx hb (v := 0) (rfl) kd_M_type_22 ?_
      refine lv_istore hx hb kd_M_type_23 hl (by decide) rfl (fun ls hl => ?_)
      have hl : lv_has ls 5 [(4, .int (zz_I (0))), (0, .ref o), (1, .long (x)), (3, .int (zz_I (n)))] := hl
      have lp25 : ∀ (fuel : Nat) (i : Nat) (ls : Array Slot) (H : Heap) (locs : List Loc), n.toNat - i < fuel → (i ≤ n.toNat) → (ck_bad x i = false) → lv_has ls 5 [(0, .ref o), (1, .long (x)), (3, .int (zz_I (n))), (4, .int (zz_I (((i : Nat) : Int))))] → va_P D kcl [(o, .inr (5, [.int (zz_I (0)), .ref t, .ref z, .int (zz_I (((k : Nat) : Int))), .ref w, .ref y, .ref d, .int (zz_I (((bg : Nat) : Int)))])), (t, .inl (cI, 672, .inl (zz_A (T)))), (z, .inl (cI, 14, .inl (zz_A (Sz))))] H → va_D (zz_F [(o, .inr (5, [.int (zz_I (th)), .ref t, .ref z, .int (zz_I (((k : Nat) : Int))), .ref w, .ref y, .ref d, .int (zz_I (((bg : Nat) : Int)))])), (t, .inl (cI, 672, .inl (zz_A (T)))), (z, .inl (cI, 14, .inl (zz_A (Sz))))]) [(o, .inr (5, [.int (zz_I (0)), .ref t, .ref z, .int (zz_I (((k : Nat) : Int))), .ref w, .ref y, .ref d, .int (zz_I (((bg : Nat) : Int)))])), (t, .inl (cI, 672, .inl (zz_A (T)))), (z, .inl (cI, 14, .inl (zz_A (Sz))))] → va_S (zz_F [(o, .inr (5, [.int (zz_I (th)), .ref t, .ref z, .int (zz_I (((k : Nat) : Int))), .ref w, .ref y, .ref d, .int (zz_I (((bg : Nat) : Int)))])), (t, .inl (cI, 672, .inl (zz_A (T)))), (z, .inl (cI, 14, .inl (zz_A (Sz))))]) sg.heap H locs → W pg l ev (headSpec kv_M_type ({ frames := 1, cells := 0, slots := 0, locals := 21 })).room sg mg [.ref o, .long (x), .int (zz_I (n))].toArray bl mt cd H locs 0 0 (MQ bl (zz_Qw (fun (u : Int × Int × (Nat → Int) × (Nat → Int)) => some (.int (zz_I u.2.1))) (fun (u : Int × Int × (Nat → Int) × (Nat → Int)) H => ((¬ (1 ≤ n ∧ n ≤ 8 ∧ ck_bad x n.toNat = false) ∧ u = (1, 0, T, Sz)) ∨ ((1 ≤ n ∧ n ≤ 8 ∧ ck_bad x n.toNat = false) ∧ 48 < ((s : Nat) : Int) + n ∧ u = (2, 0, T, Sz)) ∨ ((1 ≤ n ∧ n ≤ 8 ∧ ck_bad x n.toNat = false) ∧ ((s : Nat) : Int) + n ≤ 48 ∧ u = (0, ((s + n.toNat : Nat) : Int), ck_ty T x s n.toNat n.toNat, zz_u Sz 12 ((s + n.toNat : Nat) : Int)))) ∧ va_P D kcl [(o, .inr (5, [.int (zz_I (u.1)), .ref t, .ref z, .int (zz_I (((k : Nat) : Int))), .ref w, .ref y, .ref d, .int (zz_I (((bg : Nat) : Int)))])), (t, .inl (cI, 672, .inl (zz_A (u.2.2.1)))), (z, .inl (cI, 14, .inl (zz_A (u.2.2.2))))] H) (zz_F [(o, .inr (5, [.int (zz_I (th)), .ref t, .ref z, .int (zz_I (((k : Nat) : Int))), .ref w, .ref y, .ref d, .int (zz_I (((bg : Nat) : Int)))])), (t, .inl (cI, 672, .inl (zz_A (T)))), (z, .inl (cI, 14, .inl (zz_A (Sz))))])) [.ref o, .long (x), .int (zz_I (n))].toArray sg 0 0 (zz_F [(o, .inr (5, [.int (zz_I (th)), .ref t, .ref z, .int (zz_I (((k : Nat) : Int))), .ref w, .ref y, .ref d, .int (zz_I (((bg : Nat) : Int)))])), (t, .inl (cI, 672, .inl (zz_A (T)))), (z, .inl (cI, 14, .inl (zz_A (Sz))))])) (F0 mg 25 ls []) := by
        intro fuel
        induction fuel with
        | zero => intro i ls H locs hfu; exact absurd hfu (Nat.not_lt_zero _)
        | succ fuel ih25 =>
          intro i ls H locs hfu hi hq hl hP hD hS
          refine lv_iload hx hb kd_M_type_25 (lv_at hl 3 rfl) ?_
          refine lv_iload_n hx hb kd_M_type_27 rfl (lv_at hl 2 rfl) ?_
          refine zz_cast (y := ((n.toNat : Nat) : Int)) (by omega) ?_
          refine zz_icmp_ge (tgt := 61) hx hb kd_M_type_28 (by decide) (by omega) (fun hbr28 => ?_) (fun hbr28 => ?_)
          · have hok : 1 ≤ n ∧ n ≤ 8 ∧ ck_bad x n.toNat = false := ⟨by omega, by omega, by have e : i = n.toNat := (by omega); rw [← e]; exact hq⟩
            refine lv_aload_n hx hb kd_M_type_61 rfl (lv_at hl 0 rfl) ?_
            refine va_get (D := D) (ci := 5) (v := .ref z) (C := kn_M) (T := kf_M) (N := 8) hx hb hts ki_M hown hK hP 0 rfl rfl 2 (by decide) (hts _ kw_603) (fun _ h9 => h9) rfl kd_M_type_62 ?_
            refine zz_bipush hx hb kd_M_type_65 (by decide) ?_
            refine zz_iald hx hb hK hP 2 0 rfl rfl (by omega) (v := ((s : Nat) : Int)) (hs_G) kd_M_type_67 ?_
            refine lv_iload_n hx hb kd_M_type_68 rfl (lv_at hl 2 rfl) ?_
            refine zz_iadd hx hb (v := ((s : Nat) : Int) + n) (rfl) kd_M_type_69 ?_
            refine zz_bipush hx hb kd_M_type_70 (by decide) ?_
            refine zz_icmp_le (tgt := 81) hx hb kd_M_type_72 (by decide) (by omega) (fun hbr72 => ?_) (fun hbr72 => ?_)
            · refine lv_iload_n hx hb kd_M_type_81 rfl (lv_at hl 2 rfl) ?_
              refine zz_cast (y := ((n.toNat : Nat) : Int)) (by omega) ?_
              refine zz_iconst hx hb (v := 1) (rfl) kd_M_type_82 ?_
              refine zz_isub hx hb (v := ((n.toNat : Nat) : Int) - 1) (rfl) kd_M_type_83 ?_
              refine lv_istore hx hb kd_M_type_84 hl (by decide) rfl (fun ls hl => ?_)
              have hl : lv_has ls 5 [(4, .int (zz_I (((n.toNat : Nat) : Int) - 1))), (0, .ref o), (1, .long (x)), (3, .int (zz_I (n)))] := hl
              have lp86 : ∀ (fuel : Nat) (j : Nat) (ls : Array Slot) (H : Heap) (locs : List Loc), n.toNat - j < fuel → (j ≤ n.toNat) → lv_has ls 5 [(0, .ref o), (1, .long (x)), (3, .int (zz_I (n))), (4, .int (zz_I (((n.toNat : Nat) : Int) - 1 - ((j : Nat) : Int))))] → va_P D kcl [(o, .inr (5, [.int (zz_I (0)), .ref t, .ref z, .int (zz_I (((k : Nat) : Int))), .ref w, .ref y, .ref d, .int (zz_I (((bg : Nat) : Int)))])), (t, .inl (cI, 672, .inl (zz_A (ck_ty T x s n.toNat j)))), (z, .inl (cI, 14, .inl (zz_A (zz_u Sz 12 ((s + j : Nat) : Int)))))] H → va_D (zz_F [(o, .inr (5, [.int (zz_I (th)), .ref t, .ref z, .int (zz_I (((k : Nat) : Int))), .ref w, .ref y, .ref d, .int (zz_I (((bg : Nat) : Int)))])), (t, .inl (cI, 672, .inl (zz_A (T)))), (z, .inl (cI, 14, .inl (zz_A (Sz))))]) [(o, .inr (5, [.int (zz_I (0)), .ref t, .ref z, .int (zz_I (((k : Nat) : Int))), .ref w, .ref y, .ref d, .int (zz_I (((bg : Nat) : Int)))])), (t, .inl (cI, 672, .inl (zz_A (ck_ty T x s n.toNat j)))), (z, .inl (cI, 14, .inl (zz_A (zz_u Sz 12 ((s + j : Nat) : Int)))))] → va_S (zz_F [(o, .inr (5, [.int (zz_I (th)), .ref t, .ref z, .int (zz_I (((k : Nat) : Int))), .ref w, .ref y, .ref d, .int (zz_I (((bg : Nat) : Int)))])), (t, .inl (cI, 672, .inl (zz_A (T)))), (z, .inl (cI, 14, .inl (zz_A (Sz))))]) sg.heap H locs → W pg l ev (headSpec kv_M_type ({ frames := 1, cells := 0, slots := 0, locals := 21 })).room sg mg [.ref o, .long (x), .int (zz_I (n))].toArray bl mt cd H locs 0 0 (MQ bl (zz_Qw (fun (u : Int × Int × (Nat → Int) × (Nat → Int)) => some (.int (zz_I u.2.1))) (fun (u : Int × Int × (Nat → Int) × (Nat → Int)) H => ((¬ (1 ≤ n ∧ n ≤ 8 ∧ ck_bad x n.toNat = false) ∧ u = (1, 0, T, Sz)) ∨ ((1 ≤ n ∧ n ≤ 8 ∧ ck_bad x n.toNat = false) ∧ 48 < ((s : Nat) : Int) + n ∧ u = (2, 0, T, Sz)) ∨ ((1 ≤ n ∧ n ≤ 8 ∧ ck_bad x n.toNat = false) ∧ ((s : Nat) : Int) + n ≤ 48 ∧ u = (0, ((s + n.toNat : Nat) : Int), ck_ty T x s n.toNat n.toNat, zz_u Sz 12 ((s + n.toNat : Nat) : Int)))) ∧ va_P D kcl [(o, .inr (5, [.int (zz_I (u.1)), .ref t, .ref z, .int (zz_I (((k : Nat) : Int))), .ref w, .ref y, .ref d, .int (zz_I (((bg : Nat) : Int)))])), (t, .inl (cI, 672, .inl (zz_A (u.2.2.1)))), (z, .inl (cI, 14, .inl (zz_A (u.2.2.2))))] H) (zz_F [(o, .inr (5, [.int (zz_I (th)), .ref t, .ref z, .int (zz_I (((k : Nat) : Int))), .ref w, .ref y, .ref d, .int (zz_I (((bg : Nat) : Int)))])), (t, .inl (cI, 672, .inl (zz_A (T)))), (z, .inl (cI, 14, .inl (zz_A (Sz))))])) [.ref o, .long (x), .int (zz_I (n))].toArray sg 0 0 (zz_F [(o, .inr (5, [.int (zz_I (th)), .ref t, .ref z, .int (zz_I (((k : Nat) : Int))), .ref w, .ref y, .ref d, .int (zz_I (((bg : Nat) : Int)))])), (t, .inl (cI, 672, .inl (zz_A (T)))), (z, .inl (cI, 14, .inl (zz_A (Sz))))])) (F0 mg 86 ls []) := by
                intro fuel
                induction fuel with
                | zero => intro j ls H locs hfu; exact absurd hfu (Nat.not_lt_zero _)
                | succ fuel ih86 =>
                  intro j ls H locs hfu hj hl hP hD hS
                  refine lv_iload hx hb kd_M_type_86 (lv_at hl 3 rfl) ?_
                  refine zz_if_lt (tgt := 136) hx hb kd_M_type_88 (by decide) (by omega) (fun hbr88 => ?_) (fun hbr88 => ?_)
                  · refine lv_aload_n hx hb kd_M_type_136 rfl (lv_at hl 0 rfl) ?_
                    refine va_get (D := D) (ci := 5) (v := .ref z) (C := kn_M) (T := kf_M) (N := 8) hx hb hts ki_M hown hK hP 0 rfl rfl 2 (by decide) (hts _ kw_603) (fun _ h9 => h9) rfl kd_M_type_137 ?_
                    refine zz_bipush hx hb kd_M_type_140 (by decide) ?_
                    refine zz_iald hx hb hK hP 2 0 rfl rfl (by omega) (v := ((s + j : Nat) : Int)) (zz_us) kd_M_type_142 ?_
                    have e : j = n.toNat := by omega
                    rw [e] at hP
                    exact W.iret hx hb hr (zz_endw ((0, ((s + n.toNat : Nat) : Int), ck_ty T x s n.toNat n.toNat, zz_u Sz 12 ((s + n.toNat : Nat) : Int))) (by have e : j = n.toNat := (by omega); rw [e]) ⟨Or.inr (Or.inr ⟨hok, by omega, rfl⟩), hP⟩ hS) hS.2.2 kd_M_type_143
                  · refine lv_aload_n hx hb kd_M_type_91 rfl (lv_at hl 0 rfl) ?_
                    refine va_get (D := D) (ci := 5) (v := .ref t) (C := kn_M) (T := kf_M) (N := 8) hx hb hts ki_M hown hK hP 0 rfl rfl 1 (by decide) (hts _ kw_602) (fun _ h9 => h9) rfl kd_M_type_92 ?_
                    refine zz_sipush hx hb kd_M_type_95 (by decide) ?_
                    refine lv_aload_n hx hb kd_M_type_98 rfl (lv_at hl 0 rfl) ?_
                    refine va_get (D := D) (ci := 5) (v := .ref z) (C := kn_M) (T := kf_M) (N := 8) hx hb hts ki_M hown hK hP 0 rfl rfl 2 (by decide) (hts _ kw_603) (fun _ h9 => h9) rfl kd_M_type_99 ?_
                    refine zz_bipush hx hb kd_M_type_102 (by decide) ?_
                    refine zz_iald hx hb hK hP 2 0 rfl rfl (by omega) (v := ((s + j : Nat) : Int)) (zz_us) kd_M_type_104 ?_
                    refine zz_iadd hx hb (v := ((576 + (s + j) : Nat) : Int)) (by omega) kd_M_type_105 ?_
                    refine lv_lload_n hx hb kd_M_type_106 rfl (lv_at hl 1 rfl) ?_
                    refine zz_bipush hx hb kd_M_type_107 (by decide) ?_
                    refine lv_iload hx hb kd_M_type_109 (lv_at hl 3 rfl) ?_
                    refine zz_imul hx hb (v := ((8 * (n.toNat - 1 - j) : Nat) : Int)) (by omega) kd_M_type_111 ?_
                    refine lv_lshr hx hb kd_M_type_112 (v := ((x) >>> ((zz_I (((8 * (n.toNat - 1 - j) : Nat) : Int))).toInt64 &&& 63))) rfl ?_
                    refine lv_ldc2 (v := 255) hx hb hown (hts _ kw_638) kd_M_type_113 ?_
                    refine lv_land hx hb kd_M_type_116 ?_
                    refine zz_castl (y := Int64.ofNat (ck_by x (n.toNat - 1 - j))) (ck_by_s x (by omega)) ?_
                    refine lv_l2i hx hb kd_M_type_117 rfl ?_
                    refine zz_castr (y := ((ck_by x (n.toNat - 1 - j) : Nat) : Int)) (ck_by_l) ?_
                    refine zz_iast (k := 576 + (s + j)) hx hb hK hP hD hS 1 0 rfl rfl (by omega) (rfl) kd_M_type_118 (fun H locs hP hD hS => ?_)
                    have hP : va_P D kcl [(o, .inr (5, [.int (zz_I (0)), .ref t, .ref z, .int (zz_I (((k : Nat) : Int))), .ref w, .ref y, .ref d, .int (zz_I (((bg : Nat) : Int)))])), (t, .inl (cI, 672, .inl (zz_A (zz_u (ck_ty T x s n.toNat j) (576 + (s + j)) (((ck_by x (n.toNat - 1 - j) : Nat) : Int)))))), (z, .inl (cI, 14, .inl (zz_A (zz_u Sz 12 ((s + j : Nat) : Int)))))] H := hP
                    have hD : va_D (zz_F [(o, .inr (5, [.int (zz_I (th)), .ref t, .ref z, .int (zz_I (((k : Nat) : Int))), .ref w, .ref y, .ref d, .int (zz_I (((bg : Nat) : Int)))])), (t, .inl (cI, 672, .inl (zz_A (T)))), (z, .inl (cI, 14, .inl (zz_A (Sz))))]) [(o, .inr (5, [.int (zz_I (0)), .ref t, .ref z, .int (zz_I (((k : Nat) : Int))), .ref w, .ref y, .ref d, .int (zz_I (((bg : Nat) : Int)))])), (t, .inl (cI, 672, .inl (zz_A (zz_u (ck_ty T x s n.toNat j) (576 + (s + j)) (((ck_by x (n.toNat - 1 - j) : Nat) : Int)))))), (z, .inl (cI, 14, .inl (zz_A (zz_u Sz 12 ((s + j : Nat) : Int)))))] := hD
                    refine lv_aload_n hx hb kd_M_type_119 rfl (lv_at hl 0 rfl) ?_
                    refine va_get (D := D) (ci := 5) (v := .ref z) (C := kn_M) (T := kf_M) (N := 8) hx hb hts ki_M hown hK hP 0 rfl rfl 2 (by decide) (hts _ kw_603) (fun _ h9 => h9) rfl kd_M_type_120 ?_
                    refine zz_bipush hx hb kd_M_type_123 (by decide) ?_
                    refine lv_dup2_11 hx hb kd_M_type_125 rfl rfl ?_
                    refine zz_iald hx hb hK hP 2 0 rfl rfl (by omega) (v := ((s + j : Nat) : Int)) (zz_us) kd_M_type_126 ?_
                    refine zz_iconst hx hb (v := 1) (rfl) kd_M_type_127 ?_
                    refine zz_iadd hx hb (v := ((s + (j + 1) : Nat) : Int)) (by omega) kd_M_type_128 ?_
                    refine zz_iast (k := 12) hx hb hK hP hD hS 2 0 rfl rfl (by omega) (rfl) kd_M_type_129 (fun H locs hP hD hS => ?_)
                    have hP : va_P D kcl [(o, .inr (5, [.int (zz_I (0)), .ref t, .ref z, .int (zz_I (((k : Nat) : Int))), .ref w, .ref y, .ref d, .int (zz_I (((bg : Nat) : Int)))])), (t, .inl (cI, 672, .inl (zz_A (zz_u (ck_ty T x s n.toNat j) (576 + (s + j)) (((ck_by x (n.toNat - 1 - j) : Nat) : Int)))))), (z, .inl (cI, 14, .inl (zz_A (zz_u (zz_u Sz 12 ((s + j : Nat) : Int)) 12 (((s + (j + 1) : Nat) : Int))))))] H := hP
                    have hD : va_D (zz_F [(o, .inr (5, [.int (zz_I (th)), .ref t, .ref z, .int (zz_I (((k : Nat) : Int))), .ref w, .ref y, .ref d, .int (zz_I (((bg : Nat) : Int)))])), (t, .inl (cI, 672, .inl (zz_A (T)))), (z, .inl (cI, 14, .inl (zz_A (Sz))))]) [(o, .inr (5, [.int (zz_I (0)), .ref t, .ref z, .int (zz_I (((k : Nat) : Int))), .ref w, .ref y, .ref d, .int (zz_I (((bg : Nat) : Int)))])), (t, .inl (cI, 672, .inl (zz_A (zz_u (ck_ty T x s n.toNat j) (576 + (s + j)) (((ck_by x (n.toNat - 1 - j) : Nat) : Int)))))), (z, .inl (cI, 14, .inl (zz_A (zz_u (zz_u Sz 12 ((s + j : Nat) : Int)) 12 (((s + (j + 1) : Nat) : Int))))))] := hD
                    refine zz_iinc (k := 3) hx hb kd_M_type_130 hl rfl rfl (by decide) rfl (fun ls hl => ?_)
                    have hl : lv_has ls 5 [(4, .int (zz_I ((((n.toNat : Nat) : Int) - 1 - ((j : Nat) : Int)) + (-1)))), (0, .ref o), (1, .long (x)), (3, .int (zz_I (n)))] := hl
                    refine lv_goto (tgt := 86) hx hb kd_M_type_133 (by decide) ?_
                    rw [ck_ty_s, zz_uu] at hP hD
                    rw [show ((n.toNat : Nat) : Int) - 1 - ((j : Nat) : Int) + (-1) = ((n.toNat : Nat) : Int) - 1 - ((j + 1 : Nat) : Int) by omega] at hl
                    exact ih86 (j + 1) ls _ _ (by omega) (by omega) (lv_sub hl [1, 2, 3, 0] rfl) hP hD hS
              rw [show ((n.toNat : Nat) : Int) - 1 = ((n.toNat : Nat) : Int) - 1 - ((0 : Nat) : Int) by omega] at hl
              have hP : va_P D kcl [(o, .inr (5, [.int (zz_I (0)), .ref t, .ref z, .int (zz_I (((k : Nat) : Int))), .ref w, .ref y, .ref d, .int (zz_I (((bg : Nat) : Int)))])), (t, .inl (cI, 672, .inl (zz_A (ck_ty T x s n.toNat 0)))), (z, .inl (cI, 14, .inl (zz_A (zz_u Sz 12 ((s + 0 : Nat) : Int)))))] H := by rw [ck_ty_0, show zz_u Sz 12 ((s + 0 : Nat) : Int) = Sz from ck_u_id hs_G]; exact hP
              have hD : va_D (zz_F [(o, .inr (5, [.int (zz_I (th)), .ref t, .ref z, .int (zz_I (((k : Nat) : Int))), .ref w, .ref y, .ref d, .int (zz_I (((bg : Nat) : Int)))])), (t, .inl (cI, 672, .inl (zz_A (T)))), (z, .inl (cI, 14, .inl (zz_A (Sz))))]) [(o, .inr (5, [.int (zz_I (0)), .ref t, .ref z, .int (zz_I (((k : Nat) : Int))), .ref w, .ref y, .ref d, .int (zz_I (((bg : Nat) : Int)))])), (t, .inl (cI, 672, .inl (zz_A (ck_ty T x s n.toNat 0)))), (z, .inl (cI, 14, .inl (zz_A (zz_u Sz 12 ((s + 0 : Nat) : Int)))))] := by rw [ck_ty_0, show zz_u Sz 12 ((s + 0 : Nat) : Int) = Sz from ck_u_id hs_G]; exact hD
              exact lp86 _ 0 ls _ _ (Nat.lt_succ_self _) (Nat.zero_le _) (lv_sub hl [1, 2, 3, 0] rfl) hP hD hS
            · refine lv_aload_n hx hb kd_M_type_75 rfl (lv_at hl 0 rfl) ?_
              refine zz_iconst hx hb (v := 2) (rfl) kd_M_type_76 ?_
              refine zz_wV ⟨hx, hb, hml, hown, hts⟩ hK (kc_M_refuse l D cI cW o t z w y d 0 k bg 2  (hN.sub [0] rfl rfl)) (zz_gV kw_634 kw_636 kw_6 kw_31 kw_637) ⟨rfl, rfl⟩ ⟨rfl, kh_M_refuse⟩ ⟨Nat.le_of_ble_eq_true rfl, Nat.le_of_ble_eq_true rfl⟩ (va_recv (q := (kn_M, kf_M, 8)) hK hP rfl (show ([(o, .inr (5, [.int (zz_I (0)), .ref t, .ref z, .int (zz_I (((k : Nat) : Int))), .ref w, .ref y, .ref d, .int (zz_I (((bg : Nat) : Int)))])), (t, .inl (cI, 672, .inl (zz_A (T)))), (z, .inl (cI, 14, .inl (zz_A (Sz))))] : va_W)[0]? = some _ from rfl)) hP hD hS [0] rfl rfl (fun _ => rfl) rfl hl.1 rfl (Nat.le_of_ble_eq_true rfl) kd_M_type_77 ⟨Nat.le_of_ble_eq_true rfl, Nat.le_of_ble_eq_true rfl⟩ (fun u77 H locs hu77 hP hD hS => ?_)
              have hP : va_P D kcl [(o, .inr (5, [.int (zz_I (2)), .ref t, .ref z, .int (zz_I (((k : Nat) : Int))), .ref w, .ref y, .ref d, .int (zz_I (((bg : Nat) : Int)))])), (t, .inl (cI, 672, .inl (zz_A (T)))), (z, .inl (cI, 14, .inl (zz_A (Sz))))] H := hP
              have hD : va_D (zz_F [(o, .inr (5, [.int (zz_I (th)), .ref t, .ref z, .int (zz_I (((k : Nat) : Int))), .ref w, .ref y, .ref d, .int (zz_I (((bg : Nat) : Int)))])), (t, .inl (cI, 672, .inl (zz_A (T)))), (z, .inl (cI, 14, .inl (zz_A (Sz))))]) [(o, .inr (5, [.int (zz_I (2)), .ref t, .ref z, .int (zz_I (((k : Nat) : Int))), .ref w, .ref y, .ref d, .int (zz_I (((bg : Nat) : Int)))])), (t, .inl (cI, 672, .inl (zz_A (T)))), (z, .inl (cI, 14, .inl (zz_A (Sz))))] := hD
              exact W.iret hx hb hr (zz_endw ((2, 0, T, Sz)) (rfl) ⟨Or.inr (Or.inl ⟨hok, by omega, rfl⟩), hP⟩ hS) hS.2.2 kd_M_type_80
          · refine lv_lload_n hx hb kd_M_type_31 rfl (lv_at hl 1 rfl) ?_
            refine zz_bipush hx hb kd_M_type_32 (by decide) ?_
            refine lv_iload hx hb kd_M_type_34 (lv_at hl 3 rfl) ?_
            refine zz_imul hx hb (v := ((8 * i : Nat) : Int)) (by omega) kd_M_type_36 ?_
            refine lv_lshr hx hb kd_M_type_37 (v := ((x) >>> ((zz_I (((8 * i : Nat) : Int))).toInt64 &&& 63))) rfl ?_
            refine lv_ldc2 (v := 255) hx hb hown (hts _ kw_638) kd_M_type_38 ?_
            refine lv_land hx hb kd_M_type_41 ?_
            refine zz_castl (y := Int64.ofNat (ck_by x i)) (ck_by_s x (by omega)) ?_
            refine lv_ldc2 (v := 127) hx hb hown (hts _ kw_639) kd_M_type_42 ?_
            refine W.lcmp hx hb kd_M_type_45 ?_
            refine zz_castr (y := ck_lc (ck_by x i)) (ck_lcmp _ (ck_by_lt x i)) ?_
            refine zz_if_le (tgt := 55) hx hb kd_M_type_46 (by decide) (by have := ck_lc_rg (ck_by x i); omega) (fun hbr46 => ?_) (fun hbr46 => ?_)
            · have hle : ck_by x i ≤ 127 := (ck_lc_rg _).1.mp (by omega)
              refine zz_iinc (k := 3) hx hb kd_M_type_55 hl rfl rfl (by decide) rfl (fun ls hl => ?_)
              have hl : lv_has ls 5 [(4, .int (zz_I (((i : Nat) : Int) + 1))), (0, .ref o), (1, .long (x)), (3, .int (zz_I (n)))] := hl
              refine lv_goto (tgt := 25) hx hb kd_M_type_58 (by decide) ?_
              exact ih25 (i + 1) ls _ _ (by omega) (by omega) (ck_anyN_no hq (decide_eq_false (by omega))) (lv_sub hl [1, 2, 3, 0] rfl) hP hD hS
            · have hbx : ck_bad x n.toNat = true := ck_anyN_up (P := fun j => decide (127 < ck_by x j)) (k := i) (decide_eq_true (by have := ck_lc_rg (ck_by x i); omega)) n.toNat (by omega)
              refine lv_aload_n hx hb kd_M_type_49 rfl (lv_at hl 0 rfl) ?_
              refine zz_iconst hx hb (v := 1) (rfl) kd_M_type_50 ?_
              refine zz_wV ⟨hx, hb, hml, hown, hts⟩ hK (kc_M_refuse l D cI cW o t z w y d 0 k bg 1  (hN.sub [0] rfl rfl)) (zz_gV kw_634 kw_636 kw_6 kw_31 kw_637) ⟨rfl, rfl⟩ ⟨rfl, kh_M_refuse⟩ ⟨Nat.le_of_ble_eq_true rfl, Nat.le_of_ble_eq_true rfl⟩ (va_recv (q := (kn_M, kf_M, 8)) hK hP rfl (show ([(o, .inr (5, [.int (zz_I (0)), .ref t, .ref z, .int (zz_I (((k : Nat) : Int))), .ref w, .ref y, .ref d, .int (zz_I (((bg : Nat) : Int)))])), (t, .inl (cI, 672, .inl (zz_A (T)))), (z, .inl (cI, 14, .inl (zz_A (Sz))))] : va_W)[0]? = some _ from rfl)) hP hD hS [0] rfl rfl (fun _ => rfl) rfl hl.1 rfl (Nat.le_of_ble_eq_true rfl) kd_M_type_51 ⟨Nat.le_of_ble_eq_true rfl, Nat.le_of_ble_eq_true rfl⟩ (fun u51 H locs hu51 hP hD hS => ?_)
              have hP : va_P D kcl [(o, .inr (5, [.int (zz_I (1)), .ref t, .ref z, .int (zz_I (((k : Nat) : Int))), .ref w, .ref y, .ref d, .int (zz_I (((bg : Nat) : Int)))])), (t, .inl (cI, 672, .inl (zz_A (T)))), (z, .inl (cI, 14, .inl (zz_A (Sz))))] H := hP
              have hD : va_D (zz_F [(o, .inr (5, [.int (zz_I (th)), .ref t, .ref z, .int (zz_I (((k : Nat) : Int))), .ref w, .ref y, .ref d, .int (zz_I (((bg : Nat) : Int)))])), (t, .inl (cI, 672, .inl (zz_A (T)))), (z, .inl (cI, 14, .inl (zz_A (Sz))))]) [(o, .inr (5, [.int (zz_I (1)), .ref t, .ref z, .int (zz_I (((k : Nat) : Int))), .ref w, .ref y, .ref d, .int (zz_I (((bg : Nat) : Int)))])), (t, .inl (cI, 672, .inl (zz_A (T)))), (z, .inl (cI, 14, .inl (zz_A (Sz))))] := hD
              exact W.iret hx hb hr (zz_endw ((1, 0, T, Sz)) (rfl) ⟨Or.inl ⟨fun q => by rw [hbx] at q; exact Bool.noConfusion q.2.2, rfl⟩, hP⟩ hS) hS.2.2 kd_M_type_54
      exact lp25 _ 0 ls _ _ (Nat.lt_succ_self _) (Nat.zero_le _) (rfl) (lv_sub hl [1, 2, 3, 0] rfl) hP hD hS
    · refine lv_aload_n hx hb kd_M_type_16 rfl (lv_at hl 0 rfl) ?_
      refine zz_iconst hx hb (v := 1) (rfl) kd_M_type_17 ?_
      refine zz_wV ⟨hx, hb, hml, hown, hts⟩ hK (kc_M_refuse l D cI cW o t z w y d 0 k bg 1  (hN.sub [0] rfl rfl)) (zz_gV kw_634 kw_636 kw_6 kw_31 kw_637) ⟨rfl, rfl⟩ ⟨rfl, kh_M_refuse⟩ ⟨Nat.le_of_ble_eq_true rfl, Nat.le_of_ble_eq_true rfl⟩ (va_recv (q := (kn_M, kf_M, 8)) hK hP rfl (show ([(o, .inr (5, [.int (zz_I (0)), .ref t, .ref z, .int (zz_I (((k : Nat) : Int))), .ref w, .ref y, .ref d, .int (zz_I (((bg : Nat) : Int)))])), (t, .inl (cI, 672, .inl (zz_A (T)))), (z, .inl (cI, 14, .inl (zz_A (Sz))))] : va_W)[0]? = some _ from rfl)) hP hD hS [0] rfl rfl (fun _ => rfl) rfl hl.1 rfl (Nat.le_of_ble_eq_true rfl) kd_M_type_18 ⟨Nat.le_of_ble_eq_true rfl, Nat.le_of_ble_eq_true rfl⟩ (fun u18 H locs hu18 hP hD hS => ?_)
      have hP : va_P D kcl [(o, .inr (5, [.int (zz_I (1)), .ref t, .ref z, .int (zz_I (((k : Nat) : Int))), .ref w, .ref y, .ref d, .int (zz_I (((bg : Nat) : Int)))])), (t, .inl (cI, 672, .inl (zz_A (T)))), (z, .inl (cI, 14, .inl (zz_A (Sz))))] H := hP
      have hD : va_D (zz_F [(o, .inr (5, [.int (zz_I (th)), .ref t, .ref z, .int (zz_I (((k : Nat) : Int))), .ref w, .ref y, .ref d, .int (zz_I (((bg : Nat) : Int)))])), (t, .inl (cI, 672, .inl (zz_A (T)))), (z, .inl (cI, 14, .inl (zz_A (Sz))))]) [(o, .inr (5, [.int (zz_I (1)), .ref t, .ref z, .int (zz_I (((k : Nat) : Int))), .ref w, .ref y, .ref d, .int (zz_I (((bg : Nat) : Int)))])), (t, .inl (cI, 672, .inl (zz_A (T)))), (z, .inl (cI, 14, .inl (zz_A (Sz))))] := hD
      exact W.iret hx hb hr (zz_endw ((1, 0, T, Sz)) (rfl) ⟨Or.inl ⟨fun q => by omega, rfl⟩, hP⟩ hS) hS.2.2 kd_M_type_21
