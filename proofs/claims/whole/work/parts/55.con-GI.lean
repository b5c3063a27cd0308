set_option maxHeartbeats 4000000 in
set_option maxRecDepth 100000 in
theorem kc_G_init (l : Launch) (D : va_G) (cI cW : ClassId) (a : Nat) (sz : Nat) : Met l ky_G_init kv_G_init ({ frames := 3, cells := 61, slots := 2388, locals := 61 }) (va_Pc [.ref a] (zz_C D cI cW sz a (va_P D kcl [(a, .inr (0, [.null, .int (zz_I (0))]))]))) (zz_Qc sz 61 a (va_P D kcl ((a, .inr (0, [.ref sz, .int (zz_I (((0 : Nat) : Int)))])) :: (sz, .inl (cW, 12, .inr (.inr (.inr (.inr (fun jq => some (ck_n0 sz jq).1)))))) :: ck_nl cI sz 12))) 61 2388 (zz_Fc sz a) := by
  refine Met.ofW (cc := kb_G_init) (maxL := 2) (ret := none) (by decide) rfl ?_
  intro pg ev sg mg ag bl mt cd s1 Bd hml hv
  obtain ⟨rfl, hsz, hal, hP, hK, hAO⟩ := hv
  have hZ := hsz
  have hin : mt.name = "<init>" := (name_of_methodNamed Bd.named Bd.method).1
  have hP : va_P D kcl [(a, .inr (0, [.null, .int (zz_I (0))]))] sg.heap := hP
  have hx := Bd.exec
  have hb := Bd.bytes
  have hr := Bd.returns
  have hlocks := Bd.notSynchronized
  have hts : ∀ w ∈ zz_tbl, w.before _ sg = true := fun w h => atoms_spec (ws := kv_G_init) Bd.pre w (List.mem_cons_of_mem _ h)
  have hown : sg.vm.findClass kn_G = some mg.cls := findClass_of_methodNamed Bd.named
  have hD : va_D (zz_Fc sz a) [(a, .inr (0, [.null, .int (zz_I (0))]))] := zz_D1
  have hS : va_S (zz_Fc sz a) sg.heap sg.heap [] := va_S.rf
  have hl := lv_entry ([.ref a]) (n := 2) (Nat.le_of_ble_eq_true rfl)
  rw [lg_entry_eq]
  generalize (lg_sl ([.ref a]) ++ List.replicate (2 - (lg_sl ([.ref a])).length) Slot.unset).toArray = ls at hl ⊢
  have hl : lv_has ls 2 [(0, .ref a)] := hl
  refine lv_aload_n hx hb kd_G_init_0 rfl (lv_at hl 0 rfl) ?_
  refine W.objInit hx hb hown (hts _ kw_82) (hts _ kw_48) (hts _ kw_49) rfl (by rw [hml]; exact hl.1) rfl kd_G_init_1 (Nat.le_of_ble_eq_true rfl) (Nat.le_of_ble_eq_true rfl) ?_
  refine W.eq (g2 := F0 mg 4 ls []) rfl ?_
  refine lv_aload_n hx hb kd_G_init_4 rfl (lv_at hl 0 rfl) ?_
  refine zz_bipush hx hb kd_G_init_5 (by decide) ?_
  refine zz_newq (h := sz) (N := 12) hx hb hown (hts _ kw_83) hAO hK 1 rfl hP hD hS hZ (Or.inr (by omega)) (by omega) (Nat.le_of_ble_eq_true rfl) (Nat.le_of_ble_eq_true rfl) kd_G_init_7 (fun H hZ hP hD hS => ?_)
  have hP : va_P D kcl [(a, .inr (0, [.null, .int (zz_I (0))])), (sz, .inl (cW, 12, .inr (.inr (.inr (.inr (fun _ => none))))))] H := hP
  have hD : va_D (zz_Fc sz a) [(a, .inr (0, [.null, .int (zz_I (0))])), (sz, .inl (cW, 12, .inr (.inr (.inr (.inr (fun _ => none))))))] := hD
  refine zz_putFZ (D := D) (ci := 0) (v := .ref sz) (ty := .array (.object "LookalikeDesk$Writing")) (C := kn_G) (T := kf_G) (N := 2) hx hb hts ki_G kt_G kk_G km_G hown hK hP hD hS 0 rfl rfl 0 (by decide) (hts _ kw_86) (fun _ h9 => h9) rfl hin rfl (by decide +kernel) rfl rfl (Nat.le_of_ble_eq_true rfl) kd_G_init_10 (fun H locs hE hP hD hS => ?_)
  have hZ : H.size = sz + 1 := hE.trans hZ
  have hP : va_P D kcl [(a, .inr (0, [.ref sz, .int (zz_I (0))])), (sz, .inl (cW, 12, .inr (.inr (.inr (.inr (fun _ => none))))))] H := hP
  have hD : va_D (zz_Fc sz a) [(a, .inr (0, [.ref sz, .int (zz_I (0))])), (sz, .inl (cW, 12, .inr (.inr (.inr (.inr (fun _ => none))))))] := hD
  refine zz_iconst hx hb (v := 0) (rfl) kd_G_init_13 ?_
  refine lv_istore_n hx hb kd_G_init_14 rfl hl (by decide) rfl (fun ls hl => ?_)
  have hl : lv_has ls 2 [(1, .int (zz_I (0))), (0, .ref a)] := hl
  have lp15 : ∀ (fuel : Nat) (i : Nat) (ls : Array Slot) (H : Heap) (locs : List Loc), 12 - i < fuel → i ≤ 12 → lv_has ls 2 [(0, .ref a), (1, .int (zz_I (((i : Nat) : Int))))] → H.size = sz + 1 + 5 * i → va_P D kcl (([(a, .inr (0, [.ref sz, .int (zz_I (0))])), (sz, .inl (cW, 12, .inr (.inr (.inr (.inr (ck_f0 sz i))))))] : va_W) ++ ck_nl cI sz i) H → va_D (zz_Fc sz a) (([(a, .inr (0, [.ref sz, .int (zz_I (0))])), (sz, .inl (cW, 12, .inr (.inr (.inr (.inr (ck_f0 sz i))))))] : va_W) ++ ck_nl cI sz i) → va_S (zz_Fc sz a) sg.heap H locs → W pg l ev (headSpec kv_G_init ({ frames := 3, cells := 61, slots := 2388, locals := 61 })).room sg mg [.ref a].toArray bl mt cd H locs (1 + 5 * i) (12 + 198 * i) (MQ bl (zz_Qc sz 61 a (va_P D kcl ((a, .inr (0, [.ref sz, .int (zz_I (((0 : Nat) : Int)))])) :: (sz, .inl (cW, 12, .inr (.inr (.inr (.inr (fun jq => some (ck_n0 sz jq).1)))))) :: ck_nl cI sz 12))) [.ref a].toArray sg 61 2388 (zz_Fc sz a)) (F0 mg 15 ls []) := by
    intro fuel
    induction fuel with
    | zero => intro i ls H locs hfu; exact absurd hfu (Nat.not_lt_zero _)
    | succ fuel ih =>
      intro i ls H locs hfu hi hl hZ hP hD hS
      refine lv_iload_n hx hb kd_G_init_15 rfl (lv_at hl 1 rfl) ?_
      refine zz_bipush hx hb kd_G_init_16 (by decide) ?_
      refine zz_icmp_ge (tgt := 40) hx hb kd_G_init_18 (by decide) (by omega) (fun hbr => ?_) (fun hbr => ?_)
      · have e : i = 12 := by omega
        subst e
        refine lv_aload_n hx hb kd_G_init_40 rfl (lv_at hl 0 rfl) ?_
        refine zz_iconst hx hb (v := 0) (rfl) kd_G_init_41 ?_
        refine zz_putZ (D := D) (ci := 0) (v := .int (zz_I (0))) (ty := .int) (C := kn_G) (T := kf_G) (N := 2) hx hb hts ki_G kt_G kk_G km_G hown hK hP hD hS 0 rfl rfl 1 (by decide) (hts _ kw_87) (fun _ h9 => h9) rfl (by decide +kernel) rfl rfl (Nat.le_of_ble_eq_true rfl) kd_G_init_42 (fun H locs hE hP hD hS => ?_)
        have hZ : H.size = sz + 61 := by have := hE.trans hZ; omega
        have hP : va_P D kcl (([(a, .inr (0, [.ref sz, .int (zz_I (0))])), (sz, .inl (cW, 12, .inr (.inr (.inr (.inr (ck_f0 sz 12))))))] : va_W) ++ ck_nl cI sz 12) H := hP
        have p1 : va_P D kcl [(a, .inr (0, [.ref sz, .int (zz_I (((0 : Nat) : Int)))])), (sz, .inl (cW, 12, .inr (.inr (.inr (.inr (fun jq => some (ck_n0 sz jq).1))))))] H := fun k x hk => by
          rcases k with _ | _ | k
          · cases hk; exact hP 0 _ rfl
          · cases hk
            have h1 : H[sz]? = some (vp_cell cW (12, .inr (.inr (.inr (.inr (ck_f0 sz 12)))))) := hP 1 _ rfl
            show H[sz]? = some (vp_cell _ _)
            rw [h1, zz_cellq (f := ck_f0 sz 12) (f' := fun jq => some (ck_n0 sz jq).1) (fun j hj => by unfold ck_f0; rw [if_pos hj])]
          · cases hk
        have p2 : va_P D kcl (ck_nl cI sz 12) H := fun k x hk => hP (k + 2) x hk
        exact W.vret hx hb hr (zz_endc hsz hZ (by exact p1.app p2) hS) hS.2.2 kd_G_init_45
      · refine lv_aload_n hx hb kd_G_init_21 rfl (lv_at hl 0 rfl) ?_
        refine va_get (D := D) (ci := 0) (v := .ref sz) (C := kn_G) (T := kf_G) (N := 2) hx hb hts ki_G hown hK hP 0 rfl rfl 0 (by decide) (hts _ kw_86) (fun _ h9 => h9) rfl kd_G_init_22 ?_
        refine lv_iload_n hx hb kd_G_init_25 rfl (lv_at hl 1 rfl) ?_
        refine zz_newo (ci := 3) (h := sz + 1 + 5 * i) (fs := [.null, .null]) (C := kn_W) (T := kf_W) (N := 2) hx hb hts ki_W kt_W kk_W hown (hts _ kw_83) (hts _ kw_51) (hts _ kw_27) hK hP hD hS hZ (Or.inr (by omega)) rfl (fun j hj => by rcases j with _ | _ | j; rfl; rfl; omega) (show 1 + 5 * i + 1 ≤ 61 by omega) (show 12 + 198 * i + 2 ≤ 2388 by omega) kd_G_init_26 (fun H hZ hP hD hS => ?_)
        have hP : va_P D kcl (([(a, .inr (0, [.ref sz, .int (zz_I (0))])), (sz, .inl (cW, 12, .inr (.inr (.inr (.inr (ck_f0 sz i)))))), (sz + 1 + 5 * i, .inr (3, [.null, .null]))] : va_W) ++ ck_nl cI sz i) H := hP.swap
        have hD : va_D (zz_Fc sz a) (([(a, .inr (0, [.ref sz, .int (zz_I (0))])), (sz, .inl (cW, 12, .inr (.inr (.inr (.inr (ck_f0 sz i)))))), (sz + 1 + 5 * i, .inr (3, [.null, .null]))] : va_W) ++ ck_nl cI sz i) := hD.swap
        refine lv_dup hx hb kd_G_init_29 rfl ?_
        refine zz_ctor (k := 4) ⟨hx, hb, hml, hown, hts⟩ hK hAO (kc_W_init l D cI cW (sz + 1 + 5 * i) (sz + 1 + 5 * i + 1)) ⟨rfl, rfl⟩ kw_85 kw_53 kw_27 kw_54 rfl kh_W_init ⟨Nat.le_of_ble_eq_true rfl, Nat.le_of_ble_eq_true rfl⟩ hZ (by omega) 2 rfl hP hD hS (fun q hq => Or.inr (by omega)) (zz_Dr (js := [0, 1, 2, 3]) rfl rfl) rfl hl.1 rfl (Nat.le_of_ble_eq_true rfl) kd_G_init_30 ⟨show 1 + 5 * i + 1 + 4 ≤ 61 by omega, show 12 + 198 * i + 2 + 196 ≤ 2388 by omega⟩ (fun H locs hZ hP hD hS => ?_)
        have hP : va_P D kcl ((([(a, .inr (0, [.ref sz, .int (zz_I (0))])), (sz, .inl (cW, 12, .inr (.inr (.inr (.inr (ck_f0 sz i)))))), (sz + 1 + 5 * i, .inr (3, [.ref (sz + 1 + 5 * i + 1), .ref (sz + 1 + 5 * i + 1 + 2)]))] : va_W) ++ ck_nl cI sz i) ++ [(sz + 1 + 5 * i + 1, .inr (1, [.ref (sz + 1 + 5 * i + 1 + 1), .int (zz_I (((0 : Nat) : Int)))])), (sz + 1 + 5 * i + 1 + 1, .inl (cI, 48, .inl (zz_A (ck_z)))), (sz + 1 + 5 * i + 1 + 2, .inr (1, [.ref (sz + 1 + 5 * i + 1 + 3), .int (zz_I (((0 : Nat) : Int)))])), (sz + 1 + 5 * i + 1 + 3, .inl (cI, 144, .inl (zz_A (ck_z))))]) H := hP
        have hD : va_D (zz_Fc sz a) ((([(a, .inr (0, [.ref sz, .int (zz_I (0))])), (sz, .inl (cW, 12, .inr (.inr (.inr (.inr (ck_f0 sz i)))))), (sz + 1 + 5 * i, .inr (3, [.ref (sz + 1 + 5 * i + 1), .ref (sz + 1 + 5 * i + 1 + 2)]))] : va_W) ++ ck_nl cI sz i) ++ [(sz + 1 + 5 * i + 1, .inr (1, [.ref (sz + 1 + 5 * i + 1 + 1), .int (zz_I (((0 : Nat) : Int)))])), (sz + 1 + 5 * i + 1 + 1, .inl (cI, 48, .inl (zz_A (ck_z)))), (sz + 1 + 5 * i + 1 + 2, .inr (1, [.ref (sz + 1 + 5 * i + 1 + 3), .int (zz_I (((0 : Nat) : Int)))])), (sz + 1 + 5 * i + 1 + 3, .inl (cI, 144, .inl (zz_A (ck_z))))]) := hD
        have hP : va_P D kcl (([(a, .inr (0, [.ref sz, .int (zz_I (0))])), (sz, .inl (cW, 12, .inr (.inr (.inr (.inr (ck_f0 sz i)))))), (sz + 1 + 5 * i, .inr (3, [.ref (sz + 1 + 5 * i + 1), .ref (sz + 1 + 5 * i + 1 + 2)])), (sz + 1 + 5 * i + 1, .inr (1, [.ref (sz + 1 + 5 * i + 1 + 1), .int (zz_I (((0 : Nat) : Int)))])), (sz + 1 + 5 * i + 1 + 1, .inl (cI, 48, .inl (zz_A (ck_z)))), (sz + 1 + 5 * i + 1 + 2, .inr (1, [.ref (sz + 1 + 5 * i + 1 + 3), .int (zz_I (((0 : Nat) : Int)))])), (sz + 1 + 5 * i + 1 + 3, .inl (cI, 144, .inl (zz_A (ck_z))))] : va_W) ++ ck_nl cI sz i) H := hP.swap
        have hD : va_D (zz_Fc sz a) (([(a, .inr (0, [.ref sz, .int (zz_I (0))])), (sz, .inl (cW, 12, .inr (.inr (.inr (.inr (ck_f0 sz i)))))), (sz + 1 + 5 * i, .inr (3, [.ref (sz + 1 + 5 * i + 1), .ref (sz + 1 + 5 * i + 1 + 2)])), (sz + 1 + 5 * i + 1, .inr (1, [.ref (sz + 1 + 5 * i + 1 + 1), .int (zz_I (((0 : Nat) : Int)))])), (sz + 1 + 5 * i + 1 + 1, .inl (cI, 48, .inl (zz_A (ck_z)))), (sz + 1 + 5 * i + 1 + 2, .inr (1, [.ref (sz + 1 + 5 * i + 1 + 3), .int (zz_I (((0 : Nat) : Int)))])), (sz + 1 + 5 * i + 1 + 3, .inl (cI, 144, .inl (zz_A (ck_z))))] : va_W) ++ ck_nl cI sz i) := hD.swap
        refine zz_aastZ (ci := 3) (f' := ck_f0 sz (i + 1)) hx hb hK hP hD hS 1 1 rfl rfl (hP 2 _ rfl) rfl (by omega) ck_f0_s kd_G_init_33 (fun H locs hE hP hD hS => ?_)
        have hP : va_P D kcl ((([(a, .inr (0, [.ref sz, .int (zz_I (0))])), (sz, .inl (cW, 12, .inr (.inr (.inr (.inr (ck_f0 sz (i + 1)))))))] : va_W) ++ [(sz + 1 + 5 * i, .inr (3, [.ref (sz + 1 + 5 * i + 1), .ref (sz + 1 + 5 * i + 1 + 2)])), (sz + 1 + 5 * i + 1, .inr (1, [.ref (sz + 1 + 5 * i + 1 + 1), .int (zz_I (((0 : Nat) : Int)))])), (sz + 1 + 5 * i + 1 + 1, .inl (cI, 48, .inl (zz_A (ck_z)))), (sz + 1 + 5 * i + 1 + 2, .inr (1, [.ref (sz + 1 + 5 * i + 1 + 3), .int (zz_I (((0 : Nat) : Int)))])), (sz + 1 + 5 * i + 1 + 3, .inl (cI, 144, .inl (zz_A (ck_z))))]) ++ ck_nl cI sz i) H := hP
        have hD : va_D (zz_Fc sz a) ((([(a, .inr (0, [.ref sz, .int (zz_I (0))])), (sz, .inl (cW, 12, .inr (.inr (.inr (.inr (ck_f0 sz (i + 1)))))))] : va_W) ++ [(sz + 1 + 5 * i, .inr (3, [.ref (sz + 1 + 5 * i + 1), .ref (sz + 1 + 5 * i + 1 + 2)])), (sz + 1 + 5 * i + 1, .inr (1, [.ref (sz + 1 + 5 * i + 1 + 1), .int (zz_I (((0 : Nat) : Int)))])), (sz + 1 + 5 * i + 1 + 1, .inl (cI, 48, .inl (zz_A (ck_z)))), (sz + 1 + 5 * i + 1 + 2, .inr (1, [.ref (sz + 1 + 5 * i + 1 + 3), .int (zz_I (((0 : Nat) : Int)))])), (sz + 1 + 5 * i + 1 + 3, .inl (cI, 144, .inl (zz_A (ck_z))))]) ++ ck_nl cI sz i) := hD
        have hP : va_P D kcl (([(a, .inr (0, [.ref sz, .int (zz_I (0))])), (sz, .inl (cW, 12, .inr (.inr (.inr (.inr (ck_f0 sz (i + 1)))))))] : va_W) ++ ck_nl cI sz (i + 1)) H := hP.swap
        have hD : va_D (zz_Fc sz a) (([(a, .inr (0, [.ref sz, .int (zz_I (0))])), (sz, .inl (cW, 12, .inr (.inr (.inr (.inr (ck_f0 sz (i + 1)))))))] : va_W) ++ ck_nl cI sz (i + 1)) := hD.swap
        refine zz_iinc (k := 1) hx hb kd_G_init_34 hl rfl rfl (by decide) rfl (fun ls hl => ?_)
        have hl : lv_has ls 2 [(1, .int (zz_I (((i : Nat) : Int) + 1))), (0, .ref a)] := hl
        refine lv_goto (tgt := 15) hx hb kd_G_init_37 (by decide) ?_
        rw [show 1 + 5 * i + 1 + 4 = 1 + 5 * (i + 1) by omega, show 12 + 198 * i + 2 + 196 = 12 + 198 * (i + 1) by omega]
        exact ih (i + 1) ls H locs (by omega) (by omega) (lv_sub hl [1, 0] rfl) (by rw [hE, hZ]; omega) hP hD hS
  exact lp15 _ 0 ls H locs (Nat.lt_succ_self _) (by omega) (lv_sub hl [1, 0] rfl) hZ (by exact hP) (by exact hD) hS
