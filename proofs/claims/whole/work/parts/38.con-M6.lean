set_option maxHeartbeats 4000000 in
set_option maxRecDepth 100000 in
theorem kc_M_find (l : Launch) (D : va_G) (cI cW : ClassId) (o : Nat) (t : Nat) (z : Nat) (w : Nat) (y : Nat) (d : Nat) (th : Int) (k : Nat) (bg : Nat) (T : Nat → Int) (Sz : Nat → Int) (n : Nat) (G : Nat → Int) (i : Int) (hs_G : Sz 12 = ((n : Nat) : Int)) (hn_G : n ≤ 48) (ht_G : ∀ q, q < n → T (576 + q) = G q) (hg_G : ck_ok G n) (hi : 0 ≤ i ∧ i ≤ 2147483647) (hN : zz_N [o, t, z]) : Met l ky_M_find kv_M_find ({ frames := 4, cells := 0, slots := 0, locals := 87 }) (va_Pc [.ref o, .int (zz_I (i))] (zz_P D cI cW (va_P D kcl [(o, .inr (5, [.int (zz_I (th)), .ref t, .ref z, .int (zz_I (((k : Nat) : Int))), .ref w, .ref y, .ref d, .int (zz_I (((bg : Nat) : Int)))])), (t, .inl (cI, 672, .inl (zz_A (T)))), (z, .inl (cI, 14, .inl (zz_A (Sz))))]))) (zz_Qw (fun (u : Unit) => some (.int (zz_I ((((ck_fd G n n 0 i).1 : Nat) : Int))))) (fun (u : Unit) H => (True) ∧ va_P D kcl [(o, .inr (5, [.int (zz_I (th)), .ref t, .ref z, .int (zz_I (((k : Nat) : Int))), .ref w, .ref y, .ref d, .int (zz_I ((((ck_fd G n n 0 i).2 : Nat) : Int)))])), (t, .inl (cI, 672, .inl (zz_A (T)))), (z, .inl (cI, 14, .inl (zz_A (Sz))))] H) (zz_F [(o, .inr (5, [.int (zz_I (th)), .ref t, .ref z, .int (zz_I (((k : Nat) : Int))), .ref w, .ref y, .ref d, .int (zz_I (((bg : Nat) : Int)))])), (t, .inl (cI, 672, .inl (zz_A (T)))), (z, .inl (cI, 14, .inl (zz_A (Sz))))])) 0 0 (zz_F [(o, .inr (5, [.int (zz_I (th)), .ref t, .ref z, .int (zz_I (((k : Nat) : Int))), .ref w, .ref y, .ref d, .int (zz_I (((bg : Nat) : Int)))])), (t, .inl (cI, 672, .inl (zz_A (T)))), (z, .inl (cI, 14, .inl (zz_A (Sz))))]) := by
  refine Met.ofW (cc := kb_M_find) (maxL := 4) (ret := (some .int)) (by decide) rfl ?_
  intro pg ev sg mg ag bl mt cd s1 Bd hml hv
  obtain ⟨rfl, hP, hK⟩ := hv
  have hP : va_P D kcl [(o, .inr (5, [.int (zz_I (th)), .ref t, .ref z, .int (zz_I (((k : Nat) : Int))), .ref w, .ref y, .ref d, .int (zz_I (((bg : Nat) : Int)))])), (t, .inl (cI, 672, .inl (zz_A (T)))), (z, .inl (cI, 14, .inl (zz_A (Sz))))] sg.heap := hP
  have hx := Bd.exec
  have hb := Bd.bytes
  have hr := Bd.returns
  have hlocks := Bd.notSynchronized
  have hts : ∀ w ∈ zz_tbl, w.before _ sg = true := fun w h => atoms_spec (ws := kv_M_find) Bd.pre w (List.mem_cons_of_mem _ h)
  have hown : sg.vm.findClass kn_M = some mg.cls := findClass_of_methodNamed Bd.named
  have hD : va_D (zz_F [(o, .inr (5, [.int (zz_I (th)), .ref t, .ref z, .int (zz_I (((k : Nat) : Int))), .ref w, .ref y, .ref d, .int (zz_I (((bg : Nat) : Int)))])), (t, .inl (cI, 672, .inl (zz_A (T)))), (z, .inl (cI, 14, .inl (zz_A (Sz))))]) [(o, .inr (5, [.int (zz_I (th)), .ref t, .ref z, .int (zz_I (((k : Nat) : Int))), .ref w, .ref y, .ref d, .int (zz_I (((bg : Nat) : Int)))])), (t, .inl (cI, 672, .inl (zz_A (T)))), (z, .inl (cI, 14, .inl (zz_A (Sz))))] := zz_Dof hN rfl
  have hS : va_S (zz_F [(o, .inr (5, [.int (zz_I (th)), .ref t, .ref z, .int (zz_I (((k : Nat) : Int))), .ref w, .ref y, .ref d, .int (zz_I (((bg : Nat) : Int)))])), (t, .inl (cI, 672, .inl (zz_A (T)))), (z, .inl (cI, 14, .inl (zz_A (Sz))))]) sg.heap sg.heap [] := va_S.rf
  have hl := lv_entry ([.ref o, .int (zz_I (i))]) (n := 4) (Nat.le_of_ble_eq_true rfl)
  rw [lg_entry_eq]
  generalize (lg_sl ([.ref o, .int (zz_I (i))]) ++ List.replicate (4 - (lg_sl ([.ref o, .int (zz_I (i))])).length) Slot.unset).toArray = ls at hl ⊢
  have hl : lv_has ls 4 [(0, .ref o), (1, .int (zz_I (i)))] := hl
  refine lv_iload_n hx hb kd_M_find_0 rfl (lv_at hl 1 rfl) ?_
  refine lv_istore_n hx hb kd_M_find_1 rfl hl (by decide) rfl (fun ls hl => ?_)
  have hl : lv_has ls 4 [(2, .int (zz_I (i))), (0, .ref o), (1, .int (zz_I (i)))] := hl
  refine lv_aload_n hx hb kd_M_find_2 rfl (lv_at hl 1 rfl) ?_
  refine zz_iconst hx hb (v := 0) (rfl) kd_M_find_3 ?_
  refine va_put (D := D) (ci := 5) (v := .int (zz_I (0))) (ty := .int) (C := kn_M) (T := kf_M) (N := 8) hx hb hts ki_M kt_M kk_M km_M hown hK hP hD hS 0 rfl rfl 7 (by decide) (hts _ kw_608) (fun _ h9 => h9) rfl (by decide +kernel) rfl rfl (Nat.le_of_ble_eq_true rfl) kd_M_find_4 (fun H locs hP hD hS => ?_)
  have hP : va_P D kcl [(o, .inr (5, [.int (zz_I (th)), .ref t, .ref z, .int (zz_I (((k : Nat) : Int))), .ref w, .ref y, .ref d, .int (zz_I (0))])), (t, .inl (cI, 672, .inl (zz_A (T)))), (z, .inl (cI, 14, .inl (zz_A (Sz))))] H := hP
  have hD : va_D (zz_F [(o, .inr (5, [.int (zz_I (th)), .ref t, .ref z, .int (zz_I (((k : Nat) : Int))), .ref w, .ref y, .ref d, .int (zz_I (((bg : Nat) : Int)))])), (t, .inl (cI, 672, .inl (zz_A (T)))), (z, .inl (cI, 14, .inl (zz_A (Sz))))]) [(o, .inr (5, [.int (zz_I (th)), .ref t, .ref z, .int (zz_I (((k : Nat) : Int))), .ref w, .ref y, .ref d, .int (zz_I (0))])), (t, .inl (cI, 672, .inl (zz_A (T)))), (z, .inl (cI, 14, .inl (zz_A (Sz))))] := hD
  have lp7 : ∀ (fuel : Nat) (p : Nat) (lf : Int) (ls : Array Slot) (H : Heap) (locs : List Loc), n - p < fuel → (p ≤ n) → (0 ≤ lf ∧ lf ≤ 2147483647) → (∀ f, n - p ≤ f → ck_fd G n f p lf = ck_fd G n n 0 i) → lv_has ls 4 [(0, .ref o), (1, .int (zz_I (i))), (2, .int (zz_I (lf)))] → va_P D kcl [(o, .inr (5, [.int (zz_I (th)), .ref t, .ref z, .int (zz_I (((k : Nat) : Int))), .ref w, .ref y, .ref d, .int (zz_I (((p : Nat) : Int)))])), (t, .inl (cI, 672, .inl (zz_A (T)))), (z, .inl (cI, 14, .inl (zz_A (Sz))))] H → va_D (zz_F [(o, .inr (5, [.int (zz_I (th)), .ref t, .ref z, .int (zz_I (((k : Nat) : Int))), .ref w, .ref y, .ref d, .int (zz_I (((bg : Nat) : Int)))])), (t, .inl (cI, 672, .inl (zz_A (T)))), (z, .inl (cI, 14, .inl (zz_A (Sz))))]) [(o, .inr (5, [.int (zz_I (th)), .ref t, .ref z, .int (zz_I (((k : Nat) : Int))), .ref w, .ref y, .ref d, .int (zz_I (((p : Nat) : Int)))])), (t, .inl (cI, 672, .inl (zz_A (T)))), (z, .inl (cI, 14, .inl (zz_A (Sz))))] → va_S (zz_F [(o, .inr (5, [.int (zz_I (th)), .ref t, .ref z, .int (zz_I (((k : Nat) : Int))), .ref w, .ref y, .ref d, .int (zz_I (((bg : Nat) : Int)))])), (t, .inl (cI, 672, .inl (zz_A (T)))), (z, .inl (cI, 14, .inl (zz_A (Sz))))]) sg.heap H locs → W pg l ev (headSpec kv_M_find ({ frames := 4, cells := 0, slots := 0, locals := 87 })).room sg mg [.ref o, .int (zz_I (i))].toArray bl mt cd H locs 0 0 (MQ bl (zz_Qw (fun (u : Unit) => some (.int (zz_I ((((ck_fd G n n 0 i).1 : Nat) : Int))))) (fun (u : Unit) H => (True) ∧ va_P D kcl [(o, .inr (5, [.int (zz_I (th)), .ref t, .ref z, .int (zz_I (((k : Nat) : Int))), .ref w, .ref y, .ref d, .int (zz_I ((((ck_fd G n n 0 i).2 : Nat) : Int)))])), (t, .inl (cI, 672, .inl (zz_A (T)))), (z, .inl (cI, 14, .inl (zz_A (Sz))))] H) (zz_F [(o, .inr (5, [.int (zz_I (th)), .ref t, .ref z, .int (zz_I (((k : Nat) : Int))), .ref w, .ref y, .ref d, .int (zz_I (((bg : Nat) : Int)))])), (t, .inl (cI, 672, .inl (zz_A (T)))), (z, .inl (cI, 14, .inl (zz_A (Sz))))])) [.ref o, .int (zz_I (i))].toArray sg 0 0 (zz_F [(o, .inr (5, [.int (zz_I (th)), .ref t, .ref z, .int (zz_I (((k : Nat) : Int))), .ref w, .ref y, .ref d, .int (zz_I (((bg : Nat) : Int)))])), (t, .inl (cI, 672, .inl (zz_A (T)))), (z, .inl (cI, 14, .inl (zz_A (Sz))))])) (F0 mg 7 ls []) := by
    intro fuel
    induction fuel with
    | zero => intro p lf ls H locs hfu; exact absurd hfu (Nat.not_lt_zero _)
    | succ fuel ih7 =>
      intro p lf ls H locs hfu hp hlf hq hl hP hD hS
      refine lv_aload_n hx hb kd_M_find_7 rfl (lv_at hl 0 rfl) ?_
      refine va_get (D := D) (ci := 5) (v := .int (zz_I (((p : Nat) : Int)))) (C := kn_M) (T := kf_M) (N := 8) hx hb hts ki_M hown hK hP 0 rfl rfl 7 (by decide) (hts _ kw_608) (fun _ h9 => h9) rfl kd_M_find_8 ?_
      refine lv_aload_n hx hb kd_M_find_11 rfl (lv_at hl 0 rfl) ?_
      refine va_get (D := D) (ci := 5) (v := .ref z) (C := kn_M) (T := kf_M) (N := 8) hx hb hts ki_M hown hK hP 0 rfl rfl 2 (by decide) (hts _ kw_603) (fun _ h9 => h9) rfl kd_M_find_12 ?_
      refine zz_bipush hx hb kd_M_find_15 (by decide) ?_
      refine zz_iald hx hb hK hP 2 0 rfl rfl (by omega) (v := ((n : Nat) : Int)) (hs_G) kd_M_find_17 ?_
      refine zz_icmp_ge (tgt := 78) hx hb kd_M_find_18 (by decide) (by omega) (fun hbr18 => ?_) (fun hbr18 => ?_)
      · refine zz_iconst hx hb (v := 0) (rfl) kd_M_find_78 ?_
        have ee := (hq n (by omega)).symm.trans (ck_fd_out (by omega))
        have hP : va_P D kcl [(o, .inr (5, [.int (zz_I (th)), .ref t, .ref z, .int (zz_I (((k : Nat) : Int))), .ref w, .ref y, .ref d, .int (zz_I ((((ck_fd G n n 0 i).2 : Nat) : Int)))])), (t, .inl (cI, 672, .inl (zz_A (T)))), (z, .inl (cI, 14, .inl (zz_A (Sz))))] H := by rw [ee]; exact hP
        exact W.iret hx hb hr (zz_endw (()) (by have e := (hq n (by omega)).symm.trans (ck_fd_out (by omega)); rw [e]; rfl) ⟨trivial, hP⟩ hS) hS.2.2 kd_M_find_79
      · refine lv_aload_n hx hb kd_M_find_21 rfl (lv_at hl 0 rfl) ?_
        refine lv_aload_n hx hb kd_M_find_22 rfl (lv_at hl 0 rfl) ?_
        refine va_get (D := D) (ci := 5) (v := .int (zz_I (((p : Nat) : Int)))) (C := kn_M) (T := kf_M) (N := 8) hx hb hts ki_M hown hK hP 0 rfl rfl 7 (by decide) (hts _ kw_608) (fun _ h9 => h9) rfl kd_M_find_23 ?_
        refine zz_pV ⟨hx, hb, hml, hown, hts⟩ hK (kc_M_identifier l D cI cW o t z w y d th k p T Sz n G p (by assumption) (by omega) (by assumption) (by assumption) (by omega) rfl) (zz_gV kw_721 kw_723 kw_15 kw_31 kw_724) ⟨rfl, rfl⟩ ⟨rfl, kh_M_identifier⟩ ⟨Nat.le_of_ble_eq_true rfl, Nat.le_of_ble_eq_true rfl⟩ (va_recv (q := (kn_M, kf_M, 8)) hK hP rfl (show ([(o, .inr (5, [.int (zz_I (th)), .ref t, .ref z, .int (zz_I (((k : Nat) : Int))), .ref w, .ref y, .ref d, .int (zz_I (((p : Nat) : Int)))])), (t, .inl (cI, 672, .inl (zz_A (T)))), (z, .inl (cI, 14, .inl (zz_A (Sz))))] : va_W)[0]? = some _ from rfl)) hP rfl hl.1 rfl (Nat.le_of_ble_eq_true rfl) kd_M_find_26 ⟨Nat.le_of_ble_eq_true rfl, Nat.le_of_ble_eq_true rfl⟩ ?_
        refine lv_istore_n hx hb kd_M_find_29 rfl hl (by decide) rfl (fun ls hl => ?_)
        have hl : lv_has ls 4 [(3, .int (zz_I (((ck_ie G n p - p : Nat) : Int)))), (0, .ref o), (1, .int (zz_I (i))), (2, .int (zz_I (lf)))] := hl
        refine lv_iload_n hx hb kd_M_find_30 rfl (lv_at hl 0 rfl) ?_
        have jn40 : ∀  (ls : Array Slot), (¬ (p < ck_ie G n p ∧ lf = 0)) → lv_has ls 4 [(3, .int (zz_I (((ck_ie G n p - p : Nat) : Int)))), (0, .ref o), (1, .int (zz_I (i))), (2, .int (zz_I (lf)))] → W pg l ev (headSpec kv_M_find ({ frames := 4, cells := 0, slots := 0, locals := 87 })).room sg mg [.ref o, .int (zz_I (i))].toArray bl mt cd H locs 0 0 (MQ bl (zz_Qw (fun (u : Unit) => some (.int (zz_I ((((ck_fd G n n 0 i).1 : Nat) : Int))))) (fun (u : Unit) H => (True) ∧ va_P D kcl [(o, .inr (5, [.int (zz_I (th)), .ref t, .ref z, .int (zz_I (((k : Nat) : Int))), .ref w, .ref y, .ref d, .int (zz_I ((((ck_fd G n n 0 i).2 : Nat) : Int)))])), (t, .inl (cI, 672, .inl (zz_A (T)))), (z, .inl (cI, 14, .inl (zz_A (Sz))))] H) (zz_F [(o, .inr (5, [.int (zz_I (th)), .ref t, .ref z, .int (zz_I (((k : Nat) : Int))), .ref w, .ref y, .ref d, .int (zz_I (((bg : Nat) : Int)))])), (t, .inl (cI, 672, .inl (zz_A (T)))), (z, .inl (cI, 14, .inl (zz_A (Sz))))])) [.ref o, .int (zz_I (i))].toArray sg 0 0 (zz_F [(o, .inr (5, [.int (zz_I (th)), .ref t, .ref z, .int (zz_I (((k : Nat) : Int))), .ref w, .ref y, .ref d, .int (zz_I (((bg : Nat) : Int)))])), (t, .inl (cI, 672, .inl (zz_A (T)))), (z, .inl (cI, 14, .inl (zz_A (Sz))))])) (F0 mg 40 ls []) := by
          intro  ls hnr hl
          refine lv_iload_n hx hb kd_M_find_40 rfl (lv_at hl 0 rfl) ?_
          have jn51 : ∀  (ls : Array Slot), lv_has ls 4 [(3, .int (zz_I (((ck_ie G n p - p : Nat) : Int)))), (0, .ref o), (1, .int (zz_I (i))), (2, .int (zz_I (lf)))] → W pg l ev (headSpec kv_M_find ({ frames := 4, cells := 0, slots := 0, locals := 87 })).room sg mg [.ref o, .int (zz_I (i))].toArray bl mt cd H locs 0 0 (MQ bl (zz_Qw (fun (u : Unit) => some (.int (zz_I ((((ck_fd G n n 0 i).1 : Nat) : Int))))) (fun (u : Unit) H => (True) ∧ va_P D kcl [(o, .inr (5, [.int (zz_I (th)), .ref t, .ref z, .int (zz_I (((k : Nat) : Int))), .ref w, .ref y, .ref d, .int (zz_I ((((ck_fd G n n 0 i).2 : Nat) : Int)))])), (t, .inl (cI, 672, .inl (zz_A (T)))), (z, .inl (cI, 14, .inl (zz_A (Sz))))] H) (zz_F [(o, .inr (5, [.int (zz_I (th)), .ref t, .ref z, .int (zz_I (((k : Nat) : Int))), .ref w, .ref y, .ref d, .int (zz_I (((bg : Nat) : Int)))])), (t, .inl (cI, 672, .inl (zz_A (T)))), (z, .inl (cI, 14, .inl (zz_A (Sz))))])) [.ref o, .int (zz_I (i))].toArray sg 0 0 (zz_F [(o, .inr (5, [.int (zz_I (th)), .ref t, .ref z, .int (zz_I (((k : Nat) : Int))), .ref w, .ref y, .ref d, .int (zz_I (((bg : Nat) : Int)))])), (t, .inl (cI, 672, .inl (zz_A (T)))), (z, .inl (cI, 14, .inl (zz_A (Sz))))])) (F0 mg 51 ls [.int (zz_I ((if p < ck_ie G n p then lf - 1 else lf)))]) := by
            intro  ls  hl
            refine lv_istore_n hx hb kd_M_find_51 rfl hl (by decide) rfl (fun ls hl => ?_)
            have hl : lv_has ls 4 [(2, .int (zz_I ((if p < ck_ie G n p then lf - 1 else lf)))), (3, .int (zz_I (((ck_ie G n p - p : Nat) : Int)))), (0, .ref o), (1, .int (zz_I (i)))] := hl
            refine lv_aload_n hx hb kd_M_find_52 rfl (lv_at hl 2 rfl) ?_
            refine lv_iload_n hx hb kd_M_find_53 rfl (lv_at hl 1 rfl) ?_
            refine zz_if_le (tgt := 66) hx hb kd_M_find_54 (by decide) (by have := ck_ie_le (g := G) (n := n) (p := p); omega) (fun hbr54 => ?_) (fun hbr54 => ?_)
            · refine lv_aload_n hx hb kd_M_find_66 rfl (lv_at hl 2 rfl) ?_
              refine va_get (D := D) (ci := 5) (v := .int (zz_I (((p : Nat) : Int)))) (C := kn_M) (T := kf_M) (N := 8) hx hb hts ki_M hown hK hP 0 rfl rfl 7 (by decide) (hts _ kw_608) (fun _ h9 => h9) rfl kd_M_find_67 ?_
              refine zz_iconst hx hb (v := 1) (rfl) kd_M_find_70 ?_
              refine zz_iadd hx hb (v := ((max (ck_ie G n p) (p + 1) : Nat) : Int)) (by have := ck_ie_le (g := G) (n := n) (p := p); omega) kd_M_find_71 ?_
              refine va_put (D := D) (ci := 5) (v := .int (zz_I (((max (ck_ie G n p) (p + 1) : Nat) : Int)))) (ty := .int) (C := kn_M) (T := kf_M) (N := 8) hx hb hts ki_M kt_M kk_M km_M hown hK hP hD hS 0 rfl rfl 7 (by decide) (hts _ kw_608) (fun _ h9 => h9) rfl (by decide +kernel) rfl rfl (Nat.le_of_ble_eq_true rfl) kd_M_find_72 (fun H locs hP hD hS => ?_)
              have hP : va_P D kcl [(o, .inr (5, [.int (zz_I (th)), .ref t, .ref z, .int (zz_I (((k : Nat) : Int))), .ref w, .ref y, .ref d, .int (zz_I (((max (ck_ie G n p) (p + 1) : Nat) : Int)))])), (t, .inl (cI, 672, .inl (zz_A (T)))), (z, .inl (cI, 14, .inl (zz_A (Sz))))] H := hP
              have hD : va_D (zz_F [(o, .inr (5, [.int (zz_I (th)), .ref t, .ref z, .int (zz_I (((k : Nat) : Int))), .ref w, .ref y, .ref d, .int (zz_I (((bg : Nat) : Int)))])), (t, .inl (cI, 672, .inl (zz_A (T)))), (z, .inl (cI, 14, .inl (zz_A (Sz))))]) [(o, .inr (5, [.int (zz_I (th)), .ref t, .ref z, .int (zz_I (((k : Nat) : Int))), .ref w, .ref y, .ref d, .int (zz_I (((max (ck_ie G n p) (p + 1) : Nat) : Int)))])), (t, .inl (cI, 672, .inl (zz_A (T)))), (z, .inl (cI, 14, .inl (zz_A (Sz))))] := hD
              refine lv_goto (tgt := 7) hx hb kd_M_find_75 (by decide) ?_
              exact ih7 (max (ck_ie G n p) (p + 1)) (if p < ck_ie G n p then lf - 1 else lf) ls _ _ (by have := ck_ie_le (g := G) (n := n) (p := p); omega) (by have := ck_ie_le (g := G) (n := n) (p := p); omega) (by split <;> omega) (fun f hf => (ck_fd_go (by omega) hnr hf).trans (hq n (by omega))) (lv_sub hl [2, 3, 0] rfl) hP hD hS
            · refine lv_aload_n hx hb kd_M_find_57 rfl (lv_at hl 2 rfl) ?_
              refine va_get (D := D) (ci := 5) (v := .int (zz_I (((p : Nat) : Int)))) (C := kn_M) (T := kf_M) (N := 8) hx hb hts ki_M hown hK hP 0 rfl rfl 7 (by decide) (hts _ kw_608) (fun _ h9 => h9) rfl kd_M_find_58 ?_
              refine lv_iload_n hx hb kd_M_find_61 rfl (lv_at hl 1 rfl) ?_
              refine zz_iadd hx hb (v := ((max (ck_ie G n p) (p + 1) : Nat) : Int)) (by have := ck_ie_le (g := G) (n := n) (p := p); omega) kd_M_find_62 ?_
              refine lv_goto (tgt := 72) hx hb kd_M_find_63 (by decide) ?_
              refine va_put (D := D) (ci := 5) (v := .int (zz_I (((max (ck_ie G n p) (p + 1) : Nat) : Int)))) (ty := .int) (C := kn_M) (T := kf_M) (N := 8) hx hb hts ki_M kt_M kk_M km_M hown hK hP hD hS 0 rfl rfl 7 (by decide) (hts _ kw_608) (fun _ h9 => h9) rfl (by decide +kernel) rfl rfl (Nat.le_of_ble_eq_true rfl) kd_M_find_72 (fun H locs hP hD hS => ?_)
              have hP : va_P D kcl [(o, .inr (5, [.int (zz_I (th)), .ref t, .ref z, .int (zz_I (((k : Nat) : Int))), .ref w, .ref y, .ref d, .int (zz_I (((max (ck_ie G n p) (p + 1) : Nat) : Int)))])), (t, .inl (cI, 672, .inl (zz_A (T)))), (z, .inl (cI, 14, .inl (zz_A (Sz))))] H := hP
              have hD : va_D (zz_F [(o, .inr (5, [.int (zz_I (th)), .ref t, .ref z, .int (zz_I (((k : Nat) : Int))), .ref w, .ref y, .ref d, .int (zz_I (((bg : Nat) : Int)))])), (t, .inl (cI, 672, .inl (zz_A (T)))), (z, .inl (cI, 14, .inl (zz_A (Sz))))]) [(o, .inr (5, [.int (zz_I (th)), .ref t, .ref z, .int (zz_I (((k : Nat) : Int))), .ref w, .ref y, .ref d, .int (zz_I (((max (ck_ie G n p) (p + 1) : Nat) : Int)))])), (t, .inl (cI, 672, .inl (zz_A (T)))), (z, .inl (cI, 14, .inl (zz_A (Sz))))] := hD
              refine lv_goto (tgt := 7) hx hb kd_M_find_75 (by decide) ?_
              exact ih7 (max (ck_ie G n p) (p + 1)) (if p < ck_ie G n p then lf - 1 else lf) ls _ _ (by have := ck_ie_le (g := G) (n := n) (p := p); omega) (by have := ck_ie_le (g := G) (n := n) (p := p); omega) (by split <;> omega) (fun f hf => (ck_fd_go (by omega) hnr hf).trans (hq n (by omega))) (lv_sub hl [2, 3, 0] rfl) hP hD hS
          refine zz_if_le (tgt := 50) hx hb kd_M_find_41 (by decide) (by have := ck_ie_le (g := G) (n := n) (p := p); omega) (fun hbr41 => ?_) (fun hbr41 => ?_)
          · refine lv_iload_n hx hb kd_M_find_50 rfl (lv_at hl 3 rfl) ?_
            refine zz_cast (y := (if p < ck_ie G n p then lf - 1 else lf)) (by rw [if_neg (by have := ck_ie_le (g := G) (n := n) (p := p); omega)]) ?_
            exact jn51  ls  (lv_sub hl [0, 1, 2, 3] rfl)
          · refine lv_iload_n hx hb kd_M_find_44 rfl (lv_at hl 3 rfl) ?_
            refine zz_iconst hx hb (v := 1) (rfl) kd_M_find_45 ?_
            refine zz_isub hx hb (v := (if p < ck_ie G n p then lf - 1 else lf)) (by rw [if_pos (by omega)]) kd_M_find_46 ?_
            refine lv_goto (tgt := 51) hx hb kd_M_find_47 (by decide) ?_
            exact jn51  ls  (lv_sub hl [0, 1, 2, 3] rfl)
        refine zz_if_le (tgt := 40) hx hb kd_M_find_31 (by decide) (by have := ck_ie_le (g := G) (n := n) (p := p); omega) (fun hbr31 => ?_) (fun hbr31 => ?_)
        · exact jn40  ls (by omega) (lv_sub hl [0, 1, 2, 3] rfl)
        · refine lv_iload_n hx hb kd_M_find_34 rfl (lv_at hl 3 rfl) ?_
          refine zz_if_ne (tgt := 40) hx hb kd_M_find_35 (by decide) (by omega) (fun hbr35 => ?_) (fun hbr35 => ?_)
          · exact jn40  ls (by omega) (lv_sub hl [0, 1, 2, 3] rfl)
          · refine lv_iload_n hx hb kd_M_find_38 rfl (lv_at hl 0 rfl) ?_
            have ee := (hq n (by omega)).symm.trans (ck_fd_hit (by omega) (by omega))
            have hP : va_P D kcl [(o, .inr (5, [.int (zz_I (th)), .ref t, .ref z, .int (zz_I (((k : Nat) : Int))), .ref w, .ref y, .ref d, .int (zz_I ((((ck_fd G n n 0 i).2 : Nat) : Int)))])), (t, .inl (cI, 672, .inl (zz_A (T)))), (z, .inl (cI, 14, .inl (zz_A (Sz))))] H := by rw [ee]; exact hP
            exact W.iret hx hb hr (zz_endw (()) (by have e := (hq n (by omega)).symm.trans (ck_fd_hit (by omega) (by omega)); rw [e]) ⟨trivial, hP⟩ hS) hS.2.2 kd_M_find_39
  exact lp7 _ 0 i ls _ _ (Nat.lt_succ_self _) (Nat.zero_le _) (by omega) (fun f hf => ck_fd_fix f n 0 i hf (by omega)) (lv_sub hl [1, 2, 0] rfl) hP hD hS
set_option maxHeartbeats 4000000 in
set_option maxRecDepth 100000 in
theorem kc_M_words (l : Launch) (D : va_G) (cI cW : ClassId) (o : Nat) (t : Nat) (z : Nat) (w : Nat) (y : Nat) (d : Nat) (th : Int) (k : Nat) (bg : Nat) (T : Nat → Int) (Sz : Nat → Int) (n : Nat) (G : Nat → Int) (hs_G : Sz 12 = ((n : Nat) : Int)) (hn_G : n ≤ 48) (ht_G : ∀ q, q < n → T (576 + q) = G q) (hg_G : ck_ok G n) (hN : zz_N [o, t, z]) : Met l ky_M_words kv_M_words ({ frames := 5, cells := 0, slots := 0, locals := 110 }) (va_Pc [.ref o] (zz_P D cI cW (va_P D kcl [(o, .inr (5, [.int (zz_I (th)), .ref t, .ref z, .int (zz_I (((k : Nat) : Int))), .ref w, .ref y, .ref d, .int (zz_I (((bg : Nat) : Int)))])), (t, .inl (cI, 672, .inl (zz_A (T)))), (z, .inl (cI, 14, .inl (zz_A (Sz))))]))) (zz_Qw (fun (u : Nat) => some (.int (zz_I ((ck_wc G n : Nat) : Int)))) (fun (u : Nat) H => (True) ∧ va_P D kcl [(o, .inr (5, [.int (zz_I (0)), .ref t, .ref z, .int (zz_I (((k : Nat) : Int))), .ref w, .ref y, .ref d, .int (zz_I (((u : Nat) : Int)))])), (t, .inl (cI, 672, .inl (zz_A (T)))), (z, .inl (cI, 14, .inl (zz_A (Sz))))] H) (zz_F [(o, .inr (5, [.int (zz_I (th)), .ref t, .ref z, .int (zz_I (((k : Nat) : Int))), .ref w, .ref y, .ref d, .int (zz_I (((bg : Nat) : Int)))])), (t, .inl (cI, 672, .inl (zz_A (T)))), (z, .inl (cI, 14, .inl (zz_A (Sz))))])) 0 0 (zz_F [(o, .inr (5, [.int (zz_I (th)), .ref t, .ref z, .int (zz_I (((k : Nat) : Int))), .ref w, .ref y, .ref d, .int (zz_I (((bg : Nat) : Int)))])), (t, .inl (cI, 672, .inl (zz_A (T)))), (z, .inl (cI, 14, .inl (zz_A (Sz))))]) := by
  refine Met.ofW (cc := kb_M_words) (maxL := 2) (ret := (some .int)) (by decide) rfl ?_
  intro pg ev sg mg ag bl mt cd s1 Bd hml hv
  obtain ⟨rfl, hP, hK⟩ := hv
  have hP : va_P D kcl [(o, .inr (5, [.int (zz_I (th)), .ref t, .ref z, .int (zz_I (((k : Nat) : Int))), .ref w, .ref y, .ref d, .int (zz_I (((bg : Nat) : Int)))])), (t, .inl (cI, 672, .inl (zz_A (T)))), (z, .inl (cI, 14, .inl (zz_A (Sz))))] sg.heap := hP
  have hx := Bd.exec
  have hb := Bd.bytes
  have hr := Bd.returns
  have hlocks := Bd.notSynchronized
  have hts : ∀ w ∈ zz_tbl, w.before _ sg = true := fun w h => atoms_spec (ws := kv_M_words) Bd.pre w (List.mem_cons_of_mem _ h)
  have hown : sg.vm.findClass kn_M = some mg.cls := findClass_of_methodNamed Bd.named
  have hD : va_D (zz_F [(o, .inr (5, [.int (zz_I (th)), .ref t, .ref z, .int (zz_I (((k : Nat) : Int))), .ref w, .ref y, .ref d, .int (zz_I (((bg : Nat) : Int)))])), (t, .inl (cI, 672, .inl (zz_A (T)))), (z, .inl (cI, 14, .inl (zz_A (Sz))))]) [(o, .inr (5, [.int (zz_I (th)), .ref t, .ref z, .int (zz_I (((k : Nat) : Int))), .ref w, .ref y, .ref d, .int (zz_I (((bg : Nat) : Int)))])), (t, .inl (cI, 672, .inl (zz_A (T)))), (z, .inl (cI, 14, .inl (zz_A (Sz))))] := zz_Dof hN rfl
  have hS : va_S (zz_F [(o, .inr (5, [.int (zz_I (th)), .ref t, .ref z, .int (zz_I (((k : Nat) : Int))), .ref w, .ref y, .ref d, .int (zz_I (((bg : Nat) : Int)))])), (t, .inl (cI, 672, .inl (zz_A (T)))), (z, .inl (cI, 14, .inl (zz_A (Sz))))]) sg.heap sg.heap [] := va_S.rf
  have hl := lv_entry ([.ref o]) (n := 2) (Nat.le_of_ble_eq_true rfl)
  rw [lg_entry_eq]
  generalize (lg_sl ([.ref o]) ++ List.replicate (2 - (lg_sl ([.ref o])).length) Slot.unset).toArray = ls at hl ⊢
  have hl : lv_has ls 2 [(0, .ref o)] := hl
  have hle : ∀ c : Nat, (ck_fd G n n 0 ((c : Nat) : Int)).1 ≤ n := fun c => by rcases Nat.lt_or_ge c (ck_wc G n) with h | h; (have := (ck_wl_in h).2; unfold ck_wl at this; omega); (have := ck_wl_out h; unfold ck_wl at this; omega)
  have hw48 := ck_wc_48 (g := G) (n := n)
  refine lv_aload_n hx hb kd_M_words_0 rfl (lv_at hl 0 rfl) ?_
  refine zz_iconst hx hb (v := 0) (rfl) kd_M_words_1 ?_
  refine va_put (D := D) (ci := 5) (v := .int (zz_I (0))) (ty := .int) (C := kn_M) (T := kf_M) (N := 8) hx hb hts ki_M kt_M kk_M km_M hown hK hP hD hS 0 rfl rfl 0 (by decide) (hts _ kw_601) (fun _ h9 => h9) rfl (by decide +kernel) rfl rfl (Nat.le_of_ble_eq_true rfl) kd_M_words_2 (fun H locs hP hD hS => ?_)
  have hP : va_P D kcl [(o, .inr (5, [.int (zz_I (0)), .ref t, .ref z, .int (zz_I (((k : Nat) : Int))), .ref w, .ref y, .ref d, .int (zz_I (((bg : Nat) : Int)))])), (t, .inl (cI, 672, .inl (zz_A (T)))), (z, .inl (cI, 14, .inl (zz_A (Sz))))] H := hP
  have hD : va_D (zz_F [(o, .inr (5, [.int (zz_I (th)), .ref t, .ref z, .int (zz_I (((k : Nat) : Int))), .ref w, .ref y, .ref d, .int (zz_I (((bg : Nat) : Int)))])), (t, .inl (cI, 672, .inl (zz_A (T)))), (z, .inl (cI, 14, .inl (zz_A (Sz))))]) [(o, .inr (5, [.int (zz_I (0)), .ref t, .ref z, .int (zz_I (((k : Nat) : Int))), .ref w, .ref y, .ref d, .int (zz_I (((bg : Nat) : Int)))])), (t, .inl (cI, 672, .inl (zz_A (T)))), (z, .inl (cI, 14, .inl (zz_A (Sz))))] := hD
  refine zz_iconst hx hb (v := 0) (rfl) kd_M_words_5 ?_
  refine lv_istore_n hx hb kd_M_words_6 rfl hl (by decide) rfl (fun ls hl => ?_)
  have hl : lv_has ls 2 [(1, .int (zz_I (0))), (0, .ref o)] := hl
  have lp7 : ∀ (fuel : Nat) (c : Nat) (bw : Nat) (ls : Array Slot) (H : Heap) (locs : List Loc), ck_wc G n - c < fuel → (c ≤ ck_wc G n) → lv_has ls 2 [(0, .ref o), (1, .int (zz_I (((c : Nat) : Int))))] → va_P D kcl [(o, .inr (5, [.int (zz_I (0)), .ref t, .ref z, .int (zz_I (((k : Nat) : Int))), .ref w, .ref y, .ref d, .int (zz_I (((bw : Nat) : Int)))])), (t, .inl (cI, 672, .inl (zz_A (T)))), (z, .inl (cI, 14, .inl (zz_A (Sz))))] H → va_D (zz_F [(o, .inr (5, [.int (zz_I (th)), .ref t, .ref z, .int (zz_I (((k : Nat) : Int))), .ref w, .ref y, .ref d, .int (zz_I (((bg : Nat) : Int)))])), (t, .inl (cI, 672, .inl (zz_A (T)))), (z, .inl (cI, 14, .inl (zz_A (Sz))))]) [(o, .inr (5, [.int (zz_I (0)), .ref t, .ref z, .int (zz_I (((k : Nat) : Int))), .ref w, .ref y, .ref d, .int (zz_I (((bw : Nat) : Int)))])), (t, .inl (cI, 672, .inl (zz_A (T)))), (z, .inl (cI, 14, .inl (zz_A (Sz))))] → va_S (zz_F [(o, .inr (5, [.int (zz_I (th)), .ref t, .ref z, .int (zz_I (((k : Nat) : Int))), .ref w, .ref y, .ref d, .int (zz_I (((bg : Nat) : Int)))])), (t, .inl (cI, 672, .inl (zz_A (T)))), (z, .inl (cI, 14, .inl (zz_A (Sz))))]) sg.heap H locs → W pg l ev (headSpec kv_M_words ({ frames := 5, cells := 0, slots := 0, locals := 110 })).room sg mg [.ref o].toArray bl mt cd H locs 0 0 (MQ bl (zz_Qw (fun (u : Nat) => some (.int (zz_I ((ck_wc G n : Nat) : Int)))) (fun (u : Nat) H => (True) ∧ va_P D kcl [(o, .inr (5, [.int (zz_I (0)), .ref t, .ref z, .int (zz_I (((k : Nat) : Int))), .ref w, .ref y, .ref d, .int (zz_I (((u : Nat) : Int)))])), (t, .inl (cI, 672, .inl (zz_A (T)))), (z, .inl (cI, 14, .inl (zz_A (Sz))))] H) (zz_F [(o, .inr (5, [.int (zz_I (th)), .ref t, .ref z, .int (zz_I (((k : Nat) : Int))), .ref w, .ref y, .ref d, .int (zz_I (((bg : Nat) : Int)))])), (t, .inl (cI, 672, .inl (zz_A (T)))), (z, .inl (cI, 14, .inl (zz_A (Sz))))])) [.ref o].toArray sg 0 0 (zz_F [(o, .inr (5, [.int (zz_I (th)), .ref t, .ref z, .int (zz_I (((k : Nat) : Int))), .ref w, .ref y, .ref d, .int (zz_I (((bg : Nat) : Int)))])), (t, .inl (cI, 672, .inl (zz_A (T)))), (z, .inl (cI, 14, .inl (zz_A (Sz))))])) (F0 mg 7 ls []) := by
    intro fuel
    induction fuel with
    | zero => intro c bw ls H locs hfu; exact absurd hfu (Nat.not_lt_zero _)
    | succ fuel ih7 =>
      intro c bw ls H locs hfu hc hl hP hD hS
      refine lv_aload_n hx hb kd_M_words_7 rfl (lv_at hl 0 rfl) ?_
      refine lv_iload_n hx hb kd_M_words_8 rfl (lv_at hl 1 rfl) ?_
      refine zz_wV ⟨hx, hb, hml, hown, hts⟩ hK (kc_M_find l D cI cW o t z w y d 0 k bw T Sz n G ((c : Nat) : Int) (by assumption) (by omega) (by assumption) (by assumption) (by omega) (hN.sub [0, 1, 2] rfl rfl)) (zz_gV kw_717 kw_719 kw_14 kw_31 kw_720) ⟨rfl, rfl⟩ ⟨rfl, kh_M_find⟩ ⟨Nat.le_of_ble_eq_true rfl, Nat.le_of_ble_eq_true rfl⟩ (va_recv (q := (kn_M, kf_M, 8)) hK hP rfl (show ([(o, .inr (5, [.int (zz_I (0)), .ref t, .ref z, .int (zz_I (((k : Nat) : Int))), .ref w, .ref y, .ref d, .int (zz_I (((bw : Nat) : Int)))])), (t, .inl (cI, 672, .inl (zz_A (T)))), (z, .inl (cI, 14, .inl (zz_A (Sz))))] : va_W)[0]? = some _ from rfl)) hP hD hS [0, 1, 2] rfl rfl (fun _ => rfl) rfl hl.1 rfl (Nat.le_of_ble_eq_true rfl) kd_M_words_9 ⟨Nat.le_of_ble_eq_true rfl, Nat.le_of_ble_eq_true rfl⟩ (fun u9 H locs hu9 hP hD hS => ?_)
      have hP : va_P D kcl [(o, .inr (5, [.int (zz_I (0)), .ref t, .ref z, .int (zz_I (((k : Nat) : Int))), .ref w, .ref y, .ref d, .int (zz_I ((((ck_fd G n n 0 ((c : Nat) : Int)).2 : Nat) : Int)))])), (t, .inl (cI, 672, .inl (zz_A (T)))), (z, .inl (cI, 14, .inl (zz_A (Sz))))] H := hP
      have hD : va_D (zz_F [(o, .inr (5, [.int (zz_I (th)), .ref t, .ref z, .int (zz_I (((k : Nat) : Int))), .ref w, .ref y, .ref d, .int (zz_I (((bg : Nat) : Int)))])), (t, .inl (cI, 672, .inl (zz_A (T)))), (z, .inl (cI, 14, .inl (zz_A (Sz))))]) [(o, .inr (5, [.int (zz_I (0)), .ref t, .ref z, .int (zz_I (((k : Nat) : Int))), .ref w, .ref y, .ref d, .int (zz_I ((((ck_fd G n n 0 ((c : Nat) : Int)).2 : Nat) : Int)))])), (t, .inl (cI, 672, .inl (zz_A (T)))), (z, .inl (cI, 14, .inl (zz_A (Sz))))] := hD
      refine zz_if_le (tgt := 21) hx hb kd_M_words_12 (by decide) (by have := hle c; omega) (fun hbr12 => ?_) (fun hbr12 => ?_)
      · refine lv_iload_n hx hb kd_M_words_21 rfl (lv_at hl 1 rfl) ?_
        exact W.iret hx hb hr (zz_endw (_) (by have e : c = ck_wc G n := (by rcases Nat.lt_or_ge c (ck_wc G n) with h | h; (have := (ck_wl_in h).1; unfold ck_wl at this; omega); omega); rw [e]) ⟨trivial, hP⟩ hS) hS.2.2 kd_M_words_22
      · refine zz_iinc (k := 1) hx hb kd_M_words_15 hl rfl rfl (by decide) rfl (fun ls hl => ?_)
        have hl : lv_has ls 2 [(1, .int (zz_I (((c : Nat) : Int) + 1))), (0, .ref o)] := hl
        refine lv_goto (tgt := 7) hx hb kd_M_words_18 (by decide) ?_
        have hcs : c + 1 ≤ ck_wc G n := by rcases Nat.lt_or_ge c (ck_wc G n) with h | h; omega; have := ck_wl_out h; unfold ck_wl at this; omega
        exact ih7 (c + 1) ((ck_fd G n n 0 ((c : Nat) : Int)).2) ls _ _ (by omega) (hcs) (lv_sub hl [1, 0] rfl) hP hD hS
  exact lp7 _ 0 bg ls _ _ (Nat.lt_succ_self _) (Nat.zero_le _) (lv_sub hl [1, 0] rfl) hP hD hS
