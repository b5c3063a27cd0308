set_option maxHeartbeats 4000000 in
set_option maxRecDepth 100000 in
theorem kc_M_compared (l : Launch) (D : va_G) (cI cW : ClassId) (o : Nat) (t : Nat) (z : Nat) (w : Nat) (y : Nat) (d : Nat) (th : Int) (k : Nat) (bg : Nat) (T : Nat → Int) (Sz : Nat → Int) (Rw : Nat → Int) (Ln : Nat → Int) (Od : Nat → Int) (x : Nat) (x2 : Nat) (n : Nat) (G : Nat → Int) (n2 : Nat) (G2 : Nat → Int) (hx_G : x < 14) (hs_G : Sz x = ((n : Nat) : Int)) (hn_G : n ≤ 48) (ht_G : ∀ q, q < n → T (48 * x + q) = G q) (hg_G : ck_ok G n) (hx_G2 : x2 < 14) (hs_G2 : Sz x2 = ((n2 : Nat) : Int)) (hn_G2 : n2 ≤ 48) (ht_G2 : ∀ q, q < n2 → T (48 * x2 + q) = G2 q) (hg_G2 : ck_ok G2 n2) (hN : zz_N [o, t, z, w, y, d]) : Met l ky_M_compared kv_M_compared ({ frames := 5, cells := 0, slots := 0, locals := 116 }) (va_Pc [.ref o, .int (zz_I (((x : Nat) : Int))), .int (zz_I (((x2 : Nat) : Int)))] (zz_P D cI cW (va_P D kcl [(o, .inr (5, [.int (zz_I (th)), .ref t, .ref z, .int (zz_I (((k : Nat) : Int))), .ref w, .ref y, .ref d, .int (zz_I (((bg : Nat) : Int)))])), (t, .inl (cI, 672, .inl (zz_A (T)))), (z, .inl (cI, 14, .inl (zz_A (Sz)))), (w, .inl (cI, 320, .inl (zz_A (Rw)))), (y, .inl (cI, 2, .inl (zz_A (Ln)))), (d, .inl (cI, 160, .inl (zz_A (Od))))]))) (zz_Qw (fun (u : (Nat → Int) × (Nat → Int) × (Nat → Int)) => some (.int (zz_I (ck_cc G n G2 n2)))) (fun (u : (Nat → Int) × (Nat → Int) × (Nat → Int)) H => (True) ∧ va_P D kcl [(o, .inr (5, [.int (zz_I (th)), .ref t, .ref z, .int (zz_I (((k : Nat) : Int))), .ref w, .ref y, .ref d, .int (zz_I (((bg : Nat) : Int)))])), (t, .inl (cI, 672, .inl (zz_A (T)))), (z, .inl (cI, 14, .inl (zz_A (Sz)))), (w, .inl (cI, 320, .inl (zz_A (u.1)))), (y, .inl (cI, 2, .inl (zz_A (u.2.1)))), (d, .inl (cI, 160, .inl (zz_A (u.2.2))))] H) (zz_F [(o, .inr (5, [.int (zz_I (th)), .ref t, .ref z, .int (zz_I (((k : Nat) : Int))), .ref w, .ref y, .ref d, .int (zz_I (((bg : Nat) : Int)))])), (t, .inl (cI, 672, .inl (zz_A (T)))), (z, .inl (cI, 14, .inl (zz_A (Sz)))), (w, .inl (cI, 320, .inl (zz_A (Rw)))), (y, .inl (cI, 2, .inl (zz_A (Ln)))), (d, .inl (cI, 160, .inl (zz_A (Od))))])) 0 0 (zz_F [(o, .inr (5, [.int (zz_I (th)), .ref t, .ref z, .int (zz_I (((k : Nat) : Int))), .ref w, .ref y, .ref d, .int (zz_I (((bg : Nat) : Int)))])), (t, .inl (cI, 672, .inl (zz_A (T)))), (z, .inl (cI, 14, .inl (zz_A (Sz)))), (w, .inl (cI, 320, .inl (zz_A (Rw)))), (y, .inl (cI, 2, .inl (zz_A (Ln)))), (d, .inl (cI, 160, .inl (zz_A (Od))))]) := by
  refine Met.ofW (cc := kb_M_compared) (maxL := 6) (ret := (some .int)) (by decide) rfl ?_
  intro pg ev sg mg ag bl mt cd s1 Bd hml hv
  obtain ⟨rfl, hP, hK⟩ := hv
  have hP : va_P D kcl [(o, .inr (5, [.int (zz_I (th)), .ref t, .ref z, .int (zz_I (((k : Nat) : Int))), .ref w, .ref y, .ref d, .int (zz_I (((bg : Nat) : Int)))])), (t, .inl (cI, 672, .inl (zz_A (T)))), (z, .inl (cI, 14, .inl (zz_A (Sz)))), (w, .inl (cI, 320, .inl (zz_A (Rw)))), (y, .inl (cI, 2, .inl (zz_A (Ln)))), (d, .inl (cI, 160, .inl (zz_A (Od))))] sg.heap := hP
  have hx := Bd.exec
  have hb := Bd.bytes
  have hr := Bd.returns
  have hlocks := Bd.notSynchronized
  have hts : ∀ w ∈ zz_tbl, w.before _ sg = true := fun w h => atoms_spec (ws := kv_M_compared) Bd.pre w (List.mem_cons_of_mem _ h)
  have hown : sg.vm.findClass kn_M = some mg.cls := findClass_of_methodNamed Bd.named
  have hD : va_D (zz_F [(o, .inr (5, [.int (zz_I (th)), .ref t, .ref z, .int (zz_I (((k : Nat) : Int))), .ref w, .ref y, .ref d, .int (zz_I (((bg : Nat) : Int)))])), (t, .inl (cI, 672, .inl (zz_A (T)))), (z, .inl (cI, 14, .inl (zz_A (Sz)))), (w, .inl (cI, 320, .inl (zz_A (Rw)))), (y, .inl (cI, 2, .inl (zz_A (Ln)))), (d, .inl (cI, 160, .inl (zz_A (Od))))]) [(o, .inr (5, [.int (zz_I (th)), .ref t, .ref z, .int (zz_I (((k : Nat) : Int))), .ref w, .ref y, .ref d, .int (zz_I (((bg : Nat) : Int)))])), (t, .inl (cI, 672, .inl (zz_A (T)))), (z, .inl (cI, 14, .inl (zz_A (Sz)))), (w, .inl (cI, 320, .inl (zz_A (Rw)))), (y, .inl (cI, 2, .inl (zz_A (Ln)))), (d, .inl (cI, 160, .inl (zz_A (Od))))] := zz_Dof hN rfl
  have hS : va_S (zz_F [(o, .inr (5, [.int (zz_I (th)), .ref t, .ref z, .int (zz_I (((k : Nat) : Int))), .ref w, .ref y, .ref d, .int (zz_I (((bg : Nat) : Int)))])), (t, .inl (cI, 672, .inl (zz_A (T)))), (z, .inl (cI, 14, .inl (zz_A (Sz)))), (w, .inl (cI, 320, .inl (zz_A (Rw)))), (y, .inl (cI, 2, .inl (zz_A (Ln)))), (d, .inl (cI, 160, .inl (zz_A (Od))))]) sg.heap sg.heap [] := va_S.rf
  have hl := lv_entry ([.ref o, .int (zz_I (((x : Nat) : Int))), .int (zz_I (((x2 : Nat) : Int)))]) (n := 6) (Nat.le_of_ble_eq_true rfl)
  rw [lg_entry_eq]
  generalize (lg_sl ([.ref o, .int (zz_I (((x : Nat) : Int))), .int (zz_I (((x2 : Nat) : Int)))]) ++ List.replicate (6 - (lg_sl ([.ref o, .int (zz_I (((x : Nat) : Int))), .int (zz_I (((x2 : Nat) : Int)))])).length) Slot.unset).toArray = ls at hl ⊢
  have hl : lv_has ls 6 [(0, .ref o), (1, .int (zz_I (((x : Nat) : Int)))), (2, .int (zz_I (((x2 : Nat) : Int))))] := hl
  have hk1 := ck_KN_le hg_G
  have hk2 := ck_KN_le hg_G2
  have ho1 := ck_ok_K hg_G
  have ho2 := ck_ok_K hg_G2
  refine lv_aload_n hx hb kd_M_compared_0 rfl (lv_at hl 0 rfl) ?_
  refine lv_iload_n hx hb kd_M_compared_1 rfl (lv_at hl 1 rfl) ?_
  refine zz_iconst hx hb (v := 0) (rfl) kd_M_compared_2 ?_
  refine zz_wV ⟨hx, hb, hml, hown, hts⟩ hK (kc_M_makeSkeleton l D cI cW o t z w y d th k bg T Sz Ln Rw 0 Od x n G (by omega) (by assumption) (by omega) (by assumption) (by assumption) (by omega) (hN.sub [0, 1, 2, 3, 4, 5] rfl rfl)) (zz_gV kw_648 kw_650 kw_7 kw_31 kw_651) ⟨rfl, rfl⟩ ⟨rfl, kh_M_makeSkeleton⟩ ⟨Nat.le_of_ble_eq_true rfl, Nat.le_of_ble_eq_true rfl⟩ (va_recv (q := (kn_M, kf_M, 8)) hK hP rfl (show ([(o, .inr (5, [.int (zz_I (th)), .ref t, .ref z, .int (zz_I (((k : Nat) : Int))), .ref w, .ref y, .ref d, .int (zz_I (((bg : Nat) : Int)))])), (t, .inl (cI, 672, .inl (zz_A (T)))), (z, .inl (cI, 14, .inl (zz_A (Sz)))), (w, .inl (cI, 320, .inl (zz_A (Rw)))), (y, .inl (cI, 2, .inl (zz_A (Ln)))), (d, .inl (cI, 160, .inl (zz_A (Od))))] : va_W)[0]? = some _ from rfl)) hP hD hS [0, 1, 2, 3, 4, 5] rfl rfl (fun _ => rfl) rfl hl.1 rfl (Nat.le_of_ble_eq_true rfl) kd_M_compared_3 ⟨Nat.le_of_ble_eq_true rfl, Nat.le_of_ble_eq_true rfl⟩ (fun u3 H locs hu3 hP hD hS => ?_)
  have hP : va_P D kcl [(o, .inr (5, [.int (zz_I (th)), .ref t, .ref z, .int (zz_I (((k : Nat) : Int))), .ref w, .ref y, .ref d, .int (zz_I (((bg : Nat) : Int)))])), (t, .inl (cI, 672, .inl (zz_A (T)))), (z, .inl (cI, 14, .inl (zz_A (Sz)))), (w, .inl (cI, 320, .inl (zz_A (u3.1)))), (y, .inl (cI, 2, .inl (zz_A (u3.2.1)))), (d, .inl (cI, 160, .inl (zz_A (u3.2.2))))] H := hP
  have hD : va_D (zz_F [(o, .inr (5, [.int (zz_I (th)), .ref t, .ref z, .int (zz_I (((k : Nat) : Int))), .ref w, .ref y, .ref d, .int (zz_I (((bg : Nat) : Int)))])), (t, .inl (cI, 672, .inl (zz_A (T)))), (z, .inl (cI, 14, .inl (zz_A (Sz)))), (w, .inl (cI, 320, .inl (zz_A (Rw)))), (y, .inl (cI, 2, .inl (zz_A (Ln)))), (d, .inl (cI, 160, .inl (zz_A (Od))))]) [(o, .inr (5, [.int (zz_I (th)), .ref t, .ref z, .int (zz_I (((k : Nat) : Int))), .ref w, .ref y, .ref d, .int (zz_I (((bg : Nat) : Int)))])), (t, .inl (cI, 672, .inl (zz_A (T)))), (z, .inl (cI, 14, .inl (zz_A (Sz)))), (w, .inl (cI, 320, .inl (zz_A (u3.1)))), (y, .inl (cI, 2, .inl (zz_A (u3.2.1)))), (d, .inl (cI, 160, .inl (zz_A (u3.2.2))))] := hD
  obtain ⟨-, c3, d3, -⟩ := hu3
  have c3 : ∀ q, q < ck_KN G n → u3.1 q = ck_KF G n q := fun q hq => by have h := c3 q hq; rw [show 160 * 0 + q = q by omega] at h; exact h
  refine lv_aload_n hx hb kd_M_compared_6 rfl (lv_at hl 0 rfl) ?_
  refine lv_iload_n hx hb kd_M_compared_7 rfl (lv_at hl 2 rfl) ?_
  refine zz_iconst hx hb (v := 1) (rfl) kd_M_compared_8 ?_
  refine zz_wV ⟨hx, hb, hml, hown, hts⟩ hK (kc_M_makeSkeleton l D cI cW o t z w y d th k bg T Sz u3.2.1 u3.1 1 u3.2.2 x2 n2 G2 (by omega) (by assumption) (by omega) (by assumption) (by assumption) (by omega) (hN.sub [0, 1, 2, 3, 4, 5] rfl rfl)) (zz_gV kw_648 kw_650 kw_7 kw_31 kw_651) ⟨rfl, rfl⟩ ⟨rfl, kh_M_makeSkeleton⟩ ⟨Nat.le_of_ble_eq_true rfl, Nat.le_of_ble_eq_true rfl⟩ (va_recv (q := (kn_M, kf_M, 8)) hK hP rfl (show ([(o, .inr (5, [.int (zz_I (th)), .ref t, .ref z, .int (zz_I (((k : Nat) : Int))), .ref w, .ref y, .ref d, .int (zz_I (((bg : Nat) : Int)))])), (t, .inl (cI, 672, .inl (zz_A (T)))), (z, .inl (cI, 14, .inl (zz_A (Sz)))), (w, .inl (cI, 320, .inl (zz_A (u3.1)))), (y, .inl (cI, 2, .inl (zz_A (u3.2.1)))), (d, .inl (cI, 160, .inl (zz_A (u3.2.2))))] : va_W)[0]? = some _ from rfl)) hP hD hS [0, 1, 2, 3, 4, 5] rfl rfl (fun _ => rfl) rfl hl.1 rfl (Nat.le_of_ble_eq_true rfl) kd_M_compared_9 ⟨Nat.le_of_ble_eq_true rfl, Nat.le_of_ble_eq_true rfl⟩ (fun u9 H locs hu9 hP hD hS => ?_)
  have hP : va_P D kcl [(o, .inr (5, [.int (zz_I (th)), .ref t, .ref z, .int (zz_I (((k : Nat) : Int))), .ref w, .ref y, .ref d, .int (zz_I (((bg : Nat) : Int)))])), (t, .inl (cI, 672, .inl (zz_A (T)))), (z, .inl (cI, 14, .inl (zz_A (Sz)))), (w, .inl (cI, 320, .inl (zz_A (u9.1)))), (y, .inl (cI, 2, .inl (zz_A (u9.2.1)))), (d, .inl (cI, 160, .inl (zz_A (u9.2.2))))] H := hP
  have hD : va_D (zz_F [(o, .inr (5, [.int (zz_I (th)), .ref t, .ref z, .int (zz_I (((k : Nat) : Int))), .ref w, .ref y, .ref d, .int (zz_I (((bg : Nat) : Int)))])), (t, .inl (cI, 672, .inl (zz_A (T)))), (z, .inl (cI, 14, .inl (zz_A (Sz)))), (w, .inl (cI, 320, .inl (zz_A (Rw)))), (y, .inl (cI, 2, .inl (zz_A (Ln)))), (d, .inl (cI, 160, .inl (zz_A (Od))))]) [(o, .inr (5, [.int (zz_I (th)), .ref t, .ref z, .int (zz_I (((k : Nat) : Int))), .ref w, .ref y, .ref d, .int (zz_I (((bg : Nat) : Int)))])), (t, .inl (cI, 672, .inl (zz_A (T)))), (z, .inl (cI, 14, .inl (zz_A (Sz)))), (w, .inl (cI, 320, .inl (zz_A (u9.1)))), (y, .inl (cI, 2, .inl (zz_A (u9.2.1)))), (d, .inl (cI, 160, .inl (zz_A (u9.2.2))))] := hD
  obtain ⟨b9, c9, d9, e9⟩ := hu9
  have b0 : ∀ q, q < ck_KN G n → u9.1 q = ck_KF G n q := fun q hq => (b9 q (Or.inl (by omega))).trans (c3 q hq)
  have b1 : ∀ q, q < ck_KN G2 n2 → u9.1 (160 + q) = ck_KF G2 n2 q := fun q hq => by have h := c9 q hq; rw [show 160 * 1 + q = 160 + q by omega] at h; exact h
  have l0 : u9.2.1 0 = ((ck_KN G n : Nat) : Int) := (e9 0 (by omega)).trans d3
  refine zz_iconst hx hb (v := 0) (rfl) kd_M_compared_12 ?_
  refine lv_istore_n hx hb kd_M_compared_13 rfl hl (by decide) rfl (fun ls hl => ?_)
  have hl : lv_has ls 6 [(3, .int (zz_I (0))), (0, .ref o), (1, .int (zz_I (((x : Nat) : Int)))), (2, .int (zz_I (((x2 : Nat) : Int))))] := hl
  have lp14 : ∀ (fuel : Nat) (i : Nat) (ls : Array Slot) (H : Heap) (locs : List Loc), ck_KN G n - i < fuel → (i ≤ ck_KN G n) → (ck_sp (ck_KF G n) (ck_KN G n) (ck_KF G2 n2) (ck_KN G2 n2) i (ck_KN G n - i) = ck_sp (ck_KF G n) (ck_KN G n) (ck_KF G2 n2) (ck_KN G2 n2) 0 (ck_KN G n)) → lv_has ls 6 [(0, .ref o), (1, .int (zz_I (((x : Nat) : Int)))), (2, .int (zz_I (((x2 : Nat) : Int)))), (3, .int (zz_I (((i : Nat) : Int))))] → va_P D kcl [(o, .inr (5, [.int (zz_I (th)), .ref t, .ref z, .int (zz_I (((k : Nat) : Int))), .ref w, .ref y, .ref d, .int (zz_I (((bg : Nat) : Int)))])), (t, .inl (cI, 672, .inl (zz_A (T)))), (z, .inl (cI, 14, .inl (zz_A (Sz)))), (w, .inl (cI, 320, .inl (zz_A (u9.1)))), (y, .inl (cI, 2, .inl (zz_A (u9.2.1)))), (d, .inl (cI, 160, .inl (zz_A (u9.2.2))))] H → va_D (zz_F [(o, .inr (5, [.int (zz_I (th)), .ref t, .ref z, .int (zz_I (((k : Nat) : Int))), .ref w, .ref y, .ref d, .int (zz_I (((bg : Nat) : Int)))])), (t, .inl (cI, 672, .inl (zz_A (T)))), (z, .inl (cI, 14, .inl (zz_A (Sz)))), (w, .inl (cI, 320, .inl (zz_A (Rw)))), (y, .inl (cI, 2, .inl (zz_A (Ln)))), (d, .inl (cI, 160, .inl (zz_A (Od))))]) [(o, .inr (5, [.int (zz_I (th)), .ref t, .ref z, .int (zz_I (((k : Nat) : Int))), .ref w, .ref y, .ref d, .int (zz_I (((bg : Nat) : Int)))])), (t, .inl (cI, 672, .inl (zz_A (T)))), (z, .inl (cI, 14, .inl (zz_A (Sz)))), (w, .inl (cI, 320, .inl (zz_A (u9.1)))), (y, .inl (cI, 2, .inl (zz_A (u9.2.1)))), (d, .inl (cI, 160, .inl (zz_A (u9.2.2))))] → va_S (zz_F [(o, .inr (5, [.int (zz_I (th)), .ref t, .ref z, .int (zz_I (((k : Nat) : Int))), .ref w, .ref y, .ref d, .int (zz_I (((bg : Nat) : Int)))])), (t, .inl (cI, 672, .inl (zz_A (T)))), (z, .inl (cI, 14, .inl (zz_A (Sz)))), (w, .inl (cI, 320, .inl (zz_A (Rw)))), (y, .inl (cI, 2, .inl (zz_A (Ln)))), (d, .inl (cI, 160, .inl (zz_A (Od))))]) sg.heap H locs → W pg l ev (headSpec kv_M_compared ({ frames := 5, cells := 0, slots := 0, locals := 116 })).room sg mg [.ref o, .int (zz_I (((x : Nat) : Int))), .int (zz_I (((x2 : Nat) : Int)))].toArray bl mt cd H locs 0 0 (MQ bl (zz_Qw (fun (u : (Nat → Int) × (Nat → Int) × (Nat → Int)) => some (.int (zz_I (ck_cc G n G2 n2)))) (fun (u : (Nat → Int) × (Nat → Int) × (Nat → Int)) H => (True) ∧ va_P D kcl [(o, .inr (5, [.int (zz_I (th)), .ref t, .ref z, .int (zz_I (((k : Nat) : Int))), .ref w, .ref y, .ref d, .int (zz_I (((bg : Nat) : Int)))])), (t, .inl (cI, 672, .inl (zz_A (T)))), (z, .inl (cI, 14, .inl (zz_A (Sz)))), (w, .inl (cI, 320, .inl (zz_A (u.1)))), (y, .inl (cI, 2, .inl (zz_A (u.2.1)))), (d, .inl (cI, 160, .inl (zz_A (u.2.2))))] H) (zz_F [(o, .inr (5, [.int (zz_I (th)), .ref t, .ref z, .int (zz_I (((k : Nat) : Int))), .ref w, .ref y, .ref d, .int (zz_I (((bg : Nat) : Int)))])), (t, .inl (cI, 672, .inl (zz_A (T)))), (z, .inl (cI, 14, .inl (zz_A (Sz)))), (w, .inl (cI, 320, .inl (zz_A (Rw)))), (y, .inl (cI, 2, .inl (zz_A (Ln)))), (d, .inl (cI, 160, .inl (zz_A (Od))))])) [.ref o, .int (zz_I (((x : Nat) : Int))), .int (zz_I (((x2 : Nat) : Int)))].toArray sg 0 0 (zz_F [(o, .inr (5, [.int (zz_I (th)), .ref t, .ref z, .int (zz_I (((k : Nat) : Int))), .ref w, .ref y, .ref d, .int (zz_I (((bg : Nat) : Int)))])), (t, .inl (cI, 672, .inl (zz_A (T)))), (z, .inl (cI, 14, .inl (zz_A (Sz)))), (w, .inl (cI, 320, .inl (zz_A (Rw)))), (y, .inl (cI, 2, .inl (zz_A (Ln)))), (d, .inl (cI, 160, .inl (zz_A (Od))))])) (F0 mg 14 ls []) := by
    intro fuel
    induction fuel with
    | zero => intro i ls H locs hfu; exact absurd hfu (Nat.not_lt_zero _)
    | succ fuel ih14 =>
      intro i ls H locs hfu hi hq hl hP hD hS
      have jn59 : ∀  (ls : Array Slot), (ck_sp (ck_KF G n) (ck_KN G n) (ck_KF G2 n2) (ck_KN G2 n2) 0 (ck_KN G n) = i) → lv_has ls 6 [(0, .ref o), (1, .int (zz_I (((x : Nat) : Int)))), (2, .int (zz_I (((x2 : Nat) : Int)))), (3, .int (zz_I (((i : Nat) : Int))))] → W pg l ev (headSpec kv_M_compared ({ frames := 5, cells := 0, slots := 0, locals := 116 })).room sg mg [.ref o, .int (zz_I (((x : Nat) : Int))), .int (zz_I (((x2 : Nat) : Int)))].toArray bl mt cd H locs 0 0 (MQ bl (zz_Qw (fun (u : (Nat → Int) × (Nat → Int) × (Nat → Int)) => some (.int (zz_I (ck_cc G n G2 n2)))) (fun (u : (Nat → Int) × (Nat → Int) × (Nat → Int)) H => (True) ∧ va_P D kcl [(o, .inr (5, [.int (zz_I (th)), .ref t, .ref z, .int (zz_I (((k : Nat) : Int))), .ref w, .ref y, .ref d, .int (zz_I (((bg : Nat) : Int)))])), (t, .inl (cI, 672, .inl (zz_A (T)))), (z, .inl (cI, 14, .inl (zz_A (Sz)))), (w, .inl (cI, 320, .inl (zz_A (u.1)))), (y, .inl (cI, 2, .inl (zz_A (u.2.1)))), (d, .inl (cI, 160, .inl (zz_A (u.2.2))))] H) (zz_F [(o, .inr (5, [.int (zz_I (th)), .ref t, .ref z, .int (zz_I (((k : Nat) : Int))), .ref w, .ref y, .ref d, .int (zz_I (((bg : Nat) : Int)))])), (t, .inl (cI, 672, .inl (zz_A (T)))), (z, .inl (cI, 14, .inl (zz_A (Sz)))), (w, .inl (cI, 320, .inl (zz_A (Rw)))), (y, .inl (cI, 2, .inl (zz_A (Ln)))), (d, .inl (cI, 160, .inl (zz_A (Od))))])) [.ref o, .int (zz_I (((x : Nat) : Int))), .int (zz_I (((x2 : Nat) : Int)))].toArray sg 0 0 (zz_F [(o, .inr (5, [.int (zz_I (th)), .ref t, .ref z, .int (zz_I (((k : Nat) : Int))), .ref w, .ref y, .ref d, .int (zz_I (((bg : Nat) : Int)))])), (t, .inl (cI, 672, .inl (zz_A (T)))), (z, .inl (cI, 14, .inl (zz_A (Sz)))), (w, .inl (cI, 320, .inl (zz_A (Rw)))), (y, .inl (cI, 2, .inl (zz_A (Ln)))), (d, .inl (cI, 160, .inl (zz_A (Od))))])) (F0 mg 59 ls []) := by
        intro  ls hst hl
        refine lv_iload_n hx hb kd_M_compared_59 rfl (lv_at hl 3 rfl) ?_
        refine lv_aload_n hx hb kd_M_compared_60 rfl (lv_at hl 0 rfl) ?_
        refine va_get (D := D) (ci := 5) (v := .ref y) (C := kn_M) (T := kf_M) (N := 8) hx hb hts ki_M hown hK hP 0 rfl rfl 5 (by decide) (hts _ kw_606) (fun _ h9 => h9) rfl kd_M_compared_61 ?_
        refine zz_iconst hx hb (v := 0) (rfl) kd_M_compared_64 ?_
        refine zz_iald hx hb hK hP 4 0 rfl rfl (by omega) (v := ((ck_KN G n : Nat) : Int)) (l0) kd_M_compared_65 ?_
        have jn79 : ∀  (ls : Array Slot), lv_has ls 6 [(0, .ref o), (1, .int (zz_I (((x : Nat) : Int)))), (2, .int (zz_I (((x2 : Nat) : Int)))), (3, .int (zz_I (((i : Nat) : Int))))] → W pg l ev (headSpec kv_M_compared ({ frames := 5, cells := 0, slots := 0, locals := 116 })).room sg mg [.ref o, .int (zz_I (((x : Nat) : Int))), .int (zz_I (((x2 : Nat) : Int)))].toArray bl mt cd H locs 0 0 (MQ bl (zz_Qw (fun (u : (Nat → Int) × (Nat → Int) × (Nat → Int)) => some (.int (zz_I (ck_cc G n G2 n2)))) (fun (u : (Nat → Int) × (Nat → Int) × (Nat → Int)) H => (True) ∧ va_P D kcl [(o, .inr (5, [.int (zz_I (th)), .ref t, .ref z, .int (zz_I (((k : Nat) : Int))), .ref w, .ref y, .ref d, .int (zz_I (((bg : Nat) : Int)))])), (t, .inl (cI, 672, .inl (zz_A (T)))), (z, .inl (cI, 14, .inl (zz_A (Sz)))), (w, .inl (cI, 320, .inl (zz_A (u.1)))), (y, .inl (cI, 2, .inl (zz_A (u.2.1)))), (d, .inl (cI, 160, .inl (zz_A (u.2.2))))] H) (zz_F [(o, .inr (5, [.int (zz_I (th)), .ref t, .ref z, .int (zz_I (((k : Nat) : Int))), .ref w, .ref y, .ref d, .int (zz_I (((bg : Nat) : Int)))])), (t, .inl (cI, 672, .inl (zz_A (T)))), (z, .inl (cI, 14, .inl (zz_A (Sz)))), (w, .inl (cI, 320, .inl (zz_A (Rw)))), (y, .inl (cI, 2, .inl (zz_A (Ln)))), (d, .inl (cI, 160, .inl (zz_A (Od))))])) [.ref o, .int (zz_I (((x : Nat) : Int))), .int (zz_I (((x2 : Nat) : Int)))].toArray sg 0 0 (zz_F [(o, .inr (5, [.int (zz_I (th)), .ref t, .ref z, .int (zz_I (((k : Nat) : Int))), .ref w, .ref y, .ref d, .int (zz_I (((bg : Nat) : Int)))])), (t, .inl (cI, 672, .inl (zz_A (T)))), (z, .inl (cI, 14, .inl (zz_A (Sz)))), (w, .inl (cI, 320, .inl (zz_A (Rw)))), (y, .inl (cI, 2, .inl (zz_A (Ln)))), (d, .inl (cI, 160, .inl (zz_A (Od))))])) (F0 mg 79 ls [.int (zz_I (ck_ri (ck_KF G n) (ck_KN G n) ((i : Nat) : Int)))]) := by
          intro  ls  hl
          refine lv_istore hx hb kd_M_compared_79 hl (by decide) rfl (fun ls hl => ?_)
          have hl : lv_has ls 6 [(4, .int (zz_I (ck_ri (ck_KF G n) (ck_KN G n) ((i : Nat) : Int)))), (0, .ref o), (1, .int (zz_I (((x : Nat) : Int)))), (2, .int (zz_I (((x2 : Nat) : Int)))), (3, .int (zz_I (((i : Nat) : Int))))] := hl
          refine lv_iload_n hx hb kd_M_compared_81 rfl (lv_at hl 4 rfl) ?_
          refine lv_aload_n hx hb kd_M_compared_82 rfl (lv_at hl 1 rfl) ?_
          refine va_get (D := D) (ci := 5) (v := .ref y) (C := kn_M) (T := kf_M) (N := 8) hx hb hts ki_M hown hK hP 0 rfl rfl 5 (by decide) (hts _ kw_606) (fun _ h9 => h9) rfl kd_M_compared_83 ?_
          refine zz_iconst hx hb (v := 1) (rfl) kd_M_compared_86 ?_
          refine zz_iald hx hb hK hP 4 0 rfl rfl (by omega) (v := ((ck_KN G2 n2 : Nat) : Int)) (d9) kd_M_compared_87 ?_
          have jn105 : ∀  (ls : Array Slot), lv_has ls 6 [(4, .int (zz_I (ck_ri (ck_KF G n) (ck_KN G n) ((i : Nat) : Int)))), (0, .ref o), (1, .int (zz_I (((x : Nat) : Int)))), (2, .int (zz_I (((x2 : Nat) : Int)))), (3, .int (zz_I (((i : Nat) : Int))))] → W pg l ev (headSpec kv_M_compared ({ frames := 5, cells := 0, slots := 0, locals := 116 })).room sg mg [.ref o, .int (zz_I (((x : Nat) : Int))), .int (zz_I (((x2 : Nat) : Int)))].toArray bl mt cd H locs 0 0 (MQ bl (zz_Qw (fun (u : (Nat → Int) × (Nat → Int) × (Nat → Int)) => some (.int (zz_I (ck_cc G n G2 n2)))) (fun (u : (Nat → Int) × (Nat → Int) × (Nat → Int)) H => (True) ∧ va_P D kcl [(o, .inr (5, [.int (zz_I (th)), .ref t, .ref z, .int (zz_I (((k : Nat) : Int))), .ref w, .ref y, .ref d, .int (zz_I (((bg : Nat) : Int)))])), (t, .inl (cI, 672, .inl (zz_A (T)))), (z, .inl (cI, 14, .inl (zz_A (Sz)))), (w, .inl (cI, 320, .inl (zz_A (u.1)))), (y, .inl (cI, 2, .inl (zz_A (u.2.1)))), (d, .inl (cI, 160, .inl (zz_A (u.2.2))))] H) (zz_F [(o, .inr (5, [.int (zz_I (th)), .ref t, .ref z, .int (zz_I (((k : Nat) : Int))), .ref w, .ref y, .ref d, .int (zz_I (((bg : Nat) : Int)))])), (t, .inl (cI, 672, .inl (zz_A (T)))), (z, .inl (cI, 14, .inl (zz_A (Sz)))), (w, .inl (cI, 320, .inl (zz_A (Rw)))), (y, .inl (cI, 2, .inl (zz_A (Ln)))), (d, .inl (cI, 160, .inl (zz_A (Od))))])) [.ref o, .int (zz_I (((x : Nat) : Int))), .int (zz_I (((x2 : Nat) : Int)))].toArray sg 0 0 (zz_F [(o, .inr (5, [.int (zz_I (th)), .ref t, .ref z, .int (zz_I (((k : Nat) : Int))), .ref w, .ref y, .ref d, .int (zz_I (((bg : Nat) : Int)))])), (t, .inl (cI, 672, .inl (zz_A (T)))), (z, .inl (cI, 14, .inl (zz_A (Sz)))), (w, .inl (cI, 320, .inl (zz_A (Rw)))), (y, .inl (cI, 2, .inl (zz_A (Ln)))), (d, .inl (cI, 160, .inl (zz_A (Od))))])) (F0 mg 105 ls [.int (zz_I (ck_ri (ck_KF G2 n2) (ck_KN G2 n2) ((i : Nat) : Int)))]) := by
            intro  ls  hl
            refine lv_istore hx hb kd_M_compared_105 hl (by decide) rfl (fun ls hl => ?_)
            have hl : lv_has ls 6 [(5, .int (zz_I (ck_ri (ck_KF G2 n2) (ck_KN G2 n2) ((i : Nat) : Int)))), (4, .int (zz_I (ck_ri (ck_KF G n) (ck_KN G n) ((i : Nat) : Int)))), (0, .ref o), (1, .int (zz_I (((x : Nat) : Int)))), (2, .int (zz_I (((x2 : Nat) : Int)))), (3, .int (zz_I (((i : Nat) : Int))))] := hl
            refine lv_iload hx hb kd_M_compared_107 (lv_at hl 1 rfl) ?_
            refine lv_iload hx hb kd_M_compared_109 (lv_at hl 0 rfl) ?_
            refine zz_isub hx hb (v := (ck_ri (ck_KF G n) (ck_KN G n) ((i : Nat) : Int)) - (ck_ri (ck_KF G2 n2) (ck_KN G2 n2) ((i : Nat) : Int))) (rfl) kd_M_compared_111 ?_
            exact W.iret hx hb hr (zz_endw ((_, _, _)) (by rw [ck_cc_of2 hst]) ⟨trivial, hP⟩ hS) hS.2.2 kd_M_compared_112
          refine zz_icmp_ge (tgt := 104) hx hb kd_M_compared_88 (by decide) (by omega) (fun hbr88 => ?_) (fun hbr88 => ?_)
          · refine zz_iconst hx hb (v := ck_ri (ck_KF G2 n2) (ck_KN G2 n2) ((i : Nat) : Int)) ((ck_ri_out (by omega)).symm) kd_M_compared_104 ?_
            exact jn105  ls  (lv_sub hl [0, 1, 2, 3, 4] rfl)
          · refine lv_aload_n hx hb kd_M_compared_91 rfl (lv_at hl 1 rfl) ?_
            refine va_get (D := D) (ci := 5) (v := .ref w) (C := kn_M) (T := kf_M) (N := 8) hx hb hts ki_M hown hK hP 0 rfl rfl 4 (by decide) (hts _ kw_605) (fun _ h9 => h9) rfl kd_M_compared_92 ?_
            refine zz_sipush hx hb kd_M_compared_95 (by decide) ?_
            refine lv_iload_n hx hb kd_M_compared_98 rfl (lv_at hl 4 rfl) ?_
            refine zz_iadd hx hb (v := ((160 + i : Nat) : Int)) (by omega) kd_M_compared_99 ?_
            refine zz_iald hx hb hK hP 3 0 rfl rfl (by omega) (v := ck_ri (ck_KF G2 n2) (ck_KN G2 n2) ((i : Nat) : Int)) ((b1 i (by omega)).trans (ck_ri_in (by omega)).symm) kd_M_compared_100 ?_
            refine lv_goto (tgt := 105) hx hb kd_M_compared_101 (by decide) ?_
            exact jn105  ls  (lv_sub hl [0, 1, 2, 3, 4] rfl)
        refine zz_icmp_ge (tgt := 78) hx hb kd_M_compared_66 (by decide) (by omega) (fun hbr66 => ?_) (fun hbr66 => ?_)
        · refine zz_iconst hx hb (v := ck_ri (ck_KF G n) (ck_KN G n) ((i : Nat) : Int)) ((ck_ri_out (by omega)).symm) kd_M_compared_78 ?_
          exact jn79  ls  (lv_sub hl [0, 1, 2, 3] rfl)
        · refine lv_aload_n hx hb kd_M_compared_69 rfl (lv_at hl 0 rfl) ?_
          refine va_get (D := D) (ci := 5) (v := .ref w) (C := kn_M) (T := kf_M) (N := 8) hx hb hts ki_M hown hK hP 0 rfl rfl 4 (by decide) (hts _ kw_605) (fun _ h9 => h9) rfl kd_M_compared_70 ?_
          refine lv_iload_n hx hb kd_M_compared_73 rfl (lv_at hl 3 rfl) ?_
          refine zz_iald hx hb hK hP 3 0 rfl rfl (by omega) (v := ck_ri (ck_KF G n) (ck_KN G n) ((i : Nat) : Int)) ((b0 i (by omega)).trans (ck_ri_in (by omega)).symm) kd_M_compared_74 ?_
          refine lv_goto (tgt := 79) hx hb kd_M_compared_75 (by decide) ?_
          exact jn79  ls  (lv_sub hl [0, 1, 2, 3] rfl)
      refine lv_iload_n hx hb kd_M_compared_14 rfl (lv_at hl 3 rfl) ?_
      refine lv_aload_n hx hb kd_M_compared_15 rfl (lv_at hl 0 rfl) ?_
      refine va_get (D := D) (ci := 5) (v := .ref y) (C := kn_M) (T := kf_M) (N := 8) hx hb hts ki_M hown hK hP 0 rfl rfl 5 (by decide) (hts _ kw_606) (fun _ h9 => h9) rfl kd_M_compared_16 ?_
      refine zz_iconst hx hb (v := 0) (rfl) kd_M_compared_19 ?_
      refine zz_iald hx hb hK hP 4 0 rfl rfl (by omega) (v := ((ck_KN G n : Nat) : Int)) (l0) kd_M_compared_20 ?_
      refine zz_icmp_ge (tgt := 59) hx hb kd_M_compared_21 (by decide) (by omega) (fun hbr21 => ?_) (fun hbr21 => ?_)
      · exact jn59  ls (hq.symm.trans (by first | exact ck_sp_end (by omega) | exact ck_sp_no (by omega))) (lv_sub hl [0, 1, 2, 3] rfl)
      · refine lv_iload_n hx hb kd_M_compared_24 rfl (lv_at hl 3 rfl) ?_
        refine lv_aload_n hx hb kd_M_compared_25 rfl (lv_at hl 0 rfl) ?_
        refine va_get (D := D) (ci := 5) (v := .ref y) (C := kn_M) (T := kf_M) (N := 8) hx hb hts ki_M hown hK hP 0 rfl rfl 5 (by decide) (hts _ kw_606) (fun _ h9 => h9) rfl kd_M_compared_26 ?_
        refine zz_iconst hx hb (v := 1) (rfl) kd_M_compared_29 ?_
        refine zz_iald hx hb hK hP 4 0 rfl rfl (by omega) (v := ((ck_KN G2 n2 : Nat) : Int)) (d9) kd_M_compared_30 ?_
        refine zz_icmp_ge (tgt := 59) hx hb kd_M_compared_31 (by decide) (by omega) (fun hbr31 => ?_) (fun hbr31 => ?_)
        · exact jn59  ls (hq.symm.trans (by first | exact ck_sp_end (by omega) | exact ck_sp_no (by omega))) (lv_sub hl [0, 1, 2, 3] rfl)
        · refine lv_aload_n hx hb kd_M_compared_34 rfl (lv_at hl 0 rfl) ?_
          refine va_get (D := D) (ci := 5) (v := .ref w) (C := kn_M) (T := kf_M) (N := 8) hx hb hts ki_M hown hK hP 0 rfl rfl 4 (by decide) (hts _ kw_605) (fun _ h9 => h9) rfl kd_M_compared_35 ?_
          refine lv_iload_n hx hb kd_M_compared_38 rfl (lv_at hl 3 rfl) ?_
          refine zz_iald hx hb hK hP 3 0 rfl rfl (by omega) (v := ck_KF G n i) (b0 i (by omega)) kd_M_compared_39 ?_
          refine lv_aload_n hx hb kd_M_compared_40 rfl (lv_at hl 0 rfl) ?_
          refine va_get (D := D) (ci := 5) (v := .ref w) (C := kn_M) (T := kf_M) (N := 8) hx hb hts ki_M hown hK hP 0 rfl rfl 4 (by decide) (hts _ kw_605) (fun _ h9 => h9) rfl kd_M_compared_41 ?_
          refine zz_sipush hx hb kd_M_compared_44 (by decide) ?_
          refine lv_iload_n hx hb kd_M_compared_47 rfl (lv_at hl 3 rfl) ?_
          refine zz_iadd hx hb (v := ((160 + i : Nat) : Int)) (by omega) kd_M_compared_48 ?_
          refine zz_iald hx hb hK hP 3 0 rfl rfl (by omega) (v := ck_KF G2 n2 i) (b1 i (by omega)) kd_M_compared_49 ?_
          refine zz_icmp_ne (tgt := 59) hx hb kd_M_compared_50 (by decide) (by have := ho1 i (by omega); have := ho2 i (by omega); omega) (fun hbr50 => ?_) (fun hbr50 => ?_)
          · exact jn59  ls (hq.symm.trans (by first | exact ck_sp_end (by omega) | exact ck_sp_no (by omega))) (lv_sub hl [0, 1, 2, 3] rfl)
          · refine zz_iinc (k := 3) hx hb kd_M_compared_53 hl rfl rfl (by decide) rfl (fun ls hl => ?_)
            have hl : lv_has ls 6 [(3, .int (zz_I (((i : Nat) : Int) + 1))), (0, .ref o), (1, .int (zz_I (((x : Nat) : Int)))), (2, .int (zz_I (((x2 : Nat) : Int))))] := hl
            refine lv_goto (tgt := 14) hx hb kd_M_compared_56 (by decide) ?_
            exact ih14 (i + 1) ls _ _ (by omega) (by omega) ((ck_sp_go (by omega) (by omega) (by assumption)).trans hq) (lv_sub hl [1, 2, 3, 0] rfl) hP hD hS
  exact lp14 _ 0 ls _ _ (Nat.lt_succ_self _) (Nat.zero_le _) (rfl) (lv_sub hl [1, 2, 3, 0] rfl) hP hD hS
set_option maxHeartbeats 4000000 in
set_option maxRecDepth 100000 in
theorem kc_M_looksLike (l : Launch) (D : va_G) (cI cW : ClassId) (o : Nat) (t : Nat) (z : Nat) (w : Nat) (y : Nat) (d : Nat) (th : Int) (k : Nat) (bg : Nat) (T : Nat → Int) (Sz : Nat → Int) (Rw : Nat → Int) (Ln : Nat → Int) (Od : Nat → Int) (x : Nat) (x2 : Nat) (n : Nat) (G : Nat → Int) (n2 : Nat) (G2 : Nat → Int) (hx_G : x < 14) (hs_G : Sz x = ((n : Nat) : Int)) (hn_G : n ≤ 48) (ht_G : ∀ q, q < n → T (48 * x + q) = G q) (hg_G : ck_ok G n) (hx_G2 : x2 < 14) (hs_G2 : Sz x2 = ((n2 : Nat) : Int)) (hn_G2 : n2 ≤ 48) (ht_G2 : ∀ q, q < n2 → T (48 * x2 + q) = G2 q) (hg_G2 : ck_ok G2 n2) (hN : zz_N [o, t, z, w, y, d]) : Met l ky_M_looksLike kv_M_looksLike ({ frames := 6, cells := 0, slots := 0, locals := 141 }) (va_Pc [.ref o, .int (zz_I (((x : Nat) : Int))), .int (zz_I (((x2 : Nat) : Int)))] (zz_P D cI cW (va_P D kcl [(o, .inr (5, [.int (zz_I (th)), .ref t, .ref z, .int (zz_I (((k : Nat) : Int))), .ref w, .ref y, .ref d, .int (zz_I (((bg : Nat) : Int)))])), (t, .inl (cI, 672, .inl (zz_A (T)))), (z, .inl (cI, 14, .inl (zz_A (Sz)))), (w, .inl (cI, 320, .inl (zz_A (Rw)))), (y, .inl (cI, 2, .inl (zz_A (Ln)))), (d, .inl (cI, 160, .inl (zz_A (Od))))]))) (zz_Qw (fun (u : (Nat → Int) × (Nat → Int) × (Nat → Int)) => some (.int (zz_I (zz_b (ck_ml G n G2 n2))))) (fun (u : (Nat → Int) × (Nat → Int) × (Nat → Int)) H => (True) ∧ va_P D kcl [(o, .inr (5, [.int (zz_I (th)), .ref t, .ref z, .int (zz_I (((k : Nat) : Int))), .ref w, .ref y, .ref d, .int (zz_I (((bg : Nat) : Int)))])), (t, .inl (cI, 672, .inl (zz_A (T)))), (z, .inl (cI, 14, .inl (zz_A (Sz)))), (w, .inl (cI, 320, .inl (zz_A (u.1)))), (y, .inl (cI, 2, .inl (zz_A (u.2.1)))), (d, .inl (cI, 160, .inl (zz_A (u.2.2))))] H) (zz_F [(o, .inr (5, [.int (zz_I (th)), .ref t, .ref z, .int (zz_I (((k : Nat) : Int))), .ref w, .ref y, .ref d, .int (zz_I (((bg : Nat) : Int)))])), (t, .inl (cI, 672, .inl (zz_A (T)))), (z, .inl (cI, 14, .inl (zz_A (Sz)))), (w, .inl (cI, 320, .inl (zz_A (Rw)))), (y, .inl (cI, 2, .inl (zz_A (Ln)))), (d, .inl (cI, 160, .inl (zz_A (Od))))])) 0 0 (zz_F [(o, .inr (5, [.int (zz_I (th)), .ref t, .ref z, .int (zz_I (((k : Nat) : Int))), .ref w, .ref y, .ref d, .int (zz_I (((bg : Nat) : Int)))])), (t, .inl (cI, 672, .inl (zz_A (T)))), (z, .inl (cI, 14, .inl (zz_A (Sz)))), (w, .inl (cI, 320, .inl (zz_A (Rw)))), (y, .inl (cI, 2, .inl (zz_A (Ln)))), (d, .inl (cI, 160, .inl (zz_A (Od))))]) := by
  refine Met.ofW (cc := kb_M_looksLike) (maxL := 3) (ret := (some .boolean)) (by decide) rfl ?_
  intro pg ev sg mg ag bl mt cd s1 Bd hml hv
  obtain ⟨rfl, hP, hK⟩ := hv
  have hP : va_P D kcl [(o, .inr (5, [.int (zz_I (th)), .ref t, .ref z, .int (zz_I (((k : Nat) : Int))), .ref w, .ref y, .ref d, .int (zz_I (((bg : Nat) : Int)))])), (t, .inl (cI, 672, .inl (zz_A (T)))), (z, .inl (cI, 14, .inl (zz_A (Sz)))), (w, .inl (cI, 320, .inl (zz_A (Rw)))), (y, .inl (cI, 2, .inl (zz_A (Ln)))), (d, .inl (cI, 160, .inl (zz_A (Od))))] sg.heap := hP
  have hx := Bd.exec
  have hb := Bd.bytes
  have hr := Bd.returns
  have hlocks := Bd.notSynchronized
  have hts : ∀ w ∈ zz_tbl, w.before _ sg = true := fun w h => atoms_spec (ws := kv_M_looksLike) Bd.pre w (List.mem_cons_of_mem _ h)
  have hown : sg.vm.findClass kn_M = some mg.cls := findClass_of_methodNamed Bd.named
  have hD : va_D (zz_F [(o, .inr (5, [.int (zz_I (th)), .ref t, .ref z, .int (zz_I (((k : Nat) : Int))), .ref w, .ref y, .ref d, .int (zz_I (((bg : Nat) : Int)))])), (t, .inl (cI, 672, .inl (zz_A (T)))), (z, .inl (cI, 14, .inl (zz_A (Sz)))), (w, .inl (cI, 320, .inl (zz_A (Rw)))), (y, .inl (cI, 2, .inl (zz_A (Ln)))), (d, .inl (cI, 160, .inl (zz_A (Od))))]) [(o, .inr (5, [.int (zz_I (th)), .ref t, .ref z, .int (zz_I (((k : Nat) : Int))), .ref w, .ref y, .ref d, .int (zz_I (((bg : Nat) : Int)))])), (t, .inl (cI, 672, .inl (zz_A (T)))), (z, .inl (cI, 14, .inl (zz_A (Sz)))), (w, .inl (cI, 320, .inl (zz_A (Rw)))), (y, .inl (cI, 2, .inl (zz_A (Ln)))), (d, .inl (cI, 160, .inl (zz_A (Od))))] := zz_Dof hN rfl
  have hS : va_S (zz_F [(o, .inr (5, [.int (zz_I (th)), .ref t, .ref z, .int (zz_I (((k : Nat) : Int))), .ref w, .ref y, .ref d, .int (zz_I (((bg : Nat) : Int)))])), (t, .inl (cI, 672, .inl (zz_A (T)))), (z, .inl (cI, 14, .inl (zz_A (Sz)))), (w, .inl (cI, 320, .inl (zz_A (Rw)))), (y, .inl (cI, 2, .inl (zz_A (Ln)))), (d, .inl (cI, 160, .inl (zz_A (Od))))]) sg.heap sg.heap [] := va_S.rf
  have hl := lv_entry ([.ref o, .int (zz_I (((x : Nat) : Int))), .int (zz_I (((x2 : Nat) : Int)))]) (n := 3) (Nat.le_of_ble_eq_true rfl)
  rw [lg_entry_eq]
  generalize (lg_sl ([.ref o, .int (zz_I (((x : Nat) : Int))), .int (zz_I (((x2 : Nat) : Int)))]) ++ List.replicate (3 - (lg_sl ([.ref o, .int (zz_I (((x : Nat) : Int))), .int (zz_I (((x2 : Nat) : Int)))])).length) Slot.unset).toArray = ls at hl ⊢
  have hl : lv_has ls 3 [(0, .ref o), (1, .int (zz_I (((x : Nat) : Int)))), (2, .int (zz_I (((x2 : Nat) : Int))))] := hl
  refine lv_aload_n hx hb kd_M_looksLike_0 rfl (lv_at hl 0 rfl) ?_
  refine lv_iload_n hx hb kd_M_looksLike_1 rfl (lv_at hl 1 rfl) ?_
  refine lv_iload_n hx hb kd_M_looksLike_2 rfl (lv_at hl 2 rfl) ?_
  refine zz_pV ⟨hx, hb, hml, hown, hts⟩ hK (kc_M_isSame l D cI cW o t z w y d th k bg T Sz x x2 n G n2 G2 (by omega) (by assumption) (by omega) (by assumption) (by assumption) (by omega) (by assumption) (by omega) (by assumption) (by assumption) rfl) (zz_gV kw_753 kw_755 kw_22 kw_31 kw_756) ⟨rfl, rfl⟩ ⟨rfl, kh_M_isSame⟩ ⟨Nat.le_of_ble_eq_true rfl, Nat.le_of_ble_eq_true rfl⟩ (va_recv (q := (kn_M, kf_M, 8)) hK hP rfl (show ([(o, .inr (5, [.int (zz_I (th)), .ref t, .ref z, .int (zz_I (((k : Nat) : Int))), .ref w, .ref y, .ref d, .int (zz_I (((bg : Nat) : Int)))])), (t, .inl (cI, 672, .inl (zz_A (T)))), (z, .inl (cI, 14, .inl (zz_A (Sz)))), (w, .inl (cI, 320, .inl (zz_A (Rw)))), (y, .inl (cI, 2, .inl (zz_A (Ln)))), (d, .inl (cI, 160, .inl (zz_A (Od))))] : va_W)[0]? = some _ from rfl)) (hP.sub (ws' := [(o, .inr (5, [.int (zz_I (th)), .ref t, .ref z, .int (zz_I (((k : Nat) : Int))), .ref w, .ref y, .ref d, .int (zz_I (((bg : Nat) : Int)))])), (t, .inl (cI, 672, .inl (zz_A (T)))), (z, .inl (cI, 14, .inl (zz_A (Sz))))]) [0, 1, 2] rfl) rfl hl.1 rfl (Nat.le_of_ble_eq_true rfl) kd_M_looksLike_3 ⟨Nat.le_of_ble_eq_true rfl, Nat.le_of_ble_eq_true rfl⟩ ?_
  refine zz_ifb_ne (tgt := 22) hx hb kd_M_looksLike_6 (by decide) (fun hbr6 => ?_) (fun hbr6 => ?_)
  · refine zz_iconst hx hb (v := 0) (rfl) kd_M_looksLike_22 ?_
    exact W.zret (ty := .boolean) hx hb hr (by decide) (zz_endw ((_, _, _)) (by rw [← zz_f (show ck_ml G n G2 n2 = false by first | exact ck_ml_n1 (by assumption) | exact ck_ml_n2 (by assumption))]) ⟨trivial, hP⟩ hS) hS.2.2 kd_M_looksLike_23
  · refine lv_aload_n hx hb kd_M_looksLike_9 rfl (lv_at hl 0 rfl) ?_
    refine lv_iload_n hx hb kd_M_looksLike_10 rfl (lv_at hl 1 rfl) ?_
    refine lv_iload_n hx hb kd_M_looksLike_11 rfl (lv_at hl 2 rfl) ?_
    refine zz_wV ⟨hx, hb, hml, hown, hts⟩ hK (kc_M_compared l D cI cW o t z w y d th k bg T Sz Rw Ln Od x x2 n G n2 G2 (by omega) (by assumption) (by omega) (by assumption) (by assumption) (by omega) (by assumption) (by omega) (by assumption) (by assumption) (hN.sub [0, 1, 2, 3, 4, 5] rfl rfl)) (zz_gV kw_757 kw_759 kw_23 kw_31 kw_760) ⟨rfl, rfl⟩ ⟨rfl, kh_M_compared⟩ ⟨Nat.le_of_ble_eq_true rfl, Nat.le_of_ble_eq_true rfl⟩ (va_recv (q := (kn_M, kf_M, 8)) hK hP rfl (show ([(o, .inr (5, [.int (zz_I (th)), .ref t, .ref z, .int (zz_I (((k : Nat) : Int))), .ref w, .ref y, .ref d, .int (zz_I (((bg : Nat) : Int)))])), (t, .inl (cI, 672, .inl (zz_A (T)))), (z, .inl (cI, 14, .inl (zz_A (Sz)))), (w, .inl (cI, 320, .inl (zz_A (Rw)))), (y, .inl (cI, 2, .inl (zz_A (Ln)))), (d, .inl (cI, 160, .inl (zz_A (Od))))] : va_W)[0]? = some _ from rfl)) hP hD hS [0, 1, 2, 3, 4, 5] rfl rfl (fun _ => rfl) rfl hl.1 rfl (Nat.le_of_ble_eq_true rfl) kd_M_looksLike_12 ⟨Nat.le_of_ble_eq_true rfl, Nat.le_of_ble_eq_true rfl⟩ (fun u12 H locs hu12 hP hD hS => ?_)
    have hP : va_P D kcl [(o, .inr (5, [.int (zz_I (th)), .ref t, .ref z, .int (zz_I (((k : Nat) : Int))), .ref w, .ref y, .ref d, .int (zz_I (((bg : Nat) : Int)))])), (t, .inl (cI, 672, .inl (zz_A (T)))), (z, .inl (cI, 14, .inl (zz_A (Sz)))), (w, .inl (cI, 320, .inl (zz_A (u12.1)))), (y, .inl (cI, 2, .inl (zz_A (u12.2.1)))), (d, .inl (cI, 160, .inl (zz_A (u12.2.2))))] H := hP
    have hD : va_D (zz_F [(o, .inr (5, [.int (zz_I (th)), .ref t, .ref z, .int (zz_I (((k : Nat) : Int))), .ref w, .ref y, .ref d, .int (zz_I (((bg : Nat) : Int)))])), (t, .inl (cI, 672, .inl (zz_A (T)))), (z, .inl (cI, 14, .inl (zz_A (Sz)))), (w, .inl (cI, 320, .inl (zz_A (Rw)))), (y, .inl (cI, 2, .inl (zz_A (Ln)))), (d, .inl (cI, 160, .inl (zz_A (Od))))]) [(o, .inr (5, [.int (zz_I (th)), .ref t, .ref z, .int (zz_I (((k : Nat) : Int))), .ref w, .ref y, .ref d, .int (zz_I (((bg : Nat) : Int)))])), (t, .inl (cI, 672, .inl (zz_A (T)))), (z, .inl (cI, 14, .inl (zz_A (Sz)))), (w, .inl (cI, 320, .inl (zz_A (u12.1)))), (y, .inl (cI, 2, .inl (zz_A (u12.2.1)))), (d, .inl (cI, 160, .inl (zz_A (u12.2.2))))] := hD
    refine zz_if_ne (tgt := 22) hx hb kd_M_looksLike_15 (by decide) (by have := ck_cc_rg hg_G hg_G2; omega) (fun hbr15 => ?_) (fun hbr15 => ?_)
    · refine zz_iconst hx hb (v := 0) (rfl) kd_M_looksLike_22 ?_
      exact W.zret (ty := .boolean) hx hb hr (by decide) (zz_endw ((_, _, _)) (by rw [← zz_f (show ck_ml G n G2 n2 = false by first | exact ck_ml_n1 (by assumption) | exact ck_ml_n2 (by assumption))]) ⟨trivial, hP⟩ hS) hS.2.2 kd_M_looksLike_23
    · refine zz_iconst hx hb (v := 1) (rfl) kd_M_looksLike_18 ?_
      refine lv_goto (tgt := 23) hx hb kd_M_looksLike_19 (by decide) ?_
      exact W.zret (ty := .boolean) hx hb hr (by decide) (zz_endw ((_, _, _)) (by rw [← zz_t (ck_ml_y (G := G) (n := n) (G2 := G2) (n2 := n2) (by assumption) (by assumption))]) ⟨trivial, hP⟩ hS) hS.2.2 kd_M_looksLike_23
set_option maxHeartbeats 4000000 in
set_option maxRecDepth 100000 in
theorem kc_M_isPiece (l : Launch) (D : va_G) (cI cW : ClassId) (o : Nat) (t : Nat) (z : Nat) (w : Nat) (y : Nat) (d : Nat) (th : Int) (k : Nat) (bg : Nat) (T : Nat → Int) (Sz : Nat → Int) (n : Nat) (G : Nat → Int) (p : Nat) (hs_G : Sz 12 = ((n : Nat) : Int)) (hn_G : n ≤ 48) (ht_G : ∀ q, q < n → T (576 + q) = G q) (hg_G : ck_ok G n) (hp : p ≤ 100000) {v : Int} (hv : zz_b (ck_alone (ck_ri G n ((p : Nat) : Int))) = v) : Met l ky_M_isPiece kv_M_isPiece ({ frames := 2, cells := 0, slots := 0, locals := 42 }) (va_Pc [.ref o, .int (zz_I (((p : Nat) : Int)))] (zz_P D cI cW (va_P D kcl [(o, .inr (5, [.int (zz_I (th)), .ref t, .ref z, .int (zz_I (((k : Nat) : Int))), .ref w, .ref y, .ref d, .int (zz_I (((bg : Nat) : Int)))])), (t, .inl (cI, 672, .inl (zz_A (T)))), (z, .inl (cI, 14, .inl (zz_A (Sz))))]))) (zz_Qp (.int (zz_I v))) 0 0 (fun _ => False) := by
  subst hv
  refine Met.ofW (cc := kb_M_isPiece) (maxL := 2) (ret := (some .boolean)) (by decide) rfl ?_
  intro pg ev sg mg ag bl mt cd s1 Bd hml hv
  obtain ⟨rfl, hP, hK⟩ := hv
  have hP : va_P D kcl [(o, .inr (5, [.int (zz_I (th)), .ref t, .ref z, .int (zz_I (((k : Nat) : Int))), .ref w, .ref y, .ref d, .int (zz_I (((bg : Nat) : Int)))])), (t, .inl (cI, 672, .inl (zz_A (T)))), (z, .inl (cI, 14, .inl (zz_A (Sz))))] sg.heap := hP
  have hx := Bd.exec
  have hb := Bd.bytes
  have hr := Bd.returns
  have hlocks := Bd.notSynchronized
  have hts : ∀ w ∈ zz_tbl, w.before _ sg = true := fun w h => atoms_spec (ws := kv_M_isPiece) Bd.pre w (List.mem_cons_of_mem _ h)
  have hown : sg.vm.findClass kn_M = some mg.cls := findClass_of_methodNamed Bd.named
  have hl := lv_entry ([.ref o, .int (zz_I (((p : Nat) : Int)))]) (n := 2) (Nat.le_of_ble_eq_true rfl)
  rw [lg_entry_eq]
  generalize (lg_sl ([.ref o, .int (zz_I (((p : Nat) : Int)))]) ++ List.replicate (2 - (lg_sl ([.ref o, .int (zz_I (((p : Nat) : Int)))])).length) Slot.unset).toArray = ls at hl ⊢
  have hl : lv_has ls 2 [(0, .ref o), (1, .int (zz_I (((p : Nat) : Int))))] := hl
  refine lv_iload_n hx hb kd_M_isPiece_0 rfl (lv_at hl 1 rfl) ?_
  refine lv_aload_n hx hb kd_M_isPiece_1 rfl (lv_at hl 0 rfl) ?_
  refine va_get (D := D) (ci := 5) (v := .ref z) (C := kn_M) (T := kf_M) (N := 8) hx hb hts ki_M hown hK hP 0 rfl rfl 2 (by decide) (hts _ kw_603) (fun _ h9 => h9) rfl kd_M_isPiece_2 ?_
  refine zz_bipush hx hb kd_M_isPiece_5 (by decide) ?_
  refine zz_iald hx hb hK hP 2 0 rfl rfl (by omega) (v := ((n : Nat) : Int)) (hs_G) kd_M_isPiece_7 ?_
  refine zz_icmp_ge (tgt := 51) hx hb kd_M_isPiece_8 (by decide) (by omega) (fun hbr8 => ?_) (fun hbr8 => ?_)
  · refine zz_iconst hx hb (v := 0) (rfl) kd_M_isPiece_51 ?_
    exact W.zret (ty := .boolean) hx hb hr (by decide) (zz_endp (zz_f (by first | (rw [ck_ri_out (by omega)]; exact decide_eq_false (by omega)) | (rw [ck_ri_in (by omega)]; exact decide_eq_false (by omega))))) (fun _ h => nomatch h) kd_M_isPiece_52
  · refine lv_aload_n hx hb kd_M_isPiece_11 rfl (lv_at hl 0 rfl) ?_
    refine va_get (D := D) (ci := 5) (v := .ref t) (C := kn_M) (T := kf_M) (N := 8) hx hb hts ki_M hown hK hP 0 rfl rfl 1 (by decide) (hts _ kw_602) (fun _ h9 => h9) rfl kd_M_isPiece_12 ?_
    refine zz_sipush hx hb kd_M_isPiece_15 (by decide) ?_
    refine lv_iload_n hx hb kd_M_isPiece_18 rfl (lv_at hl 1 rfl) ?_
    refine zz_iadd hx hb (v := ((576 + p : Nat) : Int)) (by omega) kd_M_isPiece_19 ?_
    refine zz_iald hx hb hK hP 1 0 rfl rfl (by omega) (v := G p) (ht_G p (by omega)) kd_M_isPiece_20 ?_
    refine zz_pS ⟨hx, hb, hml, hown, hts⟩ hK (kc_M_isLetter l D cI cW (G p) (by have := hg_G p (by omega); omega) rfl) (zz_gS kw_710 kw_711 kw_31 kw_712) ⟨rfl, rfl⟩ kh_M_isLetter ⟨Nat.le_of_ble_eq_true rfl, Nat.le_of_ble_eq_true rfl⟩  trivial rfl hl.1 rfl (Nat.le_of_ble_eq_true rfl) kd_M_isPiece_21 ⟨Nat.le_of_ble_eq_true rfl, Nat.le_of_ble_eq_true rfl⟩ ?_
    refine zz_ifb_ne (tgt := 47) hx hb kd_M_isPiece_24 (by decide) (fun hbr24 => ?_) (fun hbr24 => ?_)
    · have hbr24 := of_decide_eq_true hbr24
      refine zz_iconst hx hb (v := 1) (rfl) kd_M_isPiece_47 ?_
      refine lv_goto (tgt := 52) hx hb kd_M_isPiece_48 (by decide) ?_
      exact W.zret (ty := .boolean) hx hb hr (by decide) (zz_endp (zz_t (by rw [ck_ri_in (by omega)]; exact decide_eq_true (by omega)))) (fun _ h => nomatch h) kd_M_isPiece_52
    · have hbr24 := of_decide_eq_false hbr24
      refine lv_aload_n hx hb kd_M_isPiece_27 rfl (lv_at hl 0 rfl) ?_
      refine va_get (D := D) (ci := 5) (v := .ref t) (C := kn_M) (T := kf_M) (N := 8) hx hb hts ki_M hown hK hP 0 rfl rfl 1 (by decide) (hts _ kw_602) (fun _ h9 => h9) rfl kd_M_isPiece_28 ?_
      refine zz_sipush hx hb kd_M_isPiece_31 (by decide) ?_
      refine lv_iload_n hx hb kd_M_isPiece_34 rfl (lv_at hl 1 rfl) ?_
      refine zz_iadd hx hb (v := ((576 + p : Nat) : Int)) (by omega) kd_M_isPiece_35 ?_
      refine zz_iald hx hb hK hP 1 0 rfl rfl (by omega) (v := G p) (ht_G p (by omega)) kd_M_isPiece_36 ?_
      refine zz_bipush hx hb kd_M_isPiece_37 (by decide) ?_
      refine zz_bipush hx hb kd_M_isPiece_39 (by decide) ?_
      refine zz_pS ⟨hx, hb, hml, hown, hts⟩ hK (kc_M_in l D cI cW (G p) 96 112 (by have := hg_G p (by omega); omega) (by omega) (by omega) rfl) (zz_gS kw_667 kw_668 kw_31 kw_669) ⟨rfl, rfl⟩ kh_M_in ⟨Nat.le_of_ble_eq_true rfl, Nat.le_of_ble_eq_true rfl⟩  trivial rfl hl.1 rfl (Nat.le_of_ble_eq_true rfl) kd_M_isPiece_41 ⟨Nat.le_of_ble_eq_true rfl, Nat.le_of_ble_eq_true rfl⟩ ?_
      refine zz_ifb_eq (tgt := 51) hx hb kd_M_isPiece_44 (by decide) (fun hbr44 => ?_) (fun hbr44 => ?_)
      · have hbr44 := of_decide_eq_false hbr44
        refine zz_iconst hx hb (v := 0) (rfl) kd_M_isPiece_51 ?_
        exact W.zret (ty := .boolean) hx hb hr (by decide) (zz_endp (zz_f (by first | (rw [ck_ri_out (by omega)]; exact decide_eq_false (by omega)) | (rw [ck_ri_in (by omega)]; exact decide_eq_false (by omega))))) (fun _ h => nomatch h) kd_M_isPiece_52
      · have hbr44 := of_decide_eq_true hbr44
        refine zz_iconst hx hb (v := 1) (rfl) kd_M_isPiece_47 ?_
        refine lv_goto (tgt := 52) hx hb kd_M_isPiece_48 (by decide) ?_
        exact W.zret (ty := .boolean) hx hb hr (by decide) (zz_endp (zz_t (by rw [ck_ri_in (by omega)]; exact decide_eq_true (by omega)))) (fun _ h => nomatch h) kd_M_isPiece_52
set_option maxHeartbeats 4000000 in
set_option maxRecDepth 100000 in
theorem kc_M_identifier (l : Launch) (D : va_G) (cI cW : ClassId) (o : Nat) (t : Nat) (z : Nat) (w : Nat) (y : Nat) (d : Nat) (th : Int) (k : Nat) (bg : Nat) (T : Nat → Int) (Sz : Nat → Int) (n : Nat) (G : Nat → Int) (p : Nat) (hs_G : Sz 12 = ((n : Nat) : Int)) (hn_G : n ≤ 48) (ht_G : ∀ q, q < n → T (576 + q) = G q) (hg_G : ck_ok G n) (hp : p ≤ 100) {v : Int} (hv : ((ck_ie G n p - p : Nat) : Int) = v) : Met l ky_M_identifier kv_M_identifier ({ frames := 3, cells := 0, slots := 0, locals := 63 }) (va_Pc [.ref o, .int (zz_I (((p : Nat) : Int)))] (zz_P D cI cW (va_P D kcl [(o, .inr (5, [.int (zz_I (th)), .ref t, .ref z, .int (zz_I (((k : Nat) : Int))), .ref w, .ref y, .ref d, .int (zz_I (((bg : Nat) : Int)))])), (t, .inl (cI, 672, .inl (zz_A (T)))), (z, .inl (cI, 14, .inl (zz_A (Sz))))]))) (zz_Qp (.int (zz_I v))) 0 0 (fun _ => False) := by
  subst hv
  refine Met.ofW (cc := kb_M_identifier) (maxL := 5) (ret := (some .int)) (by decide) rfl ?_
  intro pg ev sg mg ag bl mt cd s1 Bd hml hv
  obtain ⟨rfl, hP, hK⟩ := hv
  have hP : va_P D kcl [(o, .inr (5, [.int (zz_I (th)), .ref t, .ref z, .int (zz_I (((k : Nat) : Int))), .ref w, .ref y, .ref d, .int (zz_I (((bg : Nat) : Int)))])), (t, .inl (cI, 672, .inl (zz_A (T)))), (z, .inl (cI, 14, .inl (zz_A (Sz))))] sg.heap := hP
  have hx := Bd.exec
  have hb := Bd.bytes
  have hr := Bd.returns
  have hlocks := Bd.notSynchronized
  have hts : ∀ w ∈ zz_tbl, w.before _ sg = true := fun w h => atoms_spec (ws := kv_M_identifier) Bd.pre w (List.mem_cons_of_mem _ h)
  have hown : sg.vm.findClass kn_M = some mg.cls := findClass_of_methodNamed Bd.named
  have hl := lv_entry ([.ref o, .int (zz_I (((p : Nat) : Int)))]) (n := 5) (Nat.le_of_ble_eq_true rfl)
  rw [lg_entry_eq]
  generalize (lg_sl ([.ref o, .int (zz_I (((p : Nat) : Int)))]) ++ List.replicate (5 - (lg_sl ([.ref o, .int (zz_I (((p : Nat) : Int)))])).length) Slot.unset).toArray = ls at hl ⊢
  have hl : lv_has ls 5 [(0, .ref o), (1, .int (zz_I (((p : Nat) : Int))))] := hl
  refine lv_iload_n hx hb kd_M_identifier_0 rfl (lv_at hl 1 rfl) ?_
  refine lv_aload_n hx hb kd_M_identifier_1 rfl (lv_at hl 0 rfl) ?_
  refine va_get (D := D) (ci := 5) (v := .ref z) (C := kn_M) (T := kf_M) (N := 8) hx hb hts ki_M hown hK hP 0 rfl rfl 2 (by decide) (hts _ kw_603) (fun _ h9 => h9) rfl kd_M_identifier_2 ?_
  refine zz_bipush hx hb kd_M_identifier_5 (by decide) ?_
  refine zz_iald hx hb hK hP 2 0 rfl rfl (by omega) (v := ((n : Nat) : Int)) (hs_G) kd_M_identifier_7 ?_
  refine zz_icmp_ge (tgt := 27) hx hb kd_M_identifier_8 (by decide) (by omega) (fun hbr8 => ?_) (fun hbr8 => ?_)
  · refine zz_iconst hx hb (v := 0) (rfl) kd_M_identifier_27 ?_
    exact W.iret hx hb hr (zz_endp (by have e : ck_ie G n p = p := (by have e0 := ck_ie_no (g := G) (n := n) (p := p) (by first | (rw [ck_ri_out (by omega)]; exact decide_eq_false (by omega)) | (rw [ck_ri_in (by omega)]; assumption)); omega); rw [e]; omega)) (fun _ h => nomatch h) kd_M_identifier_28
  · refine lv_aload_n hx hb kd_M_identifier_11 rfl (lv_at hl 0 rfl) ?_
    refine va_get (D := D) (ci := 5) (v := .ref t) (C := kn_M) (T := kf_M) (N := 8) hx hb hts ki_M hown hK hP 0 rfl rfl 1 (by decide) (hts _ kw_602) (fun _ h9 => h9) rfl kd_M_identifier_12 ?_
    refine zz_sipush hx hb kd_M_identifier_15 (by decide) ?_
    refine lv_iload_n hx hb kd_M_identifier_18 rfl (lv_at hl 1 rfl) ?_
    refine zz_iadd hx hb (v := ((576 + p : Nat) : Int)) (by omega) kd_M_identifier_19 ?_
    refine zz_iald hx hb hK hP 1 0 rfl rfl (by omega) (v := G p) (ht_G p (by omega)) kd_M_identifier_20 ?_
    refine zz_pS ⟨hx, hb, hml, hown, hts⟩ hK (kc_M_isLetter l D cI cW (G p) (by have := hg_G p (by omega); omega) rfl) (zz_gS kw_710 kw_711 kw_31 kw_712) ⟨rfl, rfl⟩ kh_M_isLetter ⟨Nat.le_of_ble_eq_true rfl, Nat.le_of_ble_eq_true rfl⟩  trivial rfl hl.1 rfl (Nat.le_of_ble_eq_true rfl) kd_M_identifier_21 ⟨Nat.le_of_ble_eq_true rfl, Nat.le_of_ble_eq_true rfl⟩ ?_
    refine zz_ifb_ne (tgt := 29) hx hb kd_M_identifier_24 (by decide) (fun hbr24 => ?_) (fun hbr24 => ?_)
    · have hlet : ck_letter (ck_ri G n ((p : Nat) : Int)) = true := by rw [ck_ri_in (by omega)]; assumption
      have hpn : p < n := by omega
      refine lv_iload_n hx hb kd_M_identifier_29 rfl (lv_at hl 1 rfl) ?_
      refine zz_iconst hx hb (v := 1) (rfl) kd_M_identifier_30 ?_
      refine zz_iadd hx hb (v := ((p + 1 : Nat) : Int)) (by omega) kd_M_identifier_31 ?_
      refine lv_istore_n hx hb kd_M_identifier_32 rfl hl (by decide) rfl (fun ls hl => ?_)
      have hl : lv_has ls 5 [(2, .int (zz_I (((p + 1 : Nat) : Int)))), (0, .ref o), (1, .int (zz_I (((p : Nat) : Int))))] := hl
      refine lv_iload_n hx hb kd_M_identifier_33 rfl (lv_at hl 2 rfl) ?_
      refine lv_istore_n hx hb kd_M_identifier_34 rfl hl (by decide) rfl (fun ls hl => ?_)
      have hl : lv_has ls 5 [(3, .int (zz_I (((p : Nat) : Int)))), (2, .int (zz_I (((p + 1 : Nat) : Int)))), (0, .ref o), (1, .int (zz_I (((p : Nat) : Int))))] := hl
      have lp35 : ∀ (fuel : Nat) (e1 : Nat) (bf : Nat) (ls : Array Slot), 2 * (n + 1 - e1) + (e1 - bf) < fuel → (p < e1 ∧ e1 ≤ n) → (bf < e1 ∨ (bf = e1 ∧ ck_pc G n e1 = 0)) → (∀ f, n - e1 ≤ f → ck_ge G n f e1 = ck_ge G n n (p + 1)) → lv_has ls 5 [(0, .ref o), (1, .int (zz_I (((p : Nat) : Int)))), (2, .int (zz_I (((e1 : Nat) : Int)))), (3, .int (zz_I (((bf : Nat) : Int))))] → W pg l ev (headSpec kv_M_identifier ({ frames := 3, cells := 0, slots := 0, locals := 63 })).room sg mg [.ref o, .int (zz_I (((p : Nat) : Int)))].toArray bl mt cd sg.heap [] 0 0 (MQ bl (zz_Qp (.int (zz_I (((ck_ie G n p - p : Nat) : Int))))) [.ref o, .int (zz_I (((p : Nat) : Int)))].toArray sg 0 0 (fun _ => False)) (F0 mg 35 ls []) := by
        intro fuel
        induction fuel with
        | zero => intro e1 bf ls hfu; exact absurd hfu (Nat.not_lt_zero _)
        | succ fuel ih35 =>
          intro e1 bf ls hfu he hb0 hq hl
          refine lv_iload_n hx hb kd_M_identifier_35 rfl (lv_at hl 2 rfl) ?_
          refine lv_iload_n hx hb kd_M_identifier_36 rfl (lv_at hl 3 rfl) ?_
          refine zz_icmp_le (tgt := 120) hx hb kd_M_identifier_37 (by decide) (by omega) (fun hbr37 => ?_) (fun hbr37 => ?_)
          · refine lv_iload_n hx hb kd_M_identifier_120 rfl (lv_at hl 2 rfl) ?_
            refine lv_iload_n hx hb kd_M_identifier_121 rfl (lv_at hl 1 rfl) ?_
            refine zz_isub hx hb (v := ((e1 : Nat) : Int) - ((p : Nat) : Int)) (rfl) kd_M_identifier_122 ?_
            exact W.iret hx hb hr (zz_endp (by have e : ck_ie G n p = e1 := (by rw [ck_ie_yes hlet, ← hq n (by omega), ck_ge_nil (by omega)]); rw [e]; omega)) (fun _ h => nomatch h) kd_M_identifier_123
          · refine lv_iload_n hx hb kd_M_identifier_40 rfl (lv_at hl 2 rfl) ?_
            refine lv_istore_n hx hb kd_M_identifier_41 rfl hl (by decide) rfl (fun ls hl => ?_)
            have hl : lv_has ls 5 [(3, .int (zz_I (((e1 : Nat) : Int)))), (0, .ref o), (1, .int (zz_I (((p : Nat) : Int)))), (2, .int (zz_I (((e1 : Nat) : Int))))] := hl
            refine lv_iload_n hx hb kd_M_identifier_42 rfl (lv_at hl 3 rfl) ?_
            refine lv_aload_n hx hb kd_M_identifier_43 rfl (lv_at hl 1 rfl) ?_
            refine va_get (D := D) (ci := 5) (v := .ref z) (C := kn_M) (T := kf_M) (N := 8) hx hb hts ki_M hown hK hP 0 rfl rfl 2 (by decide) (hts _ kw_603) (fun _ h9 => h9) rfl kd_M_identifier_44 ?_
            refine zz_bipush hx hb kd_M_identifier_47 (by decide) ?_
            refine zz_iald hx hb hK hP 2 0 rfl rfl (by omega) (v := ((n : Nat) : Int)) (hs_G) kd_M_identifier_49 ?_
            have jn78 : ∀  (ls : Array Slot), lv_has ls 5 [(3, .int (zz_I (((e1 : Nat) : Int)))), (0, .ref o), (1, .int (zz_I (((p : Nat) : Int)))), (2, .int (zz_I (((e1 : Nat) : Int))))] → W pg l ev (headSpec kv_M_identifier ({ frames := 3, cells := 0, slots := 0, locals := 63 })).room sg mg [.ref o, .int (zz_I (((p : Nat) : Int)))].toArray bl mt cd sg.heap [] 0 0 (MQ bl (zz_Qp (.int (zz_I (((ck_ie G n p - p : Nat) : Int))))) [.ref o, .int (zz_I (((p : Nat) : Int)))].toArray sg 0 0 (fun _ => False)) (F0 mg 78 ls [.int (zz_I (zz_b (ck_joint (ck_ri G n ((e1 : Nat) : Int)))))]) := by
              intro  ls  hl
              refine lv_istore hx hb kd_M_identifier_78 hl (by decide) rfl (fun ls hl => ?_)
              have hl : lv_has ls 5 [(4, .int (zz_I (zz_b (ck_joint (ck_ri G n ((e1 : Nat) : Int)))))), (3, .int (zz_I (((e1 : Nat) : Int)))), (0, .ref o), (1, .int (zz_I (((p : Nat) : Int)))), (2, .int (zz_I (((e1 : Nat) : Int))))] := hl
              refine lv_aload_n hx hb kd_M_identifier_80 rfl (lv_at hl 2 rfl) ?_
              refine lv_iload_n hx hb kd_M_identifier_81 rfl (lv_at hl 4 rfl) ?_
              refine zz_pV ⟨hx, hb, hml, hown, hts⟩ hK (kc_M_isPiece l D cI cW o t z w y d th k bg T Sz n G e1 (by assumption) (by omega) (by assumption) (by assumption) (by omega) rfl) (zz_gV kw_725 kw_727 kw_16 kw_31 kw_728) ⟨rfl, rfl⟩ ⟨rfl, kh_M_isPiece⟩ ⟨Nat.le_of_ble_eq_true rfl, Nat.le_of_ble_eq_true rfl⟩ (va_recv (q := (kn_M, kf_M, 8)) hK hP rfl (show ([(o, .inr (5, [.int (zz_I (th)), .ref t, .ref z, .int (zz_I (((k : Nat) : Int))), .ref w, .ref y, .ref d, .int (zz_I (((bg : Nat) : Int)))])), (t, .inl (cI, 672, .inl (zz_A (T)))), (z, .inl (cI, 14, .inl (zz_A (Sz))))] : va_W)[0]? = some _ from rfl)) hP rfl hl.1 rfl (Nat.le_of_ble_eq_true rfl) kd_M_identifier_82 ⟨Nat.le_of_ble_eq_true rfl, Nat.le_of_ble_eq_true rfl⟩ ?_
              refine zz_ifb_eq (tgt := 94) hx hb kd_M_identifier_85 (by decide) (fun hbr85 => ?_) (fun hbr85 => ?_)
              · refine lv_iload hx hb kd_M_identifier_94 (lv_at hl 0 rfl) ?_
                refine zz_ifb_eq (tgt := 115) hx hb kd_M_identifier_96 (by decide) (fun hbr96 => ?_) (fun hbr96 => ?_)
                · refine lv_iload_n hx hb kd_M_identifier_115 rfl (lv_at hl 4 rfl) ?_
                  refine lv_istore_n hx hb kd_M_identifier_116 rfl hl (by decide) rfl (fun ls hl => ?_)
                  have hl : lv_has ls 5 [(2, .int (zz_I (((e1 : Nat) : Int)))), (4, .int (zz_I (zz_b (ck_joint (ck_ri G n ((e1 : Nat) : Int)))))), (3, .int (zz_I (((e1 : Nat) : Int)))), (0, .ref o), (1, .int (zz_I (((p : Nat) : Int))))] := hl
                  refine lv_goto (tgt := 35) hx hb kd_M_identifier_117 (by decide) ?_
                  exact ih35 e1 e1 ls (by omega) (by omega) (Or.inr ⟨rfl, by have h0 := (by first | exact ck_pc_00 (g := G) (n := n) (p := e1) (by assumption) (by assumption) | exact ck_pc_01 (g := G) (n := n) (p := e1) (by assumption) (by assumption) : (0 : Int) = ((ck_pc G n e1 : Nat) : Int)); omega⟩) (hq) (lv_sub hl [3, 4, 0, 2] rfl)
                · refine lv_aload_n hx hb kd_M_identifier_99 rfl (lv_at hl 2 rfl) ?_
                  refine lv_iload_n hx hb kd_M_identifier_100 rfl (lv_at hl 4 rfl) ?_
                  refine zz_iconst hx hb (v := 1) (rfl) kd_M_identifier_101 ?_
                  refine zz_iadd hx hb (v := ((e1 + 1 : Nat) : Int)) (by omega) kd_M_identifier_102 ?_
                  refine zz_pV ⟨hx, hb, hml, hown, hts⟩ hK (kc_M_isPiece l D cI cW o t z w y d th k bg T Sz n G (e1 + 1) (by assumption) (by omega) (by assumption) (by assumption) (by omega) rfl) (zz_gV kw_725 kw_727 kw_16 kw_31 kw_728) ⟨rfl, rfl⟩ ⟨rfl, kh_M_isPiece⟩ ⟨Nat.le_of_ble_eq_true rfl, Nat.le_of_ble_eq_true rfl⟩ (va_recv (q := (kn_M, kf_M, 8)) hK hP rfl (show ([(o, .inr (5, [.int (zz_I (th)), .ref t, .ref z, .int (zz_I (((k : Nat) : Int))), .ref w, .ref y, .ref d, .int (zz_I (((bg : Nat) : Int)))])), (t, .inl (cI, 672, .inl (zz_A (T)))), (z, .inl (cI, 14, .inl (zz_A (Sz))))] : va_W)[0]? = some _ from rfl)) hP rfl hl.1 rfl (Nat.le_of_ble_eq_true rfl) kd_M_identifier_103 ⟨Nat.le_of_ble_eq_true rfl, Nat.le_of_ble_eq_true rfl⟩ ?_
                  refine zz_ifb_eq (tgt := 115) hx hb kd_M_identifier_106 (by decide) (fun hbr106 => ?_) (fun hbr106 => ?_)
                  · refine lv_iload_n hx hb kd_M_identifier_115 rfl (lv_at hl 4 rfl) ?_
                    refine lv_istore_n hx hb kd_M_identifier_116 rfl hl (by decide) rfl (fun ls hl => ?_)
                    have hl : lv_has ls 5 [(2, .int (zz_I (((e1 : Nat) : Int)))), (4, .int (zz_I (zz_b (ck_joint (ck_ri G n ((e1 : Nat) : Int)))))), (3, .int (zz_I (((e1 : Nat) : Int)))), (0, .ref o), (1, .int (zz_I (((p : Nat) : Int))))] := hl
                    refine lv_goto (tgt := 35) hx hb kd_M_identifier_117 (by decide) ?_
                    exact ih35 e1 e1 ls (by omega) (by omega) (Or.inr ⟨rfl, by have h0 := (by first | exact ck_pc_00 (g := G) (n := n) (p := e1) (by assumption) (by assumption) | exact ck_pc_01 (g := G) (n := n) (p := e1) (by assumption) (by assumption) : (0 : Int) = ((ck_pc G n e1 : Nat) : Int)); omega⟩) (hq) (lv_sub hl [3, 4, 0, 2] rfl)
                  · refine lv_iload_n hx hb kd_M_identifier_109 rfl (lv_at hl 4 rfl) ?_
                    refine zz_iconst hx hb (v := 2) (rfl) kd_M_identifier_110 ?_
                    refine zz_iadd hx hb (v := ((e1 + ck_pc G n e1 : Nat) : Int)) (by have := ck_pc_2 (g := G) (n := n) (p := e1) (by assumption) (by assumption) (by assumption); omega) kd_M_identifier_111 ?_
                    refine lv_goto (tgt := 116) hx hb kd_M_identifier_112 (by decide) ?_
                    refine lv_istore_n hx hb kd_M_identifier_116 rfl hl (by decide) rfl (fun ls hl => ?_)
                    have hl : lv_has ls 5 [(2, .int (zz_I (((e1 + ck_pc G n e1 : Nat) : Int)))), (4, .int (zz_I (zz_b (ck_joint (ck_ri G n ((e1 : Nat) : Int)))))), (3, .int (zz_I (((e1 : Nat) : Int)))), (0, .ref o), (1, .int (zz_I (((p : Nat) : Int))))] := hl
                    refine lv_goto (tgt := 35) hx hb kd_M_identifier_117 (by decide) ?_
                    have hps : 0 < ck_pc G n e1 := by first | (have q := ck_pc_1 (g := G) (n := n) (p := e1) (by assumption); omega) | (have q := ck_pc_2 (g := G) (n := n) (p := e1) (by assumption) (by assumption) (by assumption); omega)
                    have hen : e1 < n := by rcases Nat.lt_or_ge e1 n with q | q; exact q; have := ck_pc_out (g := G) q; omega
                    have hin := ck_pc_in (g := G) hen
                    exact ih35 (e1 + ck_pc G n e1) e1 ls (by omega) (by have := hin; omega) (by omega) (fun f hf => (ck_ge_go (by omega) (by omega) hf).trans (hq (f + 2) (by have := ck_pc_rg G n e1; omega))) (lv_sub hl [3, 4, 0, 2] rfl)
              · refine lv_iload_n hx hb kd_M_identifier_88 rfl (lv_at hl 4 rfl) ?_
                refine zz_iconst hx hb (v := 1) (rfl) kd_M_identifier_89 ?_
                refine zz_iadd hx hb (v := ((e1 + ck_pc G n e1 : Nat) : Int)) (by have := ck_pc_1 (g := G) (n := n) (p := e1) (by assumption); omega) kd_M_identifier_90 ?_
                refine lv_goto (tgt := 116) hx hb kd_M_identifier_91 (by decide) ?_
                refine lv_istore_n hx hb kd_M_identifier_116 rfl hl (by decide) rfl (fun ls hl => ?_)
                have hl : lv_has ls 5 [(2, .int (zz_I (((e1 + ck_pc G n e1 : Nat) : Int)))), (4, .int (zz_I (zz_b (ck_joint (ck_ri G n ((e1 : Nat) : Int)))))), (3, .int (zz_I (((e1 : Nat) : Int)))), (0, .ref o), (1, .int (zz_I (((p : Nat) : Int))))] := hl
                refine lv_goto (tgt := 35) hx hb kd_M_identifier_117 (by decide) ?_
                have hps : 0 < ck_pc G n e1 := by first | (have q := ck_pc_1 (g := G) (n := n) (p := e1) (by assumption); omega) | (have q := ck_pc_2 (g := G) (n := n) (p := e1) (by assumption) (by assumption) (by assumption); omega)
                have hen : e1 < n := by rcases Nat.lt_or_ge e1 n with q | q; exact q; have := ck_pc_out (g := G) q; omega
                have hin := ck_pc_in (g := G) hen
                exact ih35 (e1 + ck_pc G n e1) e1 ls (by omega) (by have := hin; omega) (by omega) (fun f hf => (ck_ge_go (by omega) (by omega) hf).trans (hq (f + 2) (by have := ck_pc_rg G n e1; omega))) (lv_sub hl [3, 4, 0, 2] rfl)
            refine zz_icmp_ge (tgt := 77) hx hb kd_M_identifier_50 (by decide) (by omega) (fun hbr50 => ?_) (fun hbr50 => ?_)
            · refine zz_iconst hx hb (v := zz_b (ck_joint (ck_ri G n ((e1 : Nat) : Int)))) (zz_f (by first | (rw [ck_ri_out (by omega)]; exact decide_eq_false (by omega)) | (rw [ck_ri_in (by omega)]; exact decide_eq_false (by have q := of_decide_eq_false (by assumption : decide (113 ≤ G e1 ∧ G e1 ≤ 114) = false); omega)))) kd_M_identifier_77 ?_
              exact jn78  ls  (lv_sub hl [0, 1, 2, 3] rfl)
            · refine lv_aload_n hx hb kd_M_identifier_53 rfl (lv_at hl 1 rfl) ?_
              refine va_get (D := D) (ci := 5) (v := .ref t) (C := kn_M) (T := kf_M) (N := 8) hx hb hts ki_M hown hK hP 0 rfl rfl 1 (by decide) (hts _ kw_602) (fun _ h9 => h9) rfl kd_M_identifier_54 ?_
              refine zz_sipush hx hb kd_M_identifier_57 (by decide) ?_
              refine lv_iload_n hx hb kd_M_identifier_60 rfl (lv_at hl 3 rfl) ?_
              refine zz_iadd hx hb (v := ((576 + e1 : Nat) : Int)) (by omega) kd_M_identifier_61 ?_
              refine zz_iald hx hb hK hP 1 0 rfl rfl (by omega) (v := G e1) (ht_G e1 (by omega)) kd_M_identifier_62 ?_
              refine zz_bipush hx hb kd_M_identifier_63 (by decide) ?_
              refine zz_bipush hx hb kd_M_identifier_65 (by decide) ?_
              refine zz_pS ⟨hx, hb, hml, hown, hts⟩ hK (kc_M_in l D cI cW (G e1) 113 114 (by have := hg_G e1 (by omega); omega) (by omega) (by omega) rfl) (zz_gS kw_667 kw_668 kw_31 kw_669) ⟨rfl, rfl⟩ kh_M_in ⟨Nat.le_of_ble_eq_true rfl, Nat.le_of_ble_eq_true rfl⟩  trivial rfl hl.1 rfl (Nat.le_of_ble_eq_true rfl) kd_M_identifier_67 ⟨Nat.le_of_ble_eq_true rfl, Nat.le_of_ble_eq_true rfl⟩ ?_
              refine zz_ifb_eq (tgt := 77) hx hb kd_M_identifier_70 (by decide) (fun hbr70 => ?_) (fun hbr70 => ?_)
              · refine zz_iconst hx hb (v := zz_b (ck_joint (ck_ri G n ((e1 : Nat) : Int)))) (zz_f (by first | (rw [ck_ri_out (by omega)]; exact decide_eq_false (by omega)) | (rw [ck_ri_in (by omega)]; exact decide_eq_false (by have q := of_decide_eq_false (by assumption : decide (113 ≤ G e1 ∧ G e1 ≤ 114) = false); omega)))) kd_M_identifier_77 ?_
                exact jn78  ls  (lv_sub hl [0, 1, 2, 3] rfl)
              · refine zz_iconst hx hb (v := zz_b (ck_joint (ck_ri G n ((e1 : Nat) : Int)))) (zz_t (by rw [ck_ri_in (by omega)]; exact decide_eq_true (by have q := of_decide_eq_true (by assumption : decide (113 ≤ G e1 ∧ G e1 ≤ 114) = true); omega))) kd_M_identifier_73 ?_
                refine lv_goto (tgt := 78) hx hb kd_M_identifier_74 (by decide) ?_
                exact jn78  ls  (lv_sub hl [0, 1, 2, 3] rfl)
      exact lp35 _ (p + 1) p ls (Nat.lt_succ_self _) (by omega) (by omega) (fun f hf => ck_ge_fix f n (p + 1) hf (by omega)) (lv_sub hl [2, 3, 1, 0] rfl)
    · refine zz_iconst hx hb (v := 0) (rfl) kd_M_identifier_27 ?_
      exact W.iret hx hb hr (zz_endp (by have e : ck_ie G n p = p := (by have e0 := ck_ie_no (g := G) (n := n) (p := p) (by first | (rw [ck_ri_out (by omega)]; exact decide_eq_false (by omega)) | (rw [ck_ri_in (by omega)]; assumption)); omega); rw [e]; omega)) (fun _ h => nomatch h) kd_M_identifier_28
