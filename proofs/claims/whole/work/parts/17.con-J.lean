set_option maxHeartbeats 4000000 in
set_option maxRecDepth 100000 in
theorem kc_J_commonSet (l : Launch) (D : va_G) (cI cW : ClassId) (a : Nat) (b : Nat) (n : Nat) (cap : Nat) (g : Nat → Int) (hn : n ≤ cap) (hcap : cap ≤ 1000) (hg : ck_ok g n) {v : Int} (hv : ((ck_com g n : Nat) : Int) = v) : Met l ky_J_commonSet kv_J_commonSet ({ frames := 3, cells := 0, slots := 0, locals := 60 }) (va_Pc [.ref a] (zz_P D cI cW (va_P D kcl [(a, .inr (1, [.ref b, .int (zz_I (((n : Nat) : Int)))])), (b, .inl (cI, cap, .inl (zz_A (g))))]))) (zz_Qp (.int (zz_I v))) 0 0 (fun _ => False) := by
  subst hv
  refine Met.ofW (cc := kb_J_commonSet) (maxL := 3) (ret := (some .int)) (by decide) rfl ?_
  intro pg ev sg mg ag bl mt cd s1 Bd hml hv
  obtain ⟨rfl, hP, hK⟩ := hv
  have hP : va_P D kcl [(a, .inr (1, [.ref b, .int (zz_I (((n : Nat) : Int)))])), (b, .inl (cI, cap, .inl (zz_A (g))))] sg.heap := hP
  have hx := Bd.exec
  have hb := Bd.bytes
  have hr := Bd.returns
  have hlocks := Bd.notSynchronized
  have hts : ∀ w ∈ zz_tbl, w.before _ sg = true := fun w h => atoms_spec (ws := kv_J_commonSet) Bd.pre w (List.mem_cons_of_mem _ h)
  have hown : sg.vm.findClass kn_J = some mg.cls := findClass_of_methodNamed Bd.named
  have hl := lv_entry ([.ref a]) (n := 3) (Nat.le_of_ble_eq_true rfl)
  rw [lg_entry_eq]
  generalize (lg_sl ([.ref a]) ++ List.replicate (3 - (lg_sl ([.ref a])).length) Slot.unset).toArray = ls at hl ⊢
  have hl : lv_has ls 3 [(0, .ref a)] := hl
  refine zz_sipush hx hb kd_J_commonSet_0 (by decide) ?_
  refine lv_istore_n hx hb kd_J_commonSet_3 rfl hl (by decide) rfl (fun ls hl => ?_)
  have hl : lv_has ls 3 [(1, .int (zz_I (4095))), (0, .ref a)] := hl
  refine zz_iconst hx hb (v := 0) (rfl) kd_J_commonSet_4 ?_
  refine lv_istore_n hx hb kd_J_commonSet_5 rfl hl (by decide) rfl (fun ls hl => ?_)
  have hl : lv_has ls 3 [(2, .int (zz_I (0))), (1, .int (zz_I (4095))), (0, .ref a)] := hl
  have lp6 : ∀ (fuel : Nat) (i : Nat) (ls : Array Slot), n - i < fuel → (i ≤ n) → lv_has ls 3 [(0, .ref a), (1, .int (zz_I (((ck_com g i : Nat) : Int)))), (2, .int (zz_I (((i : Nat) : Int))))] → W pg l ev (headSpec kv_J_commonSet ({ frames := 3, cells := 0, slots := 0, locals := 60 })).room sg mg [.ref a].toArray bl mt cd sg.heap [] 0 0 (MQ bl (zz_Qp (.int (zz_I (((ck_com g n : Nat) : Int))))) [.ref a].toArray sg 0 0 (fun _ => False)) (F0 mg 6 ls []) := by
    intro fuel
    induction fuel with
    | zero => intro i ls hfu; exact absurd hfu (Nat.not_lt_zero _)
    | succ fuel ih6 =>
      intro i ls hfu hi hl
      refine lv_iload_n hx hb kd_J_commonSet_6 rfl (lv_at hl 2 rfl) ?_
      refine lv_aload_n hx hb kd_J_commonSet_7 rfl (lv_at hl 0 rfl) ?_
      refine zz_pV ⟨hx, hb, hml, hown, hts⟩ hK (kc_R_length l D cI cW a b n  rfl) (zz_gV kw_178 kw_139 kw_140 kw_28 kw_141) ⟨rfl, rfl⟩ ⟨rfl, kh_R_length⟩ ⟨Nat.le_of_ble_eq_true rfl, Nat.le_of_ble_eq_true rfl⟩ (va_recv (q := (kn_R, kf_R, 2)) hK hP rfl (show ([(a, .inr (1, [.ref b, .int (zz_I (((n : Nat) : Int)))])), (b, .inl (cI, cap, .inl (zz_A (g))))] : va_W)[0]? = some _ from rfl)) (hP.sub (ws' := [(a, .inr (1, [.ref b, .int (zz_I (((n : Nat) : Int)))]))]) [0] rfl) rfl hl.1 rfl (Nat.le_of_ble_eq_true rfl) kd_J_commonSet_8 ⟨Nat.le_of_ble_eq_true rfl, Nat.le_of_ble_eq_true rfl⟩ ?_
      refine zz_icmp_ge (tgt := 31) hx hb kd_J_commonSet_11 (by decide) (by omega) (fun hbr11 => ?_) (fun hbr11 => ?_)
      · refine lv_iload_n hx hb kd_J_commonSet_31 rfl (lv_at hl 1 rfl) ?_
        exact W.iret hx hb hr (zz_endp (by have e : i = n := (by omega); rw [e])) (fun _ h => nomatch h) kd_J_commonSet_32
      · refine lv_iload_n hx hb kd_J_commonSet_14 rfl (lv_at hl 1 rfl) ?_
        refine lv_aload_n hx hb kd_J_commonSet_15 rfl (lv_at hl 0 rfl) ?_
        refine lv_iload_n hx hb kd_J_commonSet_16 rfl (lv_at hl 2 rfl) ?_
        refine zz_pV ⟨hx, hb, hml, hown, hts⟩ hK (kc_R_at l D cI cW a b n cap g ((i : Nat) : Int) (by omega) (by omega) (by omega) (v := g i) (ck_ri_in (by omega))) (zz_gV kw_179 kw_164 kw_165 kw_28 kw_166) ⟨rfl, rfl⟩ ⟨rfl, kh_R_at⟩ ⟨Nat.le_of_ble_eq_true rfl, Nat.le_of_ble_eq_true rfl⟩ (va_recv (q := (kn_R, kf_R, 2)) hK hP rfl (show ([(a, .inr (1, [.ref b, .int (zz_I (((n : Nat) : Int)))])), (b, .inl (cI, cap, .inl (zz_A (g))))] : va_W)[0]? = some _ from rfl)) hP rfl hl.1 rfl (Nat.le_of_ble_eq_true rfl) kd_J_commonSet_17 ⟨Nat.le_of_ble_eq_true rfl, Nat.le_of_ble_eq_true rfl⟩ ?_
        refine zz_pS ⟨hx, hb, hml, hown, hts⟩ hK (kc_A_setOf l D cI cW (g i) (hg i (by omega)) rfl) (zz_gS kw_180 kw_181 kw_37 kw_182) ⟨rfl, rfl⟩ kh_A_setOf ⟨Nat.le_of_ble_eq_true rfl, Nat.le_of_ble_eq_true rfl⟩  trivial rfl hl.1 rfl (Nat.le_of_ble_eq_true rfl) kd_J_commonSet_20 ⟨Nat.le_of_ble_eq_true rfl, Nat.le_of_ble_eq_true rfl⟩ ?_
        refine zz_iand (x := ck_com g i) (y := ck_set (g i)) hx hb (v := (((ck_com g i) &&& (ck_set (g i)) : Nat) : Int)) (rfl) kd_J_commonSet_23 ?_
        refine lv_istore_n hx hb kd_J_commonSet_24 rfl hl (by decide) rfl (fun ls hl => ?_)
        have hl : lv_has ls 3 [(1, .int (zz_I ((((ck_com g i) &&& (ck_set (g i)) : Nat) : Int)))), (0, .ref a), (2, .int (zz_I (((i : Nat) : Int))))] := hl
        refine zz_iinc (k := 2) hx hb kd_J_commonSet_25 hl rfl rfl (by decide) rfl (fun ls hl => ?_)
        have hl : lv_has ls 3 [(2, .int (zz_I (((i : Nat) : Int) + 1))), (1, .int (zz_I ((((ck_com g i) &&& (ck_set (g i)) : Nat) : Int)))), (0, .ref a)] := hl
        refine lv_goto (tgt := 6) hx hb kd_J_commonSet_28 (by decide) ?_
        exact ih6 (i + 1) ls (by omega) (by omega) (lv_sub hl [2, 1, 0] rfl)
  exact lp6 _ 0 ls (Nat.lt_succ_self _) (Nat.zero_le _) (lv_sub hl [2, 1, 0] rfl)
set_option maxHeartbeats 4000000 in
set_option maxRecDepth 100000 in
theorem kc_J_hasForbidden (l : Launch) (D : va_G) (cI cW : ClassId) (a : Nat) (b : Nat) (n : Nat) (cap : Nat) (g : Nat → Int) (hn : n ≤ cap) (hcap : cap ≤ 1000) (hg : ck_ok g n) {v : Int} (hv : zz_b (ck_any ck_forb g n) = v) : Met l ky_J_hasForbidden kv_J_hasForbidden ({ frames := 1, cells := 0, slots := 0, locals := 21 }) (va_Pc [.ref a] (zz_P D cI cW (va_P D kcl [(a, .inr (1, [.ref b, .int (zz_I (((n : Nat) : Int)))])), (b, .inl (cI, cap, .inl (zz_A (g))))]))) (zz_Qp (.int (zz_I v))) 0 0 (fun _ => False) := by
  subst hv
  refine Met.ofW (cc := kb_J_hasForbidden) (maxL := 2) (ret := (some .boolean)) (by decide) rfl ?_
  intro pg ev sg mg ag bl mt cd s1 Bd hml hv
  obtain ⟨rfl, hP, hK⟩ := hv
  have hP : va_P D kcl [(a, .inr (1, [.ref b, .int (zz_I (((n : Nat) : Int)))])), (b, .inl (cI, cap, .inl (zz_A (g))))] sg.heap := hP
  have hx := Bd.exec
  have hb := Bd.bytes
  have hr := Bd.returns
  have hlocks := Bd.notSynchronized
  have hts : ∀ w ∈ zz_tbl, w.before _ sg = true := fun w h => atoms_spec (ws := kv_J_hasForbidden) Bd.pre w (List.mem_cons_of_mem _ h)
  have hown : sg.vm.findClass kn_J = some mg.cls := findClass_of_methodNamed Bd.named
  have hl := lv_entry ([.ref a]) (n := 2) (Nat.le_of_ble_eq_true rfl)
  rw [lg_entry_eq]
  generalize (lg_sl ([.ref a]) ++ List.replicate (2 - (lg_sl ([.ref a])).length) Slot.unset).toArray = ls at hl ⊢
  have hl : lv_has ls 2 [(0, .ref a)] := hl
  refine zz_iconst hx hb (v := 0) (rfl) kd_J_hasForbidden_0 ?_
  refine lv_istore_n hx hb kd_J_hasForbidden_1 rfl hl (by decide) rfl (fun ls hl => ?_)
  have hl : lv_has ls 2 [(1, .int (zz_I (0))), (0, .ref a)] := hl
  have lp2 : ∀ (fuel : Nat) (i : Nat) (ls : Array Slot), n - i < fuel → (i ≤ n) → (ck_any ck_forb g i = false) → lv_has ls 2 [(0, .ref a), (1, .int (zz_I (((i : Nat) : Int))))] → W pg l ev (headSpec kv_J_hasForbidden ({ frames := 1, cells := 0, slots := 0, locals := 21 })).room sg mg [.ref a].toArray bl mt cd sg.heap [] 0 0 (MQ bl (zz_Qp (.int (zz_I (zz_b (ck_any ck_forb g n))))) [.ref a].toArray sg 0 0 (fun _ => False)) (F0 mg 2 ls []) := by
    intro fuel
    induction fuel with
    | zero => intro i ls hfu; exact absurd hfu (Nat.not_lt_zero _)
    | succ fuel ih2 =>
      intro i ls hfu hi hq hl
      refine lv_iload_n hx hb kd_J_hasForbidden_2 rfl (lv_at hl 1 rfl) ?_
      refine lv_aload_n hx hb kd_J_hasForbidden_3 rfl (lv_at hl 0 rfl) ?_
      refine zz_pV ⟨hx, hb, hml, hown, hts⟩ hK (kc_R_length l D cI cW a b n  rfl) (zz_gV kw_178 kw_139 kw_140 kw_28 kw_141) ⟨rfl, rfl⟩ ⟨rfl, kh_R_length⟩ ⟨Nat.le_of_ble_eq_true rfl, Nat.le_of_ble_eq_true rfl⟩ (va_recv (q := (kn_R, kf_R, 2)) hK hP rfl (show ([(a, .inr (1, [.ref b, .int (zz_I (((n : Nat) : Int)))])), (b, .inl (cI, cap, .inl (zz_A (g))))] : va_W)[0]? = some _ from rfl)) (hP.sub (ws' := [(a, .inr (1, [.ref b, .int (zz_I (((n : Nat) : Int)))]))]) [0] rfl) rfl hl.1 rfl (Nat.le_of_ble_eq_true rfl) kd_J_hasForbidden_4 ⟨Nat.le_of_ble_eq_true rfl, Nat.le_of_ble_eq_true rfl⟩ ?_
      refine zz_icmp_ge (tgt := 29) hx hb kd_J_hasForbidden_7 (by decide) (by omega) (fun hbr7 => ?_) (fun hbr7 => ?_)
      · refine zz_iconst hx hb (v := 0) (rfl) kd_J_hasForbidden_29 ?_
        exact W.zret (ty := .boolean) hx hb hr (by decide) (zz_endp (zz_f (by have e : i = n := (by omega); rw [← e]; exact hq))) (fun _ h => nomatch h) kd_J_hasForbidden_30
      · refine lv_aload_n hx hb kd_J_hasForbidden_10 rfl (lv_at hl 0 rfl) ?_
        refine lv_iload_n hx hb kd_J_hasForbidden_11 rfl (lv_at hl 1 rfl) ?_
        refine zz_pV ⟨hx, hb, hml, hown, hts⟩ hK (kc_R_at l D cI cW a b n cap g ((i : Nat) : Int) (by omega) (by omega) (by omega) (v := g i) (ck_ri_in (by omega))) (zz_gV kw_179 kw_164 kw_165 kw_28 kw_166) ⟨rfl, rfl⟩ ⟨rfl, kh_R_at⟩ ⟨Nat.le_of_ble_eq_true rfl, Nat.le_of_ble_eq_true rfl⟩ (va_recv (q := (kn_R, kf_R, 2)) hK hP rfl (show ([(a, .inr (1, [.ref b, .int (zz_I (((n : Nat) : Int)))])), (b, .inl (cI, cap, .inl (zz_A (g))))] : va_W)[0]? = some _ from rfl)) hP rfl hl.1 rfl (Nat.le_of_ble_eq_true rfl) kd_J_hasForbidden_12 ⟨Nat.le_of_ble_eq_true rfl, Nat.le_of_ble_eq_true rfl⟩ ?_
        refine zz_pS ⟨hx, hb, hml, hown, hts⟩ hK (kc_A_isForbidden l D cI cW (g i) (by have := hg i (by omega); omega) rfl) (zz_gS kw_205 kw_206 kw_37 kw_207) ⟨rfl, rfl⟩ kh_A_isForbidden ⟨Nat.le_of_ble_eq_true rfl, Nat.le_of_ble_eq_true rfl⟩  trivial rfl hl.1 rfl (Nat.le_of_ble_eq_true rfl) kd_J_hasForbidden_15 ⟨Nat.le_of_ble_eq_true rfl, Nat.le_of_ble_eq_true rfl⟩ ?_
        refine zz_ifb_eq (tgt := 23) hx hb kd_J_hasForbidden_18 (by decide) (fun hbr18 => ?_) (fun hbr18 => ?_)
        · have hbr18 := of_decide_eq_false hbr18
          refine zz_iinc (k := 1) hx hb kd_J_hasForbidden_23 hl rfl rfl (by decide) rfl (fun ls hl => ?_)
          have hl : lv_has ls 2 [(1, .int (zz_I (((i : Nat) : Int) + 1))), (0, .ref a)] := hl
          refine lv_goto (tgt := 2) hx hb kd_J_hasForbidden_26 (by decide) ?_
          exact ih2 (i + 1) ls (by omega) (by omega) (ck_any_no hq (decide_eq_false (by omega))) (lv_sub hl [1, 0] rfl)
        · have hbr18 := of_decide_eq_true hbr18
          refine zz_iconst hx hb (v := 1) (rfl) kd_J_hasForbidden_21 ?_
          exact W.zret (ty := .boolean) hx hb hr (by decide) (zz_endp (zz_t (ck_any_up (P := ck_forb) (k := i) (decide_eq_true (by omega)) n (by omega)))) (fun _ h => nomatch h) kd_J_hasForbidden_22
  exact lp2 _ 0 ls (Nat.lt_succ_self _) (Nat.zero_le _) (rfl) (lv_sub hl [1, 0] rfl)
set_option maxHeartbeats 4000000 in
set_option maxRecDepth 100000 in
theorem kc_J_isPlain (l : Launch) (D : va_G) (cI cW : ClassId) (a : Nat) (b : Nat) (n : Nat) (cap : Nat) (g : Nat → Int) (hn : n ≤ cap) (hcap : cap ≤ 1000) (hg : ck_ok g n) {v : Int} (hv : zz_b (!ck_any ck_npl g n) = v) : Met l ky_J_isPlain kv_J_isPlain ({ frames := 2, cells := 0, slots := 0, locals := 40 }) (va_Pc [.ref a] (zz_P D cI cW (va_P D kcl [(a, .inr (1, [.ref b, .int (zz_I (((n : Nat) : Int)))])), (b, .inl (cI, cap, .inl (zz_A (g))))]))) (zz_Qp (.int (zz_I v))) 0 0 (fun _ => False) := by
  subst hv
  refine Met.ofW (cc := kb_J_isPlain) (maxL := 2) (ret := (some .boolean)) (by decide) rfl ?_
  intro pg ev sg mg ag bl mt cd s1 Bd hml hv
  obtain ⟨rfl, hP, hK⟩ := hv
  have hP : va_P D kcl [(a, .inr (1, [.ref b, .int (zz_I (((n : Nat) : Int)))])), (b, .inl (cI, cap, .inl (zz_A (g))))] sg.heap := hP
  have hx := Bd.exec
  have hb := Bd.bytes
  have hr := Bd.returns
  have hlocks := Bd.notSynchronized
  have hts : ∀ w ∈ zz_tbl, w.before _ sg = true := fun w h => atoms_spec (ws := kv_J_isPlain) Bd.pre w (List.mem_cons_of_mem _ h)
  have hown : sg.vm.findClass kn_J = some mg.cls := findClass_of_methodNamed Bd.named
  have hl := lv_entry ([.ref a]) (n := 2) (Nat.le_of_ble_eq_true rfl)
  rw [lg_entry_eq]
  generalize (lg_sl ([.ref a]) ++ List.replicate (2 - (lg_sl ([.ref a])).length) Slot.unset).toArray = ls at hl ⊢
  have hl : lv_has ls 2 [(0, .ref a)] := hl
  refine zz_iconst hx hb (v := 0) (rfl) kd_J_isPlain_0 ?_
  refine lv_istore_n hx hb kd_J_isPlain_1 rfl hl (by decide) rfl (fun ls hl => ?_)
  have hl : lv_has ls 2 [(1, .int (zz_I (0))), (0, .ref a)] := hl
  have lp2 : ∀ (fuel : Nat) (i : Nat) (ls : Array Slot), n - i < fuel → (i ≤ n) → (ck_any ck_npl g i = false) → lv_has ls 2 [(0, .ref a), (1, .int (zz_I (((i : Nat) : Int))))] → W pg l ev (headSpec kv_J_isPlain ({ frames := 2, cells := 0, slots := 0, locals := 40 })).room sg mg [.ref a].toArray bl mt cd sg.heap [] 0 0 (MQ bl (zz_Qp (.int (zz_I (zz_b (!ck_any ck_npl g n))))) [.ref a].toArray sg 0 0 (fun _ => False)) (F0 mg 2 ls []) := by
    intro fuel
    induction fuel with
    | zero => intro i ls hfu; exact absurd hfu (Nat.not_lt_zero _)
    | succ fuel ih2 =>
      intro i ls hfu hi hq hl
      refine lv_iload_n hx hb kd_J_isPlain_2 rfl (lv_at hl 1 rfl) ?_
      refine lv_aload_n hx hb kd_J_isPlain_3 rfl (lv_at hl 0 rfl) ?_
      refine zz_pV ⟨hx, hb, hml, hown, hts⟩ hK (kc_R_length l D cI cW a b n  rfl) (zz_gV kw_178 kw_139 kw_140 kw_28 kw_141) ⟨rfl, rfl⟩ ⟨rfl, kh_R_length⟩ ⟨Nat.le_of_ble_eq_true rfl, Nat.le_of_ble_eq_true rfl⟩ (va_recv (q := (kn_R, kf_R, 2)) hK hP rfl (show ([(a, .inr (1, [.ref b, .int (zz_I (((n : Nat) : Int)))])), (b, .inl (cI, cap, .inl (zz_A (g))))] : va_W)[0]? = some _ from rfl)) (hP.sub (ws' := [(a, .inr (1, [.ref b, .int (zz_I (((n : Nat) : Int)))]))]) [0] rfl) rfl hl.1 rfl (Nat.le_of_ble_eq_true rfl) kd_J_isPlain_4 ⟨Nat.le_of_ble_eq_true rfl, Nat.le_of_ble_eq_true rfl⟩ ?_
      refine zz_icmp_ge (tgt := 29) hx hb kd_J_isPlain_7 (by decide) (by omega) (fun hbr7 => ?_) (fun hbr7 => ?_)
      · refine zz_iconst hx hb (v := 1) (rfl) kd_J_isPlain_29 ?_
        exact W.zret (ty := .boolean) hx hb hr (by decide) (zz_endp (zz_t (by show (!ck_any ck_npl g n) = true; rw [show ck_any ck_npl g n = false from by have e : i = n := (by omega); rw [← e]; exact hq]; rfl))) (fun _ h => nomatch h) kd_J_isPlain_30
      · refine lv_aload_n hx hb kd_J_isPlain_10 rfl (lv_at hl 0 rfl) ?_
        refine lv_iload_n hx hb kd_J_isPlain_11 rfl (lv_at hl 1 rfl) ?_
        refine zz_pV ⟨hx, hb, hml, hown, hts⟩ hK (kc_R_at l D cI cW a b n cap g ((i : Nat) : Int) (by omega) (by omega) (by omega) (v := g i) (ck_ri_in (by omega))) (zz_gV kw_179 kw_164 kw_165 kw_28 kw_166) ⟨rfl, rfl⟩ ⟨rfl, kh_R_at⟩ ⟨Nat.le_of_ble_eq_true rfl, Nat.le_of_ble_eq_true rfl⟩ (va_recv (q := (kn_R, kf_R, 2)) hK hP rfl (show ([(a, .inr (1, [.ref b, .int (zz_I (((n : Nat) : Int)))])), (b, .inl (cI, cap, .inl (zz_A (g))))] : va_W)[0]? = some _ from rfl)) hP rfl hl.1 rfl (Nat.le_of_ble_eq_true rfl) kd_J_isPlain_12 ⟨Nat.le_of_ble_eq_true rfl, Nat.le_of_ble_eq_true rfl⟩ ?_
        refine zz_pS ⟨hx, hb, hml, hown, hts⟩ hK (kc_A_isPlain l D cI cW (g i) (by have := hg i (by omega); omega) rfl) (zz_gS kw_211 kw_212 kw_37 kw_213) ⟨rfl, rfl⟩ kh_A_isPlain ⟨Nat.le_of_ble_eq_true rfl, Nat.le_of_ble_eq_true rfl⟩  trivial rfl hl.1 rfl (Nat.le_of_ble_eq_true rfl) kd_J_isPlain_15 ⟨Nat.le_of_ble_eq_true rfl, Nat.le_of_ble_eq_true rfl⟩ ?_
        refine zz_ifb_ne (tgt := 23) hx hb kd_J_isPlain_18 (by decide) (fun hbr18 => ?_) (fun hbr18 => ?_)
        · have hbr18 := of_decide_eq_true hbr18
          refine zz_iinc (k := 1) hx hb kd_J_isPlain_23 hl rfl rfl (by decide) rfl (fun ls hl => ?_)
          have hl : lv_has ls 2 [(1, .int (zz_I (((i : Nat) : Int) + 1))), (0, .ref a)] := hl
          refine lv_goto (tgt := 2) hx hb kd_J_isPlain_26 (by decide) ?_
          exact ih2 (i + 1) ls (by omega) (by omega) (ck_any_no hq (by unfold ck_npl; rw [show ck_plain (g i) = true from decide_eq_true (by omega)]; rfl)) (lv_sub hl [1, 0] rfl)
        · have hbr18 := of_decide_eq_false hbr18
          refine zz_iconst hx hb (v := 0) (rfl) kd_J_isPlain_21 ?_
          exact W.zret (ty := .boolean) hx hb hr (by decide) (zz_endp (zz_f (by show (!ck_any ck_npl g n) = false; rw [ck_any_up (P := ck_npl) (k := i) (by unfold ck_npl; rw [show ck_plain (g i) = false from decide_eq_false (by omega)]; rfl) n (by omega)]; rfl))) (fun _ h => nomatch h) kd_J_isPlain_22
  exact lp2 _ 0 ls (Nat.lt_succ_self _) (Nat.zero_le _) (rfl) (lv_sub hl [1, 0] rfl)
set_option maxHeartbeats 4000000 in
set_option maxRecDepth 100000 in
theorem kc_J_eachIsLatinOr (l : Launch) (D : va_G) (cI cW : ClassId) (a : Nat) (b : Nat) (n : Nat) (cap : Nat) (g : Nat → Int) (k : Nat) (hn : n ≤ cap) (hcap : cap ≤ 1000) (hg : ck_ok g n) (hk : k ≤ 4096) {v : Int} (hv : zz_b (!ck_any (ck_off k) g n) = v) : Met l ky_J_eachIsLatinOr kv_J_eachIsLatinOr ({ frames := 3, cells := 0, slots := 0, locals := 60 }) (va_Pc [.ref a, .int (zz_I (((k : Nat) : Int)))] (zz_P D cI cW (va_P D kcl [(a, .inr (1, [.ref b, .int (zz_I (((n : Nat) : Int)))])), (b, .inl (cI, cap, .inl (zz_A (g))))]))) (zz_Qp (.int (zz_I v))) 0 0 (fun _ => False) := by
  subst hv
  refine Met.ofW (cc := kb_J_eachIsLatinOr) (maxL := 3) (ret := (some .boolean)) (by decide) rfl ?_
  intro pg ev sg mg ag bl mt cd s1 Bd hml hv
  obtain ⟨rfl, hP, hK⟩ := hv
  have hP : va_P D kcl [(a, .inr (1, [.ref b, .int (zz_I (((n : Nat) : Int)))])), (b, .inl (cI, cap, .inl (zz_A (g))))] sg.heap := hP
  have hx := Bd.exec
  have hb := Bd.bytes
  have hr := Bd.returns
  have hlocks := Bd.notSynchronized
  have hts : ∀ w ∈ zz_tbl, w.before _ sg = true := fun w h => atoms_spec (ws := kv_J_eachIsLatinOr) Bd.pre w (List.mem_cons_of_mem _ h)
  have hown : sg.vm.findClass kn_J = some mg.cls := findClass_of_methodNamed Bd.named
  have hl := lv_entry ([.ref a, .int (zz_I (((k : Nat) : Int)))]) (n := 3) (Nat.le_of_ble_eq_true rfl)
  rw [lg_entry_eq]
  generalize (lg_sl ([.ref a, .int (zz_I (((k : Nat) : Int)))]) ++ List.replicate (3 - (lg_sl ([.ref a, .int (zz_I (((k : Nat) : Int)))])).length) Slot.unset).toArray = ls at hl ⊢
  have hl : lv_has ls 3 [(0, .ref a), (1, .int (zz_I (((k : Nat) : Int))))] := hl
  refine zz_iconst hx hb (v := 0) (rfl) kd_J_eachIsLatinOr_0 ?_
  refine lv_istore_n hx hb kd_J_eachIsLatinOr_1 rfl hl (by decide) rfl (fun ls hl => ?_)
  have hl : lv_has ls 3 [(2, .int (zz_I (0))), (0, .ref a), (1, .int (zz_I (((k : Nat) : Int))))] := hl
  have lp2 : ∀ (fuel : Nat) (i : Nat) (ls : Array Slot), n - i < fuel → (i ≤ n) → (ck_any (ck_off k) g i = false) → lv_has ls 3 [(0, .ref a), (1, .int (zz_I (((k : Nat) : Int)))), (2, .int (zz_I (((i : Nat) : Int))))] → W pg l ev (headSpec kv_J_eachIsLatinOr ({ frames := 3, cells := 0, slots := 0, locals := 60 })).room sg mg [.ref a, .int (zz_I (((k : Nat) : Int)))].toArray bl mt cd sg.heap [] 0 0 (MQ bl (zz_Qp (.int (zz_I (zz_b (!ck_any (ck_off k) g n))))) [.ref a, .int (zz_I (((k : Nat) : Int)))].toArray sg 0 0 (fun _ => False)) (F0 mg 2 ls []) := by
    intro fuel
    induction fuel with
    | zero => intro i ls hfu; exact absurd hfu (Nat.not_lt_zero _)
    | succ fuel ih2 =>
      intro i ls hfu hi hq hl
      refine lv_iload_n hx hb kd_J_eachIsLatinOr_2 rfl (lv_at hl 2 rfl) ?_
      refine lv_aload_n hx hb kd_J_eachIsLatinOr_3 rfl (lv_at hl 0 rfl) ?_
      refine zz_pV ⟨hx, hb, hml, hown, hts⟩ hK (kc_R_length l D cI cW a b n  rfl) (zz_gV kw_178 kw_139 kw_140 kw_28 kw_141) ⟨rfl, rfl⟩ ⟨rfl, kh_R_length⟩ ⟨Nat.le_of_ble_eq_true rfl, Nat.le_of_ble_eq_true rfl⟩ (va_recv (q := (kn_R, kf_R, 2)) hK hP rfl (show ([(a, .inr (1, [.ref b, .int (zz_I (((n : Nat) : Int)))])), (b, .inl (cI, cap, .inl (zz_A (g))))] : va_W)[0]? = some _ from rfl)) (hP.sub (ws' := [(a, .inr (1, [.ref b, .int (zz_I (((n : Nat) : Int)))]))]) [0] rfl) rfl hl.1 rfl (Nat.le_of_ble_eq_true rfl) kd_J_eachIsLatinOr_4 ⟨Nat.le_of_ble_eq_true rfl, Nat.le_of_ble_eq_true rfl⟩ ?_
      refine zz_icmp_ge (tgt := 33) hx hb kd_J_eachIsLatinOr_7 (by decide) (by omega) (fun hbr7 => ?_) (fun hbr7 => ?_)
      · refine zz_iconst hx hb (v := 1) (rfl) kd_J_eachIsLatinOr_33 ?_
        exact W.zret (ty := .boolean) hx hb hr (by decide) (zz_endp (zz_t (by show (!ck_any (ck_off k) g n) = true; rw [show ck_any (ck_off k) g n = false from by have e : i = n := (by omega); rw [← e]; exact hq]; rfl))) (fun _ h => nomatch h) kd_J_eachIsLatinOr_34
      · refine lv_aload_n hx hb kd_J_eachIsLatinOr_10 rfl (lv_at hl 0 rfl) ?_
        refine lv_iload_n hx hb kd_J_eachIsLatinOr_11 rfl (lv_at hl 2 rfl) ?_
        refine zz_pV ⟨hx, hb, hml, hown, hts⟩ hK (kc_R_at l D cI cW a b n cap g ((i : Nat) : Int) (by omega) (by omega) (by omega) (v := g i) (ck_ri_in (by omega))) (zz_gV kw_179 kw_164 kw_165 kw_28 kw_166) ⟨rfl, rfl⟩ ⟨rfl, kh_R_at⟩ ⟨Nat.le_of_ble_eq_true rfl, Nat.le_of_ble_eq_true rfl⟩ (va_recv (q := (kn_R, kf_R, 2)) hK hP rfl (show ([(a, .inr (1, [.ref b, .int (zz_I (((n : Nat) : Int)))])), (b, .inl (cI, cap, .inl (zz_A (g))))] : va_W)[0]? = some _ from rfl)) hP rfl hl.1 rfl (Nat.le_of_ble_eq_true rfl) kd_J_eachIsLatinOr_12 ⟨Nat.le_of_ble_eq_true rfl, Nat.le_of_ble_eq_true rfl⟩ ?_
        refine zz_pS ⟨hx, hb, hml, hown, hts⟩ hK (kc_A_setOf l D cI cW (g i) (hg i (by omega)) rfl) (zz_gS kw_180 kw_181 kw_37 kw_182) ⟨rfl, rfl⟩ kh_A_setOf ⟨Nat.le_of_ble_eq_true rfl, Nat.le_of_ble_eq_true rfl⟩  trivial rfl hl.1 rfl (Nat.le_of_ble_eq_true rfl) kd_J_eachIsLatinOr_15 ⟨Nat.le_of_ble_eq_true rfl, Nat.le_of_ble_eq_true rfl⟩ ?_
        refine zz_iconst hx hb (v := 1) (rfl) kd_J_eachIsLatinOr_18 ?_
        refine lv_iload_n hx hb kd_J_eachIsLatinOr_19 rfl (lv_at hl 1 rfl) ?_
        refine zz_ior (x := 1) (y := k) hx hb (v := ((1 ||| k : Nat) : Int)) (rfl) kd_J_eachIsLatinOr_20 ?_
        refine zz_iand (x := ck_set (g i)) (y := 1 ||| k) hx hb (v := (((ck_set (g i)) &&& (1 ||| k) : Nat) : Int)) (rfl) kd_J_eachIsLatinOr_21 ?_
        refine zz_if_ne (tgt := 27) hx hb kd_J_eachIsLatinOr_22 (by decide) (by have := ck_and_lt (ck_set_lt (g i)) (y := 1 ||| k); omega) (fun hbr22 => ?_) (fun hbr22 => ?_)
        · refine zz_iinc (k := 2) hx hb kd_J_eachIsLatinOr_27 hl rfl rfl (by decide) rfl (fun ls hl => ?_)
          have hl : lv_has ls 3 [(2, .int (zz_I (((i : Nat) : Int) + 1))), (0, .ref a), (1, .int (zz_I (((k : Nat) : Int))))] := hl
          refine lv_goto (tgt := 2) hx hb kd_J_eachIsLatinOr_30 (by decide) ?_
          exact ih2 (i + 1) ls (by omega) (by omega) (ck_any_no hq (decide_eq_false (by omega))) (lv_sub hl [1, 2, 0] rfl)
        · refine zz_iconst hx hb (v := 0) (rfl) kd_J_eachIsLatinOr_25 ?_
          exact W.zret (ty := .boolean) hx hb hr (by decide) (zz_endp (zz_f (by show (!ck_any (ck_off k) g n) = false; rw [ck_any_up (P := (ck_off k)) (k := i) (decide_eq_true (by omega)) n (by omega)]; rfl))) (fun _ h => nomatch h) kd_J_eachIsLatinOr_26
  exact lp2 _ 0 ls (Nat.lt_succ_self _) (Nat.zero_le _) (rfl) (lv_sub hl [1, 2, 0] rfl)
set_option maxHeartbeats 4000000 in
set_option maxRecDepth 100000 in
theorem kc_J_isLatinWithMixedScript (l : Launch) (D : va_G) (cI cW : ClassId) (a : Nat) (b : Nat) (n : Nat) (cap : Nat) (g : Nat → Int) (hn : n ≤ cap) (hcap : cap ≤ 1000) (hg : ck_ok g n) {v : Int} (hv : zz_b (ck_mix g n) = v) : Met l ky_J_isLatinWithMixedScript kv_J_isLatinWithMixedScript ({ frames := 4, cells := 0, slots := 0, locals := 82 }) (va_Pc [.ref a] (zz_P D cI cW (va_P D kcl [(a, .inr (1, [.ref b, .int (zz_I (((n : Nat) : Int)))])), (b, .inl (cI, cap, .inl (zz_A (g))))]))) (zz_Qp (.int (zz_I v))) 0 0 (fun _ => False) := by
  subst hv
  refine Met.ofW (cc := kb_J_isLatinWithMixedScript) (maxL := 1) (ret := (some .boolean)) (by decide) rfl ?_
  intro pg ev sg mg ag bl mt cd s1 Bd hml hv
  obtain ⟨rfl, hP, hK⟩ := hv
  have hP : va_P D kcl [(a, .inr (1, [.ref b, .int (zz_I (((n : Nat) : Int)))])), (b, .inl (cI, cap, .inl (zz_A (g))))] sg.heap := hP
  have hx := Bd.exec
  have hb := Bd.bytes
  have hr := Bd.returns
  have hlocks := Bd.notSynchronized
  have hts : ∀ w ∈ zz_tbl, w.before _ sg = true := fun w h => atoms_spec (ws := kv_J_isLatinWithMixedScript) Bd.pre w (List.mem_cons_of_mem _ h)
  have hown : sg.vm.findClass kn_J = some mg.cls := findClass_of_methodNamed Bd.named
  have hl := lv_entry ([.ref a]) (n := 1) (Nat.le_of_ble_eq_true rfl)
  rw [lg_entry_eq]
  generalize (lg_sl ([.ref a]) ++ List.replicate (1 - (lg_sl ([.ref a])).length) Slot.unset).toArray = ls at hl ⊢
  have hl : lv_has ls 1 [(0, .ref a)] := hl
  refine lv_aload_n hx hb kd_J_isLatinWithMixedScript_0 rfl (lv_at hl 0 rfl) ?_
  refine zz_sipush hx hb kd_J_isLatinWithMixedScript_1 (by decide) ?_
  refine zz_pS ⟨hx, hb, hml, hown, hts⟩ hK (kc_J_eachIsLatinOr l D cI cW a b n cap g 512 (by omega) (by omega) (by assumption) (by omega) rfl) (zz_gS kw_224 kw_225 kw_38 kw_226) ⟨rfl, rfl⟩ kh_J_eachIsLatinOr ⟨Nat.le_of_ble_eq_true rfl, Nat.le_of_ble_eq_true rfl⟩  hP rfl hl.1 rfl (Nat.le_of_ble_eq_true rfl) kd_J_isLatinWithMixedScript_4 ⟨Nat.le_of_ble_eq_true rfl, Nat.le_of_ble_eq_true rfl⟩ ?_
  refine zz_ifb_ne (tgt := 30) hx hb kd_J_isLatinWithMixedScript_7 (by decide) (fun hbr7 => ?_) (fun hbr7 => ?_)
  · refine zz_iconst hx hb (v := 1) (rfl) kd_J_isLatinWithMixedScript_30 ?_
    refine lv_goto (tgt := 35) hx hb kd_J_isLatinWithMixedScript_31 (by decide) ?_
    exact W.zret (ty := .boolean) hx hb hr (by decide) (zz_endp (zz_t (ck_mix_yes (by first | exact (Or.inl (by assumption)) | exact (Or.inr (Or.inl (by assumption))) | exact (Or.inr (Or.inr (by assumption))))))) (fun _ h => nomatch h) kd_J_isLatinWithMixedScript_35
  · refine lv_aload_n hx hb kd_J_isLatinWithMixedScript_10 rfl (lv_at hl 0 rfl) ?_
    refine zz_sipush hx hb kd_J_isLatinWithMixedScript_11 (by decide) ?_
    refine zz_pS ⟨hx, hb, hml, hown, hts⟩ hK (kc_J_eachIsLatinOr l D cI cW a b n cap g 1024 (by omega) (by omega) (by assumption) (by omega) rfl) (zz_gS kw_224 kw_225 kw_38 kw_226) ⟨rfl, rfl⟩ kh_J_eachIsLatinOr ⟨Nat.le_of_ble_eq_true rfl, Nat.le_of_ble_eq_true rfl⟩  hP rfl hl.1 rfl (Nat.le_of_ble_eq_true rfl) kd_J_isLatinWithMixedScript_14 ⟨Nat.le_of_ble_eq_true rfl, Nat.le_of_ble_eq_true rfl⟩ ?_
    refine zz_ifb_ne (tgt := 30) hx hb kd_J_isLatinWithMixedScript_17 (by decide) (fun hbr17 => ?_) (fun hbr17 => ?_)
    · refine zz_iconst hx hb (v := 1) (rfl) kd_J_isLatinWithMixedScript_30 ?_
      refine lv_goto (tgt := 35) hx hb kd_J_isLatinWithMixedScript_31 (by decide) ?_
      exact W.zret (ty := .boolean) hx hb hr (by decide) (zz_endp (zz_t (ck_mix_yes (by first | exact (Or.inl (by assumption)) | exact (Or.inr (Or.inl (by assumption))) | exact (Or.inr (Or.inr (by assumption))))))) (fun _ h => nomatch h) kd_J_isLatinWithMixedScript_35
    · refine lv_aload_n hx hb kd_J_isLatinWithMixedScript_20 rfl (lv_at hl 0 rfl) ?_
      refine zz_sipush hx hb kd_J_isLatinWithMixedScript_21 (by decide) ?_
      refine zz_pS ⟨hx, hb, hml, hown, hts⟩ hK (kc_J_eachIsLatinOr l D cI cW a b n cap g 2048 (by omega) (by omega) (by assumption) (by omega) rfl) (zz_gS kw_224 kw_225 kw_38 kw_226) ⟨rfl, rfl⟩ kh_J_eachIsLatinOr ⟨Nat.le_of_ble_eq_true rfl, Nat.le_of_ble_eq_true rfl⟩  hP rfl hl.1 rfl (Nat.le_of_ble_eq_true rfl) kd_J_isLatinWithMixedScript_24 ⟨Nat.le_of_ble_eq_true rfl, Nat.le_of_ble_eq_true rfl⟩ ?_
      refine zz_ifb_eq (tgt := 34) hx hb kd_J_isLatinWithMixedScript_27 (by decide) (fun hbr27 => ?_) (fun hbr27 => ?_)
      · refine zz_iconst hx hb (v := 0) (rfl) kd_J_isLatinWithMixedScript_34 ?_
        exact W.zret (ty := .boolean) hx hb hr (by decide) (zz_endp (zz_f (ck_mix_no (by assumption) (by assumption) (by assumption)))) (fun _ h => nomatch h) kd_J_isLatinWithMixedScript_35
      · refine zz_iconst hx hb (v := 1) (rfl) kd_J_isLatinWithMixedScript_30 ?_
        refine lv_goto (tgt := 35) hx hb kd_J_isLatinWithMixedScript_31 (by decide) ?_
        exact W.zret (ty := .boolean) hx hb hr (by decide) (zz_endp (zz_t (ck_mix_yes (by first | exact (Or.inl (by assumption)) | exact (Or.inr (Or.inl (by assumption))) | exact (Or.inr (Or.inr (by assumption))))))) (fun _ h => nomatch h) kd_J_isLatinWithMixedScript_35
set_option maxHeartbeats 4000000 in
set_option maxRecDepth 100000 in
theorem kc_J_isLatinWithOneScript (l : Launch) (D : va_G) (cI cW : ClassId) (a : Nat) (b : Nat) (n : Nat) (cap : Nat) (g : Nat → Int) (hn : n ≤ cap) (hcap : cap ≤ 1000) (hg : ck_ok g n) {v : Int} (hv : zz_b (ck_one g n) = v) : Met l ky_J_isLatinWithOneScript kv_J_isLatinWithOneScript ({ frames := 4, cells := 0, slots := 0, locals := 82 }) (va_Pc [.ref a] (zz_P D cI cW (va_P D kcl [(a, .inr (1, [.ref b, .int (zz_I (((n : Nat) : Int)))])), (b, .inl (cI, cap, .inl (zz_A (g))))]))) (zz_Qp (.int (zz_I v))) 0 0 (fun _ => False) := by
  subst hv
  refine Met.ofW (cc := kb_J_isLatinWithOneScript) (maxL := 1) (ret := (some .boolean)) (by decide) rfl ?_
  intro pg ev sg mg ag bl mt cd s1 Bd hml hv
  obtain ⟨rfl, hP, hK⟩ := hv
  have hP : va_P D kcl [(a, .inr (1, [.ref b, .int (zz_I (((n : Nat) : Int)))])), (b, .inl (cI, cap, .inl (zz_A (g))))] sg.heap := hP
  have hx := Bd.exec
  have hb := Bd.bytes
  have hr := Bd.returns
  have hlocks := Bd.notSynchronized
  have hts : ∀ w ∈ zz_tbl, w.before _ sg = true := fun w h => atoms_spec (ws := kv_J_isLatinWithOneScript) Bd.pre w (List.mem_cons_of_mem _ h)
  have hown : sg.vm.findClass kn_J = some mg.cls := findClass_of_methodNamed Bd.named
  have hl := lv_entry ([.ref a]) (n := 1) (Nat.le_of_ble_eq_true rfl)
  rw [lg_entry_eq]
  generalize (lg_sl ([.ref a]) ++ List.replicate (1 - (lg_sl ([.ref a])).length) Slot.unset).toArray = ls at hl ⊢
  have hl : lv_has ls 1 [(0, .ref a)] := hl
  refine lv_aload_n hx hb kd_J_isLatinWithOneScript_0 rfl (lv_at hl 0 rfl) ?_
  refine zz_bipush hx hb kd_J_isLatinWithOneScript_1 (by decide) ?_
  refine zz_pS ⟨hx, hb, hml, hown, hts⟩ hK (kc_J_eachIsLatinOr l D cI cW a b n cap g 8 (by omega) (by omega) (by assumption) (by omega) rfl) (zz_gS kw_224 kw_225 kw_38 kw_226) ⟨rfl, rfl⟩ kh_J_eachIsLatinOr ⟨Nat.le_of_ble_eq_true rfl, Nat.le_of_ble_eq_true rfl⟩  hP rfl hl.1 rfl (Nat.le_of_ble_eq_true rfl) kd_J_isLatinWithOneScript_3 ⟨Nat.le_of_ble_eq_true rfl, Nat.le_of_ble_eq_true rfl⟩ ?_
  refine zz_ifb_ne (tgt := 56) hx hb kd_J_isLatinWithOneScript_6 (by decide) (fun hbr6 => ?_) (fun hbr6 => ?_)
  · refine zz_iconst hx hb (v := 1) (rfl) kd_J_isLatinWithOneScript_56 ?_
    refine lv_goto (tgt := 61) hx hb kd_J_isLatinWithOneScript_57 (by decide) ?_
    exact W.zret (ty := .boolean) hx hb hr (by decide) (zz_endp (zz_t (ck_one_yes (by first | exact (Or.inl (by assumption)) | exact (Or.inr (Or.inl (by assumption))) | exact (Or.inr (Or.inr (Or.inl (by assumption)))) | exact (Or.inr (Or.inr (Or.inr (Or.inl (by assumption))))) | exact (Or.inr (Or.inr (Or.inr (Or.inr (Or.inl (by assumption)))))) | exact (Or.inr (Or.inr (Or.inr (Or.inr (Or.inr (by assumption)))))))))) (fun _ h => nomatch h) kd_J_isLatinWithOneScript_61
  · refine lv_aload_n hx hb kd_J_isLatinWithOneScript_9 rfl (lv_at hl 0 rfl) ?_
    refine zz_bipush hx hb kd_J_isLatinWithOneScript_10 (by decide) ?_
    refine zz_pS ⟨hx, hb, hml, hown, hts⟩ hK (kc_J_eachIsLatinOr l D cI cW a b n cap g 16 (by omega) (by omega) (by assumption) (by omega) rfl) (zz_gS kw_224 kw_225 kw_38 kw_226) ⟨rfl, rfl⟩ kh_J_eachIsLatinOr ⟨Nat.le_of_ble_eq_true rfl, Nat.le_of_ble_eq_true rfl⟩  hP rfl hl.1 rfl (Nat.le_of_ble_eq_true rfl) kd_J_isLatinWithOneScript_12 ⟨Nat.le_of_ble_eq_true rfl, Nat.le_of_ble_eq_true rfl⟩ ?_
    refine zz_ifb_ne (tgt := 56) hx hb kd_J_isLatinWithOneScript_15 (by decide) (fun hbr15 => ?_) (fun hbr15 => ?_)
    · refine zz_iconst hx hb (v := 1) (rfl) kd_J_isLatinWithOneScript_56 ?_
      refine lv_goto (tgt := 61) hx hb kd_J_isLatinWithOneScript_57 (by decide) ?_
      exact W.zret (ty := .boolean) hx hb hr (by decide) (zz_endp (zz_t (ck_one_yes (by first | exact (Or.inl (by assumption)) | exact (Or.inr (Or.inl (by assumption))) | exact (Or.inr (Or.inr (Or.inl (by assumption)))) | exact (Or.inr (Or.inr (Or.inr (Or.inl (by assumption))))) | exact (Or.inr (Or.inr (Or.inr (Or.inr (Or.inl (by assumption)))))) | exact (Or.inr (Or.inr (Or.inr (Or.inr (Or.inr (by assumption)))))))))) (fun _ h => nomatch h) kd_J_isLatinWithOneScript_61
    · refine lv_aload_n hx hb kd_J_isLatinWithOneScript_18 rfl (lv_at hl 0 rfl) ?_
      refine zz_bipush hx hb kd_J_isLatinWithOneScript_19 (by decide) ?_
      refine zz_pS ⟨hx, hb, hml, hown, hts⟩ hK (kc_J_eachIsLatinOr l D cI cW a b n cap g 32 (by omega) (by omega) (by assumption) (by omega) rfl) (zz_gS kw_224 kw_225 kw_38 kw_226) ⟨rfl, rfl⟩ kh_J_eachIsLatinOr ⟨Nat.le_of_ble_eq_true rfl, Nat.le_of_ble_eq_true rfl⟩  hP rfl hl.1 rfl (Nat.le_of_ble_eq_true rfl) kd_J_isLatinWithOneScript_21 ⟨Nat.le_of_ble_eq_true rfl, Nat.le_of_ble_eq_true rfl⟩ ?_
      refine zz_ifb_ne (tgt := 56) hx hb kd_J_isLatinWithOneScript_24 (by decide) (fun hbr24 => ?_) (fun hbr24 => ?_)
      · refine zz_iconst hx hb (v := 1) (rfl) kd_J_isLatinWithOneScript_56 ?_
        refine lv_goto (tgt := 61) hx hb kd_J_isLatinWithOneScript_57 (by decide) ?_
        exact W.zret (ty := .boolean) hx hb hr (by decide) (zz_endp (zz_t (ck_one_yes (by first | exact (Or.inl (by assumption)) | exact (Or.inr (Or.inl (by assumption))) | exact (Or.inr (Or.inr (Or.inl (by assumption)))) | exact (Or.inr (Or.inr (Or.inr (Or.inl (by assumption))))) | exact (Or.inr (Or.inr (Or.inr (Or.inr (Or.inl (by assumption)))))) | exact (Or.inr (Or.inr (Or.inr (Or.inr (Or.inr (by assumption)))))))))) (fun _ h => nomatch h) kd_J_isLatinWithOneScript_61
      · refine lv_aload_n hx hb kd_J_isLatinWithOneScript_27 rfl (lv_at hl 0 rfl) ?_
        refine zz_bipush hx hb kd_J_isLatinWithOneScript_28 (by decide) ?_
        refine zz_pS ⟨hx, hb, hml, hown, hts⟩ hK (kc_J_eachIsLatinOr l D cI cW a b n cap g 64 (by omega) (by omega) (by assumption) (by omega) rfl) (zz_gS kw_224 kw_225 kw_38 kw_226) ⟨rfl, rfl⟩ kh_J_eachIsLatinOr ⟨Nat.le_of_ble_eq_true rfl, Nat.le_of_ble_eq_true rfl⟩  hP rfl hl.1 rfl (Nat.le_of_ble_eq_true rfl) kd_J_isLatinWithOneScript_30 ⟨Nat.le_of_ble_eq_true rfl, Nat.le_of_ble_eq_true rfl⟩ ?_
        refine zz_ifb_ne (tgt := 56) hx hb kd_J_isLatinWithOneScript_33 (by decide) (fun hbr33 => ?_) (fun hbr33 => ?_)
        · refine zz_iconst hx hb (v := 1) (rfl) kd_J_isLatinWithOneScript_56 ?_
          refine lv_goto (tgt := 61) hx hb kd_J_isLatinWithOneScript_57 (by decide) ?_
          exact W.zret (ty := .boolean) hx hb hr (by decide) (zz_endp (zz_t (ck_one_yes (by first | exact (Or.inl (by assumption)) | exact (Or.inr (Or.inl (by assumption))) | exact (Or.inr (Or.inr (Or.inl (by assumption)))) | exact (Or.inr (Or.inr (Or.inr (Or.inl (by assumption))))) | exact (Or.inr (Or.inr (Or.inr (Or.inr (Or.inl (by assumption)))))) | exact (Or.inr (Or.inr (Or.inr (Or.inr (Or.inr (by assumption)))))))))) (fun _ h => nomatch h) kd_J_isLatinWithOneScript_61
        · refine lv_aload_n hx hb kd_J_isLatinWithOneScript_36 rfl (lv_at hl 0 rfl) ?_
          refine zz_sipush hx hb kd_J_isLatinWithOneScript_37 (by decide) ?_
          refine zz_pS ⟨hx, hb, hml, hown, hts⟩ hK (kc_J_eachIsLatinOr l D cI cW a b n cap g 128 (by omega) (by omega) (by assumption) (by omega) rfl) (zz_gS kw_224 kw_225 kw_38 kw_226) ⟨rfl, rfl⟩ kh_J_eachIsLatinOr ⟨Nat.le_of_ble_eq_true rfl, Nat.le_of_ble_eq_true rfl⟩  hP rfl hl.1 rfl (Nat.le_of_ble_eq_true rfl) kd_J_isLatinWithOneScript_40 ⟨Nat.le_of_ble_eq_true rfl, Nat.le_of_ble_eq_true rfl⟩ ?_
          refine zz_ifb_ne (tgt := 56) hx hb kd_J_isLatinWithOneScript_43 (by decide) (fun hbr43 => ?_) (fun hbr43 => ?_)
          · refine zz_iconst hx hb (v := 1) (rfl) kd_J_isLatinWithOneScript_56 ?_
            refine lv_goto (tgt := 61) hx hb kd_J_isLatinWithOneScript_57 (by decide) ?_
            exact W.zret (ty := .boolean) hx hb hr (by decide) (zz_endp (zz_t (ck_one_yes (by first | exact (Or.inl (by assumption)) | exact (Or.inr (Or.inl (by assumption))) | exact (Or.inr (Or.inr (Or.inl (by assumption)))) | exact (Or.inr (Or.inr (Or.inr (Or.inl (by assumption))))) | exact (Or.inr (Or.inr (Or.inr (Or.inr (Or.inl (by assumption)))))) | exact (Or.inr (Or.inr (Or.inr (Or.inr (Or.inr (by assumption)))))))))) (fun _ h => nomatch h) kd_J_isLatinWithOneScript_61
          · refine lv_aload_n hx hb kd_J_isLatinWithOneScript_46 rfl (lv_at hl 0 rfl) ?_
            refine zz_sipush hx hb kd_J_isLatinWithOneScript_47 (by decide) ?_
            refine zz_pS ⟨hx, hb, hml, hown, hts⟩ hK (kc_J_eachIsLatinOr l D cI cW a b n cap g 256 (by omega) (by omega) (by assumption) (by omega) rfl) (zz_gS kw_224 kw_225 kw_38 kw_226) ⟨rfl, rfl⟩ kh_J_eachIsLatinOr ⟨Nat.le_of_ble_eq_true rfl, Nat.le_of_ble_eq_true rfl⟩  hP rfl hl.1 rfl (Nat.le_of_ble_eq_true rfl) kd_J_isLatinWithOneScript_50 ⟨Nat.le_of_ble_eq_true rfl, Nat.le_of_ble_eq_true rfl⟩ ?_
            refine zz_ifb_eq (tgt := 60) hx hb kd_J_isLatinWithOneScript_53 (by decide) (fun hbr53 => ?_) (fun hbr53 => ?_)
            · refine zz_iconst hx hb (v := 0) (rfl) kd_J_isLatinWithOneScript_60 ?_
              exact W.zret (ty := .boolean) hx hb hr (by decide) (zz_endp (zz_f (ck_one_no (by assumption) (by assumption) (by assumption) (by assumption) (by assumption) (by assumption)))) (fun _ h => nomatch h) kd_J_isLatinWithOneScript_61
            · refine zz_iconst hx hb (v := 1) (rfl) kd_J_isLatinWithOneScript_56 ?_
              refine lv_goto (tgt := 61) hx hb kd_J_isLatinWithOneScript_57 (by decide) ?_
              exact W.zret (ty := .boolean) hx hb hr (by decide) (zz_endp (zz_t (ck_one_yes (by first | exact (Or.inl (by assumption)) | exact (Or.inr (Or.inl (by assumption))) | exact (Or.inr (Or.inr (Or.inl (by assumption)))) | exact (Or.inr (Or.inr (Or.inr (Or.inl (by assumption))))) | exact (Or.inr (Or.inr (Or.inr (Or.inr (Or.inl (by assumption)))))) | exact (Or.inr (Or.inr (Or.inr (Or.inr (Or.inr (by assumption)))))))))) (fun _ h => nomatch h) kd_J_isLatinWithOneScript_61
set_option maxHeartbeats 4000000 in
set_option maxRecDepth 100000 in
theorem kc_J_strictness (l : Launch) (D : va_G) (cI cW : ClassId) (a : Nat) (b : Nat) (n : Nat) (cap : Nat) (g : Nat → Int) (hn : n ≤ cap) (hcap : cap ≤ 1000) (hg : ck_ok g n) {v : Int} (hv : ck_lev g n = v) : Met l ky_J_strictness kv_J_strictness ({ frames := 5, cells := 0, slots := 0, locals := 102 }) (va_Pc [.ref a] (zz_P D cI cW (va_P D kcl [(a, .inr (1, [.ref b, .int (zz_I (((n : Nat) : Int)))])), (b, .inl (cI, cap, .inl (zz_A (g))))]))) (zz_Qp (.int (zz_I v))) 0 0 (fun _ => False) := by
  subst hv
  refine Met.ofW (cc := kb_J_strictness) (maxL := 1) (ret := (some .int)) (by decide) rfl ?_
  intro pg ev sg mg ag bl mt cd s1 Bd hml hv
  obtain ⟨rfl, hP, hK⟩ := hv
  have hP : va_P D kcl [(a, .inr (1, [.ref b, .int (zz_I (((n : Nat) : Int)))])), (b, .inl (cI, cap, .inl (zz_A (g))))] sg.heap := hP
  have hx := Bd.exec
  have hb := Bd.bytes
  have hr := Bd.returns
  have hlocks := Bd.notSynchronized
  have hts : ∀ w ∈ zz_tbl, w.before _ sg = true := fun w h => atoms_spec (ws := kv_J_strictness) Bd.pre w (List.mem_cons_of_mem _ h)
  have hown : sg.vm.findClass kn_J = some mg.cls := findClass_of_methodNamed Bd.named
  have hl := lv_entry ([.ref a]) (n := 1) (Nat.le_of_ble_eq_true rfl)
  rw [lg_entry_eq]
  generalize (lg_sl ([.ref a]) ++ List.replicate (1 - (lg_sl ([.ref a])).length) Slot.unset).toArray = ls at hl ⊢
  have hl : lv_has ls 1 [(0, .ref a)] := hl
  refine lv_aload_n hx hb kd_J_strictness_0 rfl (lv_at hl 0 rfl) ?_
  refine zz_pS ⟨hx, hb, hml, hown, hts⟩ hK (kc_J_hasForbidden l D cI cW a b n cap g (by omega) (by omega) (by assumption) rfl) (zz_gS kw_202 kw_203 kw_38 kw_204) ⟨rfl, rfl⟩ kh_J_hasForbidden ⟨Nat.le_of_ble_eq_true rfl, Nat.le_of_ble_eq_true rfl⟩  hP rfl hl.1 rfl (Nat.le_of_ble_eq_true rfl) kd_J_strictness_1 ⟨Nat.le_of_ble_eq_true rfl, Nat.le_of_ble_eq_true rfl⟩ ?_
  refine zz_ifb_eq (tgt := 10) hx hb kd_J_strictness_4 (by decide) (fun hbr4 => ?_) (fun hbr4 => ?_)
  · refine lv_aload_n hx hb kd_J_strictness_10 rfl (lv_at hl 0 rfl) ?_
    refine zz_pS ⟨hx, hb, hml, hown, hts⟩ hK (kc_J_isPlain l D cI cW a b n cap g (by omega) (by omega) (by assumption) rfl) (zz_gS kw_208 kw_209 kw_38 kw_210) ⟨rfl, rfl⟩ kh_J_isPlain ⟨Nat.le_of_ble_eq_true rfl, Nat.le_of_ble_eq_true rfl⟩  hP rfl hl.1 rfl (Nat.le_of_ble_eq_true rfl) kd_J_strictness_11 ⟨Nat.le_of_ble_eq_true rfl, Nat.le_of_ble_eq_true rfl⟩ ?_
    refine zz_ifb_eq (tgt := 19) hx hb kd_J_strictness_14 (by decide) (fun hbr14 => ?_) (fun hbr14 => ?_)
    · refine lv_aload_n hx hb kd_J_strictness_19 rfl (lv_at hl 0 rfl) ?_
      refine zz_pS ⟨hx, hb, hml, hown, hts⟩ hK (kc_J_commonSet l D cI cW a b n cap g (by omega) (by omega) (by assumption) rfl) (zz_gS kw_220 kw_176 kw_38 kw_177) ⟨rfl, rfl⟩ kh_J_commonSet ⟨Nat.le_of_ble_eq_true rfl, Nat.le_of_ble_eq_true rfl⟩  hP rfl hl.1 rfl (Nat.le_of_ble_eq_true rfl) kd_J_strictness_20 ⟨Nat.le_of_ble_eq_true rfl, Nat.le_of_ble_eq_true rfl⟩ ?_
      refine zz_if_eq (tgt := 28) hx hb kd_J_strictness_23 (by decide) (by have := ck_com_lt g n; omega) (fun hbr23 => ?_) (fun hbr23 => ?_)
      · refine lv_aload_n hx hb kd_J_strictness_28 rfl (lv_at hl 0 rfl) ?_
        refine zz_pS ⟨hx, hb, hml, hown, hts⟩ hK (kc_J_isLatinWithMixedScript l D cI cW a b n cap g (by omega) (by omega) (by assumption) rfl) (zz_gS kw_221 kw_222 kw_38 kw_223) ⟨rfl, rfl⟩ kh_J_isLatinWithMixedScript ⟨Nat.le_of_ble_eq_true rfl, Nat.le_of_ble_eq_true rfl⟩  hP rfl hl.1 rfl (Nat.le_of_ble_eq_true rfl) kd_J_strictness_29 ⟨Nat.le_of_ble_eq_true rfl, Nat.le_of_ble_eq_true rfl⟩ ?_
        refine zz_ifb_eq (tgt := 37) hx hb kd_J_strictness_32 (by decide) (fun hbr32 => ?_) (fun hbr32 => ?_)
        · refine lv_aload_n hx hb kd_J_strictness_37 rfl (lv_at hl 0 rfl) ?_
          refine zz_pS ⟨hx, hb, hml, hown, hts⟩ hK (kc_J_isLatinWithOneScript l D cI cW a b n cap g (by omega) (by omega) (by assumption) rfl) (zz_gS kw_227 kw_228 kw_38 kw_229) ⟨rfl, rfl⟩ kh_J_isLatinWithOneScript ⟨Nat.le_of_ble_eq_true rfl, Nat.le_of_ble_eq_true rfl⟩  hP rfl hl.1 rfl (Nat.le_of_ble_eq_true rfl) kd_J_strictness_38 ⟨Nat.le_of_ble_eq_true rfl, Nat.le_of_ble_eq_true rfl⟩ ?_
          refine zz_ifb_eq (tgt := 48) hx hb kd_J_strictness_41 (by decide) (fun hbr41 => ?_) (fun hbr41 => ?_)
          · refine zz_iconst hx hb (v := 5) (rfl) kd_J_strictness_48 ?_
            exact W.iret hx hb hr (zz_endp (ck_lev_5 (by assumption) (by assumption) (by assumption) (by assumption) (by assumption))) (fun _ h => nomatch h) kd_J_strictness_49
          · refine zz_iconst hx hb (v := 4) (rfl) kd_J_strictness_44 ?_
            refine lv_goto (tgt := 49) hx hb kd_J_strictness_45 (by decide) ?_
            exact W.iret hx hb hr (zz_endp (ck_lev_4 (by assumption) (by assumption) (by assumption) (by assumption) (by assumption))) (fun _ h => nomatch h) kd_J_strictness_49
        · refine zz_iconst hx hb (v := 3) (rfl) kd_J_strictness_35 ?_
          exact W.iret hx hb hr (zz_endp (ck_lev_3 (by assumption) (by assumption) (by assumption) (by assumption))) (fun _ h => nomatch h) kd_J_strictness_36
      · refine zz_iconst hx hb (v := 2) (rfl) kd_J_strictness_26 ?_
        exact W.iret hx hb hr (zz_endp (ck_lev_2 (by assumption) (by assumption) (by assumption))) (fun _ h => nomatch h) kd_J_strictness_27
    · refine zz_iconst hx hb (v := 1) (rfl) kd_J_strictness_17 ?_
      exact W.iret hx hb hr (zz_endp (ck_lev_1 (by assumption) (by assumption))) (fun _ h => nomatch h) kd_J_strictness_18
  · refine zz_bipush hx hb kd_J_strictness_7 (by decide) ?_
    exact W.iret hx hb hr (zz_endp (ck_lev_6 (by assumption))) (fun _ h => nomatch h) kd_J_strictness_9
set_option maxHeartbeats 4000000 in
set_option maxRecDepth 100000 in
theorem kc_J_hasMarkTwice (l : Launch) (D : va_G) (cI cW : ClassId) (a : Nat) (b : Nat) (n : Nat) (cap : Nat) (g : Nat → Int) (hn : n ≤ cap) (hcap : cap ≤ 1000) (hg : ck_ok g n) {v : Int} (hv : zz_b (ck_tw g n) = v) : Met l ky_J_hasMarkTwice kv_J_hasMarkTwice ({ frames := 1, cells := 0, slots := 0, locals := 21 }) (va_Pc [.ref a] (zz_P D cI cW (va_P D kcl [(a, .inr (1, [.ref b, .int (zz_I (((n : Nat) : Int)))])), (b, .inl (cI, cap, .inl (zz_A (g))))]))) (zz_Qp (.int (zz_I v))) 0 0 (fun _ => False) := by
  subst hv
  refine Met.ofW (cc := kb_J_hasMarkTwice) (maxL := 2) (ret := (some .boolean)) (by decide) rfl ?_
  intro pg ev sg mg ag bl mt cd s1 Bd hml hv
  obtain ⟨rfl, hP, hK⟩ := hv
  have hP : va_P D kcl [(a, .inr (1, [.ref b, .int (zz_I (((n : Nat) : Int)))])), (b, .inl (cI, cap, .inl (zz_A (g))))] sg.heap := hP
  have hx := Bd.exec
  have hb := Bd.bytes
  have hr := Bd.returns
  have hlocks := Bd.notSynchronized
  have hts : ∀ w ∈ zz_tbl, w.before _ sg = true := fun w h => atoms_spec (ws := kv_J_hasMarkTwice) Bd.pre w (List.mem_cons_of_mem _ h)
  have hown : sg.vm.findClass kn_J = some mg.cls := findClass_of_methodNamed Bd.named
  have hl := lv_entry ([.ref a]) (n := 2) (Nat.le_of_ble_eq_true rfl)
  rw [lg_entry_eq]
  generalize (lg_sl ([.ref a]) ++ List.replicate (2 - (lg_sl ([.ref a])).length) Slot.unset).toArray = ls at hl ⊢
  have hl : lv_has ls 2 [(0, .ref a)] := hl
  refine zz_iconst hx hb (v := 1) (rfl) kd_J_hasMarkTwice_0 ?_
  refine lv_istore_n hx hb kd_J_hasMarkTwice_1 rfl hl (by decide) rfl (fun ls hl => ?_)
  have hl : lv_has ls 2 [(1, .int (zz_I (1))), (0, .ref a)] := hl
  have lp2 : ∀ (fuel : Nat) (i : Nat) (ls : Array Slot), n - i < fuel → (i ≤ max n 1) → (1 ≤ i) → (ck_tw g i = false) → lv_has ls 2 [(0, .ref a), (1, .int (zz_I (((i : Nat) : Int))))] → W pg l ev (headSpec kv_J_hasMarkTwice ({ frames := 1, cells := 0, slots := 0, locals := 21 })).room sg mg [.ref a].toArray bl mt cd sg.heap [] 0 0 (MQ bl (zz_Qp (.int (zz_I (zz_b (ck_tw g n))))) [.ref a].toArray sg 0 0 (fun _ => False)) (F0 mg 2 ls []) := by
    intro fuel
    induction fuel with
    | zero => intro i ls hfu; exact absurd hfu (Nat.not_lt_zero _)
    | succ fuel ih2 =>
      intro i ls hfu hi h1 hq hl
      refine lv_iload_n hx hb kd_J_hasMarkTwice_2 rfl (lv_at hl 1 rfl) ?_
      refine lv_aload_n hx hb kd_J_hasMarkTwice_3 rfl (lv_at hl 0 rfl) ?_
      refine zz_pV ⟨hx, hb, hml, hown, hts⟩ hK (kc_R_length l D cI cW a b n  rfl) (zz_gV kw_178 kw_139 kw_140 kw_28 kw_141) ⟨rfl, rfl⟩ ⟨rfl, kh_R_length⟩ ⟨Nat.le_of_ble_eq_true rfl, Nat.le_of_ble_eq_true rfl⟩ (va_recv (q := (kn_R, kf_R, 2)) hK hP rfl (show ([(a, .inr (1, [.ref b, .int (zz_I (((n : Nat) : Int)))])), (b, .inl (cI, cap, .inl (zz_A (g))))] : va_W)[0]? = some _ from rfl)) (hP.sub (ws' := [(a, .inr (1, [.ref b, .int (zz_I (((n : Nat) : Int)))]))]) [0] rfl) rfl hl.1 rfl (Nat.le_of_ble_eq_true rfl) kd_J_hasMarkTwice_4 ⟨Nat.le_of_ble_eq_true rfl, Nat.le_of_ble_eq_true rfl⟩ ?_
      refine zz_icmp_ge (tgt := 44) hx hb kd_J_hasMarkTwice_7 (by decide) (by omega) (fun hbr7 => ?_) (fun hbr7 => ?_)
      · refine zz_iconst hx hb (v := 0) (rfl) kd_J_hasMarkTwice_44 ?_
        exact W.zret (ty := .boolean) hx hb hr (by decide) (zz_endp (zz_f (by rcases Nat.lt_or_ge n 1 with e | e; exact ck_tw_0 e; have e : i = n := (by omega); rw [← e]; exact hq))) (fun _ h => nomatch h) kd_J_hasMarkTwice_45
      · refine lv_aload_n hx hb kd_J_hasMarkTwice_10 rfl (lv_at hl 0 rfl) ?_
        refine lv_iload_n hx hb kd_J_hasMarkTwice_11 rfl (lv_at hl 1 rfl) ?_
        refine zz_pV ⟨hx, hb, hml, hown, hts⟩ hK (kc_R_at l D cI cW a b n cap g ((i : Nat) : Int) (by omega) (by omega) (by omega) (v := g i) (ck_ri_in (by omega))) (zz_gV kw_179 kw_164 kw_165 kw_28 kw_166) ⟨rfl, rfl⟩ ⟨rfl, kh_R_at⟩ ⟨Nat.le_of_ble_eq_true rfl, Nat.le_of_ble_eq_true rfl⟩ (va_recv (q := (kn_R, kf_R, 2)) hK hP rfl (show ([(a, .inr (1, [.ref b, .int (zz_I (((n : Nat) : Int)))])), (b, .inl (cI, cap, .inl (zz_A (g))))] : va_W)[0]? = some _ from rfl)) hP rfl hl.1 rfl (Nat.le_of_ble_eq_true rfl) kd_J_hasMarkTwice_12 ⟨Nat.le_of_ble_eq_true rfl, Nat.le_of_ble_eq_true rfl⟩ ?_
        refine zz_pS ⟨hx, hb, hml, hown, hts⟩ hK (kc_A_isMark l D cI cW (g i) (by have := hg i (by omega); omega) rfl) (zz_gS kw_271 kw_266 kw_37 kw_267) ⟨rfl, rfl⟩ kh_A_isMark ⟨Nat.le_of_ble_eq_true rfl, Nat.le_of_ble_eq_true rfl⟩  trivial rfl hl.1 rfl (Nat.le_of_ble_eq_true rfl) kd_J_hasMarkTwice_15 ⟨Nat.le_of_ble_eq_true rfl, Nat.le_of_ble_eq_true rfl⟩ ?_
        refine zz_ifb_eq (tgt := 38) hx hb kd_J_hasMarkTwice_18 (by decide) (fun hbr18 => ?_) (fun hbr18 => ?_)
        · have hbr18 := of_decide_eq_false hbr18
          refine zz_iinc (k := 1) hx hb kd_J_hasMarkTwice_38 hl rfl rfl (by decide) rfl (fun ls hl => ?_)
          have hl : lv_has ls 2 [(1, .int (zz_I (((i : Nat) : Int) + 1))), (0, .ref a)] := hl
          refine lv_goto (tgt := 2) hx hb kd_J_hasMarkTwice_41 (by decide) ?_
          exact ih2 (i + 1) ls (by omega) (by omega) (by omega) (ck_tw_no hq (by omega)) (lv_sub hl [1, 0] rfl)
        · have hbr18 := of_decide_eq_true hbr18
          refine lv_aload_n hx hb kd_J_hasMarkTwice_21 rfl (lv_at hl 0 rfl) ?_
          refine lv_iload_n hx hb kd_J_hasMarkTwice_22 rfl (lv_at hl 1 rfl) ?_
          refine zz_pV ⟨hx, hb, hml, hown, hts⟩ hK (kc_R_at l D cI cW a b n cap g ((i : Nat) : Int) (by omega) (by omega) (by omega) (v := g i) (ck_ri_in (by omega))) (zz_gV kw_179 kw_164 kw_165 kw_28 kw_166) ⟨rfl, rfl⟩ ⟨rfl, kh_R_at⟩ ⟨Nat.le_of_ble_eq_true rfl, Nat.le_of_ble_eq_true rfl⟩ (va_recv (q := (kn_R, kf_R, 2)) hK hP rfl (show ([(a, .inr (1, [.ref b, .int (zz_I (((n : Nat) : Int)))])), (b, .inl (cI, cap, .inl (zz_A (g))))] : va_W)[0]? = some _ from rfl)) hP rfl hl.1 rfl (Nat.le_of_ble_eq_true rfl) kd_J_hasMarkTwice_23 ⟨Nat.le_of_ble_eq_true rfl, Nat.le_of_ble_eq_true rfl⟩ ?_
          refine lv_aload_n hx hb kd_J_hasMarkTwice_26 rfl (lv_at hl 0 rfl) ?_
          refine lv_iload_n hx hb kd_J_hasMarkTwice_27 rfl (lv_at hl 1 rfl) ?_
          refine zz_iconst hx hb (v := 1) (rfl) kd_J_hasMarkTwice_28 ?_
          refine zz_isub hx hb (v := ((i : Nat) : Int) - 1) (rfl) kd_J_hasMarkTwice_29 ?_
          refine zz_pV ⟨hx, hb, hml, hown, hts⟩ hK (kc_R_at l D cI cW a b n cap g (((i : Nat) : Int) - 1) (by omega) (by omega) (by omega) (v := g (i - 1)) (ck_ri_pr (by omega) (by omega))) (zz_gV kw_179 kw_164 kw_165 kw_28 kw_166) ⟨rfl, rfl⟩ ⟨rfl, kh_R_at⟩ ⟨Nat.le_of_ble_eq_true rfl, Nat.le_of_ble_eq_true rfl⟩ (va_recv (q := (kn_R, kf_R, 2)) hK hP rfl (show ([(a, .inr (1, [.ref b, .int (zz_I (((n : Nat) : Int)))])), (b, .inl (cI, cap, .inl (zz_A (g))))] : va_W)[0]? = some _ from rfl)) hP rfl hl.1 rfl (Nat.le_of_ble_eq_true rfl) kd_J_hasMarkTwice_30 ⟨Nat.le_of_ble_eq_true rfl, Nat.le_of_ble_eq_true rfl⟩ ?_
          refine zz_icmp_ne (tgt := 38) hx hb kd_J_hasMarkTwice_33 (by decide) (by have := hg i (by omega); have := hg (i - 1) (by omega); omega) (fun hbr33 => ?_) (fun hbr33 => ?_)
          · refine zz_iinc (k := 1) hx hb kd_J_hasMarkTwice_38 hl rfl rfl (by decide) rfl (fun ls hl => ?_)
            have hl : lv_has ls 2 [(1, .int (zz_I (((i : Nat) : Int) + 1))), (0, .ref a)] := hl
            refine lv_goto (tgt := 2) hx hb kd_J_hasMarkTwice_41 (by decide) ?_
            exact ih2 (i + 1) ls (by omega) (by omega) (by omega) (ck_tw_no hq (by omega)) (lv_sub hl [1, 0] rfl)
          · refine zz_iconst hx hb (v := 1) (rfl) kd_J_hasMarkTwice_36 ?_
            exact W.zret (ty := .boolean) hx hb hr (by decide) (zz_endp (zz_t (ck_tw_up (g := g) (k := i) (by omega) (decide_eq_true (by omega)) (by omega) n (by omega)))) (fun _ h => nomatch h) kd_J_hasMarkTwice_37
  exact lp2 _ 1 ls (Nat.lt_succ_self _) (by omega) (Nat.le_refl _) (rfl) (lv_sub hl [1, 0] rfl)
set_option maxHeartbeats 4000000 in
set_option maxRecDepth 100000 in
theorem kc_J_hasLooseMark (l : Launch) (D : va_G) (cI cW : ClassId) (a : Nat) (b : Nat) (n : Nat) (cap : Nat) (g : Nat → Int) (hn : n ≤ cap) (hcap : cap ≤ 1000) (hg : ck_ok g n) {v : Int} (hv : zz_b (ck_lo g n) = v) : Met l ky_J_hasLooseMark kv_J_hasLooseMark ({ frames := 2, cells := 0, slots := 0, locals := 40 }) (va_Pc [.ref a] (zz_P D cI cW (va_P D kcl [(a, .inr (1, [.ref b, .int (zz_I (((n : Nat) : Int)))])), (b, .inl (cI, cap, .inl (zz_A (g))))]))) (zz_Qp (.int (zz_I v))) 0 0 (fun _ => False) := by
  subst hv
  refine Met.ofW (cc := kb_J_hasLooseMark) (maxL := 3) (ret := (some .boolean)) (by decide) rfl ?_
  intro pg ev sg mg ag bl mt cd s1 Bd hml hv
  obtain ⟨rfl, hP, hK⟩ := hv
  have hP : va_P D kcl [(a, .inr (1, [.ref b, .int (zz_I (((n : Nat) : Int)))])), (b, .inl (cI, cap, .inl (zz_A (g))))] sg.heap := hP
  have hx := Bd.exec
  have hb := Bd.bytes
  have hr := Bd.returns
  have hlocks := Bd.notSynchronized
  have hts : ∀ w ∈ zz_tbl, w.before _ sg = true := fun w h => atoms_spec (ws := kv_J_hasLooseMark) Bd.pre w (List.mem_cons_of_mem _ h)
  have hown : sg.vm.findClass kn_J = some mg.cls := findClass_of_methodNamed Bd.named
  have hl := lv_entry ([.ref a]) (n := 3) (Nat.le_of_ble_eq_true rfl)
  rw [lg_entry_eq]
  generalize (lg_sl ([.ref a]) ++ List.replicate (3 - (lg_sl ([.ref a])).length) Slot.unset).toArray = ls at hl ⊢
  have hl : lv_has ls 3 [(0, .ref a)] := hl
  refine zz_iconst hx hb (v := 0) (rfl) kd_J_hasLooseMark_0 ?_
  refine lv_istore_n hx hb kd_J_hasLooseMark_1 rfl hl (by decide) rfl (fun ls hl => ?_)
  have hl : lv_has ls 3 [(1, .int (zz_I (0))), (0, .ref a)] := hl
  have lp2 : ∀ (fuel : Nat) (i : Nat) (ls : Array Slot), n - i < fuel → (i ≤ n) → (ck_lo g i = false) → lv_has ls 3 [(0, .ref a), (1, .int (zz_I (((i : Nat) : Int))))] → W pg l ev (headSpec kv_J_hasLooseMark ({ frames := 2, cells := 0, slots := 0, locals := 40 })).room sg mg [.ref a].toArray bl mt cd sg.heap [] 0 0 (MQ bl (zz_Qp (.int (zz_I (zz_b (ck_lo g n))))) [.ref a].toArray sg 0 0 (fun _ => False)) (F0 mg 2 ls []) := by
    intro fuel
    induction fuel with
    | zero => intro i ls hfu; exact absurd hfu (Nat.not_lt_zero _)
    | succ fuel ih2 =>
      intro i ls hfu hi hq hl
      refine lv_iload_n hx hb kd_J_hasLooseMark_2 rfl (lv_at hl 1 rfl) ?_
      refine lv_aload_n hx hb kd_J_hasLooseMark_3 rfl (lv_at hl 0 rfl) ?_
      refine zz_pV ⟨hx, hb, hml, hown, hts⟩ hK (kc_R_length l D cI cW a b n  rfl) (zz_gV kw_178 kw_139 kw_140 kw_28 kw_141) ⟨rfl, rfl⟩ ⟨rfl, kh_R_length⟩ ⟨Nat.le_of_ble_eq_true rfl, Nat.le_of_ble_eq_true rfl⟩ (va_recv (q := (kn_R, kf_R, 2)) hK hP rfl (show ([(a, .inr (1, [.ref b, .int (zz_I (((n : Nat) : Int)))])), (b, .inl (cI, cap, .inl (zz_A (g))))] : va_W)[0]? = some _ from rfl)) (hP.sub (ws' := [(a, .inr (1, [.ref b, .int (zz_I (((n : Nat) : Int)))]))]) [0] rfl) rfl hl.1 rfl (Nat.le_of_ble_eq_true rfl) kd_J_hasLooseMark_4 ⟨Nat.le_of_ble_eq_true rfl, Nat.le_of_ble_eq_true rfl⟩ ?_
      refine zz_icmp_ge (tgt := 51) hx hb kd_J_hasLooseMark_7 (by decide) (by omega) (fun hbr7 => ?_) (fun hbr7 => ?_)
      · refine zz_iconst hx hb (v := 0) (rfl) kd_J_hasLooseMark_51 ?_
        exact W.zret (ty := .boolean) hx hb hr (by decide) (zz_endp (zz_f (by have e : i = n := (by omega); rw [← e]; exact hq))) (fun _ h => nomatch h) kd_J_hasLooseMark_52
      · refine lv_aload_n hx hb kd_J_hasLooseMark_10 rfl (lv_at hl 0 rfl) ?_
        refine lv_iload_n hx hb kd_J_hasLooseMark_11 rfl (lv_at hl 1 rfl) ?_
        refine zz_iconst hx hb (v := 1) (rfl) kd_J_hasLooseMark_12 ?_
        refine zz_isub hx hb (v := ((i : Nat) : Int) - 1) (rfl) kd_J_hasLooseMark_13 ?_
        refine zz_pV ⟨hx, hb, hml, hown, hts⟩ hK (kc_R_at l D cI cW a b n cap g (((i : Nat) : Int) - 1) (by omega) (by omega) (by omega) rfl) (zz_gV kw_179 kw_164 kw_165 kw_28 kw_166) ⟨rfl, rfl⟩ ⟨rfl, kh_R_at⟩ ⟨Nat.le_of_ble_eq_true rfl, Nat.le_of_ble_eq_true rfl⟩ (va_recv (q := (kn_R, kf_R, 2)) hK hP rfl (show ([(a, .inr (1, [.ref b, .int (zz_I (((n : Nat) : Int)))])), (b, .inl (cI, cap, .inl (zz_A (g))))] : va_W)[0]? = some _ from rfl)) hP rfl hl.1 rfl (Nat.le_of_ble_eq_true rfl) kd_J_hasLooseMark_14 ⟨Nat.le_of_ble_eq_true rfl, Nat.le_of_ble_eq_true rfl⟩ ?_
        refine lv_istore_n hx hb kd_J_hasLooseMark_17 rfl hl (by decide) rfl (fun ls hl => ?_)
        have hl : lv_has ls 3 [(2, .int (zz_I (ck_ri g n (((i : Nat) : Int) - 1)))), (0, .ref a), (1, .int (zz_I (((i : Nat) : Int))))] := hl
        refine lv_aload_n hx hb kd_J_hasLooseMark_18 rfl (lv_at hl 1 rfl) ?_
        refine lv_iload_n hx hb kd_J_hasLooseMark_19 rfl (lv_at hl 2 rfl) ?_
        refine zz_pV ⟨hx, hb, hml, hown, hts⟩ hK (kc_R_at l D cI cW a b n cap g ((i : Nat) : Int) (by omega) (by omega) (by omega) (v := g i) (ck_ri_in (by omega))) (zz_gV kw_179 kw_164 kw_165 kw_28 kw_166) ⟨rfl, rfl⟩ ⟨rfl, kh_R_at⟩ ⟨Nat.le_of_ble_eq_true rfl, Nat.le_of_ble_eq_true rfl⟩ (va_recv (q := (kn_R, kf_R, 2)) hK hP rfl (show ([(a, .inr (1, [.ref b, .int (zz_I (((n : Nat) : Int)))])), (b, .inl (cI, cap, .inl (zz_A (g))))] : va_W)[0]? = some _ from rfl)) hP rfl hl.1 rfl (Nat.le_of_ble_eq_true rfl) kd_J_hasLooseMark_20 ⟨Nat.le_of_ble_eq_true rfl, Nat.le_of_ble_eq_true rfl⟩ ?_
        refine zz_pS ⟨hx, hb, hml, hown, hts⟩ hK (kc_A_isMark l D cI cW (g i) (by have := hg i (by omega); omega) rfl) (zz_gS kw_271 kw_266 kw_37 kw_267) ⟨rfl, rfl⟩ kh_A_isMark ⟨Nat.le_of_ble_eq_true rfl, Nat.le_of_ble_eq_true rfl⟩  trivial rfl hl.1 rfl (Nat.le_of_ble_eq_true rfl) kd_J_hasLooseMark_23 ⟨Nat.le_of_ble_eq_true rfl, Nat.le_of_ble_eq_true rfl⟩ ?_
        refine zz_ifb_eq (tgt := 45) hx hb kd_J_hasLooseMark_26 (by decide) (fun hbr26 => ?_) (fun hbr26 => ?_)
        · have hbr26 := of_decide_eq_false hbr26
          refine zz_iinc (k := 2) hx hb kd_J_hasLooseMark_45 hl rfl rfl (by decide) rfl (fun ls hl => ?_)
          have hl : lv_has ls 3 [(1, .int (zz_I (((i : Nat) : Int) + 1))), (2, .int (zz_I (ck_ri g n (((i : Nat) : Int) - 1)))), (0, .ref a)] := hl
          refine lv_goto (tgt := 2) hx hb kd_J_hasLooseMark_48 (by decide) ?_
          exact ih2 (i + 1) ls (by omega) (by omega) (ck_lo_no (n := n) hq (by omega) (by omega)) (lv_sub hl [2, 0] rfl)
        · have hbr26 := of_decide_eq_true hbr26
          refine lv_iload_n hx hb kd_J_hasLooseMark_29 rfl (lv_at hl 0 rfl) ?_
          refine zz_pS ⟨hx, hb, hml, hown, hts⟩ hK (kc_A_isLetter l D cI cW (ck_ri g n (((i : Nat) : Int) - 1)) (by have := ck_ri_rg hg (((i : Nat) : Int) - 1); omega) rfl) (zz_gS kw_275 kw_187 kw_37 kw_188) ⟨rfl, rfl⟩ kh_A_isLetter ⟨Nat.le_of_ble_eq_true rfl, Nat.le_of_ble_eq_true rfl⟩  trivial rfl hl.1 rfl (Nat.le_of_ble_eq_true rfl) kd_J_hasLooseMark_30 ⟨Nat.le_of_ble_eq_true rfl, Nat.le_of_ble_eq_true rfl⟩ ?_
          refine zz_ifb_ne (tgt := 45) hx hb kd_J_hasLooseMark_33 (by decide) (fun hbr33 => ?_) (fun hbr33 => ?_)
          · have hbr33 := of_decide_eq_true hbr33
            refine zz_iinc (k := 2) hx hb kd_J_hasLooseMark_45 hl rfl rfl (by decide) rfl (fun ls hl => ?_)
            have hl : lv_has ls 3 [(1, .int (zz_I (((i : Nat) : Int) + 1))), (2, .int (zz_I (ck_ri g n (((i : Nat) : Int) - 1)))), (0, .ref a)] := hl
            refine lv_goto (tgt := 2) hx hb kd_J_hasLooseMark_48 (by decide) ?_
            exact ih2 (i + 1) ls (by omega) (by omega) (ck_lo_no (n := n) hq (by omega) (by omega)) (lv_sub hl [2, 0] rfl)
          · have hbr33 := of_decide_eq_false hbr33
            refine lv_iload_n hx hb kd_J_hasLooseMark_36 rfl (lv_at hl 0 rfl) ?_
            refine zz_pS ⟨hx, hb, hml, hown, hts⟩ hK (kc_A_isMark l D cI cW (ck_ri g n (((i : Nat) : Int) - 1)) (by have := ck_ri_rg hg (((i : Nat) : Int) - 1); omega) rfl) (zz_gS kw_271 kw_266 kw_37 kw_267) ⟨rfl, rfl⟩ kh_A_isMark ⟨Nat.le_of_ble_eq_true rfl, Nat.le_of_ble_eq_true rfl⟩  trivial rfl hl.1 rfl (Nat.le_of_ble_eq_true rfl) kd_J_hasLooseMark_37 ⟨Nat.le_of_ble_eq_true rfl, Nat.le_of_ble_eq_true rfl⟩ ?_
            refine zz_ifb_ne (tgt := 45) hx hb kd_J_hasLooseMark_40 (by decide) (fun hbr40 => ?_) (fun hbr40 => ?_)
            · have hbr40 := of_decide_eq_true hbr40
              refine zz_iinc (k := 2) hx hb kd_J_hasLooseMark_45 hl rfl rfl (by decide) rfl (fun ls hl => ?_)
              have hl : lv_has ls 3 [(1, .int (zz_I (((i : Nat) : Int) + 1))), (2, .int (zz_I (ck_ri g n (((i : Nat) : Int) - 1)))), (0, .ref a)] := hl
              refine lv_goto (tgt := 2) hx hb kd_J_hasLooseMark_48 (by decide) ?_
              exact ih2 (i + 1) ls (by omega) (by omega) (ck_lo_no (n := n) hq (by omega) (by omega)) (lv_sub hl [2, 0] rfl)
            · have hbr40 := of_decide_eq_false hbr40
              refine zz_iconst hx hb (v := 1) (rfl) kd_J_hasLooseMark_43 ?_
              exact W.zret (ty := .boolean) hx hb hr (by decide) (zz_endp (zz_t (ck_lo_up (k := i) (n := n) (decide_eq_true (by omega)) (decide_eq_false (by omega)) (decide_eq_false (by omega)) n (by omega) (by omega)))) (fun _ h => nomatch h) kd_J_hasLooseMark_44
  exact lp2 _ 0 ls (Nat.lt_succ_self _) (Nat.zero_le _) (rfl) (lv_sub hl [1, 0] rfl)
