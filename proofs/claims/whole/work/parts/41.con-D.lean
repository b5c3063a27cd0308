set_option maxHeartbeats 4000000 in
set_option maxRecDepth 100000 in
theorem kc_D_skeleton (l : Launch) (D : va_G) (cI cW : ClassId) (e0 : Nat) (w : Nat) (no : Nat) (fo : Nat) (a : Nat) (ow : Nat) (oh : Nat) (r : Nat) (q : Nat) (z : Nat) (m : Nat)  {v : Int} (hv : ((m : Nat) : Int) = v) : Met l ky_D_skeleton kv_D_skeleton ({ frames := 1, cells := 0, slots := 0, locals := 20 }) (va_Pc [.ref e0] (zz_P D cI cW (va_P D kcl [(e0, .inr (4, [.ref w, .ref no, .ref fo, .ref a, .ref ow, .ref oh])), (w, .inr (3, [.ref r, .ref q])), (q, .inr (1, [.ref z, .int (zz_I (((m : Nat) : Int)))]))]))) (zz_Qp (.int (zz_I v))) 0 0 (fun _ => False) := by
  subst hv
  refine Met.ofW (cc := kb_D_skeleton) (maxL := 1) (ret := (some .int)) (by decide) rfl ?_
  intro pg ev sg mg ag bl mt cd s1 Bd hml hv
  obtain ⟨rfl, hP, hK⟩ := hv
  have hP : va_P D kcl [(e0, .inr (4, [.ref w, .ref no, .ref fo, .ref a, .ref ow, .ref oh])), (w, .inr (3, [.ref r, .ref q])), (q, .inr (1, [.ref z, .int (zz_I (((m : Nat) : Int)))]))] sg.heap := hP
  have hx := Bd.exec
  have hb := Bd.bytes
  have hr := Bd.returns
  have hlocks := Bd.notSynchronized
  have hts : ∀ w ∈ zz_tbl, w.before _ sg = true := fun w h => atoms_spec (ws := kv_D_skeleton) Bd.pre w (List.mem_cons_of_mem _ h)
  have hown : sg.vm.findClass kn_D = some mg.cls := findClass_of_methodNamed Bd.named
  have hl := lv_entry ([.ref e0]) (n := 1) (Nat.le_of_ble_eq_true rfl)
  rw [lg_entry_eq]
  generalize (lg_sl ([.ref e0]) ++ List.replicate (1 - (lg_sl ([.ref e0])).length) Slot.unset).toArray = ls at hl ⊢
  have hl : lv_has ls 1 [(0, .ref e0)] := hl
  refine lv_aload_n hx hb kd_D_skeleton_0 rfl (lv_at hl 0 rfl) ?_
  refine va_get (D := D) (ci := 4) (v := .ref w) (C := kn_D) (T := kf_D) (N := 6) hx hb hts ki_D hown hK hP 0 rfl rfl 0 (by decide) (hts _ kw_111) (fun _ h9 => h9) rfl kd_D_skeleton_1 ?_
  refine zz_pV ⟨hx, hb, hml, hown, hts⟩ hK (kc_W_bones l D cI cW w r q ) (zz_gV kw_154 kw_155 kw_156 kw_27 kw_157) ⟨rfl, rfl⟩ ⟨rfl, kh_W_bones⟩ ⟨Nat.le_of_ble_eq_true rfl, Nat.le_of_ble_eq_true rfl⟩ (va_recv (q := (kn_W, kf_W, 2)) hK hP rfl (show ([(e0, .inr (4, [.ref w, .ref no, .ref fo, .ref a, .ref ow, .ref oh])), (w, .inr (3, [.ref r, .ref q])), (q, .inr (1, [.ref z, .int (zz_I (((m : Nat) : Int)))]))] : va_W)[1]? = some _ from rfl)) (hP.sub (ws' := [(w, .inr (3, [.ref r, .ref q]))]) [1] rfl) rfl hl.1 rfl (Nat.le_of_ble_eq_true rfl) kd_D_skeleton_4 ⟨Nat.le_of_ble_eq_true rfl, Nat.le_of_ble_eq_true rfl⟩ ?_
  refine zz_pV ⟨hx, hb, hml, hown, hts⟩ hK (kc_R_length l D cI cW q z m  rfl) (zz_gV kw_158 kw_139 kw_140 kw_28 kw_141) ⟨rfl, rfl⟩ ⟨rfl, kh_R_length⟩ ⟨Nat.le_of_ble_eq_true rfl, Nat.le_of_ble_eq_true rfl⟩ (va_recv (q := (kn_R, kf_R, 2)) hK hP rfl (show ([(e0, .inr (4, [.ref w, .ref no, .ref fo, .ref a, .ref ow, .ref oh])), (w, .inr (3, [.ref r, .ref q])), (q, .inr (1, [.ref z, .int (zz_I (((m : Nat) : Int)))]))] : va_W)[2]? = some _ from rfl)) (hP.sub (ws' := [(q, .inr (1, [.ref z, .int (zz_I (((m : Nat) : Int)))]))]) [2] rfl) rfl hl.1 rfl (Nat.le_of_ble_eq_true rfl) kd_D_skeleton_7 ⟨Nat.le_of_ble_eq_true rfl, Nat.le_of_ble_eq_true rfl⟩ ?_
  exact W.iret hx hb hr (zz_endp (by rfl)) (fun _ h => nomatch h) kd_D_skeleton_10
set_option maxHeartbeats 4000000 in
set_option maxRecDepth 100000 in
theorem kc_D_skeletonAt (l : Launch) (D : va_G) (cI cW : ClassId) (e0 : Nat) (w : Nat) (no : Nat) (fo : Nat) (a : Nat) (ow : Nat) (oh : Nat) (r : Nat) (q : Nat) (z : Nat) (m : Nat) (h : Nat → Int) (i : Int) (hm : m ≤ 144) (hi : -2147483648 ≤ i ∧ i ≤ 2147483647) {v : Int} (hv : ck_ri h m i = v) : Met l ky_D_skeletonAt kv_D_skeletonAt ({ frames := 1, cells := 0, slots := 0, locals := 21 }) (va_Pc [.ref e0, .int (zz_I (i))] (zz_P D cI cW (va_P D kcl [(e0, .inr (4, [.ref w, .ref no, .ref fo, .ref a, .ref ow, .ref oh])), (w, .inr (3, [.ref r, .ref q])), (q, .inr (1, [.ref z, .int (zz_I (((m : Nat) : Int)))])), (z, .inl (cI, 144, .inl (zz_A (h))))]))) (zz_Qp (.int (zz_I v))) 0 0 (fun _ => False) := by
  subst hv
  refine Met.ofW (cc := kb_D_skeletonAt) (maxL := 2) (ret := (some .int)) (by decide) rfl ?_
  intro pg ev sg mg ag bl mt cd s1 Bd hml hv
  obtain ⟨rfl, hP, hK⟩ := hv
  have hP : va_P D kcl [(e0, .inr (4, [.ref w, .ref no, .ref fo, .ref a, .ref ow, .ref oh])), (w, .inr (3, [.ref r, .ref q])), (q, .inr (1, [.ref z, .int (zz_I (((m : Nat) : Int)))])), (z, .inl (cI, 144, .inl (zz_A (h))))] sg.heap := hP
  have hx := Bd.exec
  have hb := Bd.bytes
  have hr := Bd.returns
  have hlocks := Bd.notSynchronized
  have hts : ∀ w ∈ zz_tbl, w.before _ sg = true := fun w h => atoms_spec (ws := kv_D_skeletonAt) Bd.pre w (List.mem_cons_of_mem _ h)
  have hown : sg.vm.findClass kn_D = some mg.cls := findClass_of_methodNamed Bd.named
  have hl := lv_entry ([.ref e0, .int (zz_I (i))]) (n := 2) (Nat.le_of_ble_eq_true rfl)
  rw [lg_entry_eq]
  generalize (lg_sl ([.ref e0, .int (zz_I (i))]) ++ List.replicate (2 - (lg_sl ([.ref e0, .int (zz_I (i))])).length) Slot.unset).toArray = ls at hl ⊢
  have hl : lv_has ls 2 [(0, .ref e0), (1, .int (zz_I (i)))] := hl
  refine lv_aload_n hx hb kd_D_skeletonAt_0 rfl (lv_at hl 0 rfl) ?_
  refine va_get (D := D) (ci := 4) (v := .ref w) (C := kn_D) (T := kf_D) (N := 6) hx hb hts ki_D hown hK hP 0 rfl rfl 0 (by decide) (hts _ kw_111) (fun _ h9 => h9) rfl kd_D_skeletonAt_1 ?_
  refine zz_pV ⟨hx, hb, hml, hown, hts⟩ hK (kc_W_bones l D cI cW w r q ) (zz_gV kw_154 kw_155 kw_156 kw_27 kw_157) ⟨rfl, rfl⟩ ⟨rfl, kh_W_bones⟩ ⟨Nat.le_of_ble_eq_true rfl, Nat.le_of_ble_eq_true rfl⟩ (va_recv (q := (kn_W, kf_W, 2)) hK hP rfl (show ([(e0, .inr (4, [.ref w, .ref no, .ref fo, .ref a, .ref ow, .ref oh])), (w, .inr (3, [.ref r, .ref q])), (q, .inr (1, [.ref z, .int (zz_I (((m : Nat) : Int)))])), (z, .inl (cI, 144, .inl (zz_A (h))))] : va_W)[1]? = some _ from rfl)) (hP.sub (ws' := [(w, .inr (3, [.ref r, .ref q]))]) [1] rfl) rfl hl.1 rfl (Nat.le_of_ble_eq_true rfl) kd_D_skeletonAt_4 ⟨Nat.le_of_ble_eq_true rfl, Nat.le_of_ble_eq_true rfl⟩ ?_
  refine lv_iload_n hx hb kd_D_skeletonAt_7 rfl (lv_at hl 1 rfl) ?_
  refine zz_pV ⟨hx, hb, hml, hown, hts⟩ hK (kc_R_at l D cI cW q z m 144 h i (by omega) (by omega) (by omega) rfl) (zz_gV kw_163 kw_164 kw_165 kw_28 kw_166) ⟨rfl, rfl⟩ ⟨rfl, kh_R_at⟩ ⟨Nat.le_of_ble_eq_true rfl, Nat.le_of_ble_eq_true rfl⟩ (va_recv (q := (kn_R, kf_R, 2)) hK hP rfl (show ([(e0, .inr (4, [.ref w, .ref no, .ref fo, .ref a, .ref ow, .ref oh])), (w, .inr (3, [.ref r, .ref q])), (q, .inr (1, [.ref z, .int (zz_I (((m : Nat) : Int)))])), (z, .inl (cI, 144, .inl (zz_A (h))))] : va_W)[2]? = some _ from rfl)) (hP.sub (ws' := [(q, .inr (1, [.ref z, .int (zz_I (((m : Nat) : Int)))])), (z, .inl (cI, 144, .inl (zz_A (h))))]) [2, 3] rfl) rfl hl.1 rfl (Nat.le_of_ble_eq_true rfl) kd_D_skeletonAt_8 ⟨Nat.le_of_ble_eq_true rfl, Nat.le_of_ble_eq_true rfl⟩ ?_
  exact W.iret hx hb hr (zz_endp (by rfl)) (fun _ h => nomatch h) kd_D_skeletonAt_11
set_option maxHeartbeats 4000000 in
set_option maxRecDepth 100000 in
theorem kc_D_scripts (l : Launch) (D : va_G) (cI cW : ClassId) (e0 : Nat) (w : Nat) (no : Nat) (fo : Nat) (a : Nat) (ow : Nat) (oh : Nat) (r : Nat) (q : Nat) (x : Nat) (n : Nat) (g : Nat → Int) (hn : n ≤ 48) (hg : ck_ok g n) {v : Int} (hv : ((ck_com g n : Nat) : Int) = v) : Met l ky_D_scripts kv_D_scripts ({ frames := 4, cells := 0, slots := 0, locals := 82 }) (va_Pc [.ref e0] (zz_P D cI cW (va_P D kcl [(e0, .inr (4, [.ref w, .ref no, .ref fo, .ref a, .ref ow, .ref oh])), (w, .inr (3, [.ref r, .ref q])), (r, .inr (1, [.ref x, .int (zz_I (((n : Nat) : Int)))])), (x, .inl (cI, 48, .inl (zz_A (g))))]))) (zz_Qp (.int (zz_I v))) 0 0 (fun _ => False) := by
  subst hv
  refine Met.ofW (cc := kb_D_scripts) (maxL := 1) (ret := (some .int)) (by decide) rfl ?_
  intro pg ev sg mg ag bl mt cd s1 Bd hml hv
  obtain ⟨rfl, hP, hK⟩ := hv
  have hP : va_P D kcl [(e0, .inr (4, [.ref w, .ref no, .ref fo, .ref a, .ref ow, .ref oh])), (w, .inr (3, [.ref r, .ref q])), (r, .inr (1, [.ref x, .int (zz_I (((n : Nat) : Int)))])), (x, .inl (cI, 48, .inl (zz_A (g))))] sg.heap := hP
  have hx := Bd.exec
  have hb := Bd.bytes
  have hr := Bd.returns
  have hlocks := Bd.notSynchronized
  have hts : ∀ w ∈ zz_tbl, w.before _ sg = true := fun w h => atoms_spec (ws := kv_D_scripts) Bd.pre w (List.mem_cons_of_mem _ h)
  have hown : sg.vm.findClass kn_D = some mg.cls := findClass_of_methodNamed Bd.named
  have hl := lv_entry ([.ref e0]) (n := 1) (Nat.le_of_ble_eq_true rfl)
  rw [lg_entry_eq]
  generalize (lg_sl ([.ref e0]) ++ List.replicate (1 - (lg_sl ([.ref e0])).length) Slot.unset).toArray = ls at hl ⊢
  have hl : lv_has ls 1 [(0, .ref e0)] := hl
  refine lv_aload_n hx hb kd_D_scripts_0 rfl (lv_at hl 0 rfl) ?_
  refine va_get (D := D) (ci := 4) (v := .ref w) (C := kn_D) (T := kf_D) (N := 6) hx hb hts ki_D hown hK hP 0 rfl rfl 0 (by decide) (hts _ kw_111) (fun _ h9 => h9) rfl kd_D_scripts_1 ?_
  refine zz_pV ⟨hx, hb, hml, hown, hts⟩ hK (kc_W_characters l D cI cW w r q ) (zz_gV kw_171 kw_172 kw_173 kw_27 kw_174) ⟨rfl, rfl⟩ ⟨rfl, kh_W_characters⟩ ⟨Nat.le_of_ble_eq_true rfl, Nat.le_of_ble_eq_true rfl⟩ (va_recv (q := (kn_W, kf_W, 2)) hK hP rfl (show ([(e0, .inr (4, [.ref w, .ref no, .ref fo, .ref a, .ref ow, .ref oh])), (w, .inr (3, [.ref r, .ref q])), (r, .inr (1, [.ref x, .int (zz_I (((n : Nat) : Int)))])), (x, .inl (cI, 48, .inl (zz_A (g))))] : va_W)[1]? = some _ from rfl)) (hP.sub (ws' := [(w, .inr (3, [.ref r, .ref q]))]) [1] rfl) rfl hl.1 rfl (Nat.le_of_ble_eq_true rfl) kd_D_scripts_4 ⟨Nat.le_of_ble_eq_true rfl, Nat.le_of_ble_eq_true rfl⟩ ?_
  refine zz_pS ⟨hx, hb, hml, hown, hts⟩ hK (kc_J_commonSet l D cI cW r x n 48 g (by omega) (by omega) (by assumption) rfl) (zz_gS kw_175 kw_176 kw_38 kw_177) ⟨rfl, rfl⟩ kh_J_commonSet ⟨Nat.le_of_ble_eq_true rfl, Nat.le_of_ble_eq_true rfl⟩  (hP.sub (ws' := [(r, .inr (1, [.ref x, .int (zz_I (((n : Nat) : Int)))])), (x, .inl (cI, 48, .inl (zz_A (g))))]) [2, 3] rfl) rfl hl.1 rfl (Nat.le_of_ble_eq_true rfl) kd_D_scripts_7 ⟨Nat.le_of_ble_eq_true rfl, Nat.le_of_ble_eq_true rfl⟩ ?_
  exact W.iret hx hb hr (zz_endp (by rfl)) (fun _ h => nomatch h) kd_D_scripts_10
set_option maxHeartbeats 4000000 in
set_option maxRecDepth 100000 in
theorem kc_D_level (l : Launch) (D : va_G) (cI cW : ClassId) (e0 : Nat) (w : Nat) (no : Nat) (fo : Nat) (a : Nat) (ow : Nat) (oh : Nat) (r : Nat) (q : Nat) (x : Nat) (n : Nat) (g : Nat → Int) (hn : n ≤ 48) (hg : ck_ok g n) {v : Int} (hv : ck_lev g n = v) : Met l ky_D_level kv_D_level ({ frames := 6, cells := 0, slots := 0, locals := 122 }) (va_Pc [.ref e0] (zz_P D cI cW (va_P D kcl [(e0, .inr (4, [.ref w, .ref no, .ref fo, .ref a, .ref ow, .ref oh])), (w, .inr (3, [.ref r, .ref q])), (r, .inr (1, [.ref x, .int (zz_I (((n : Nat) : Int)))])), (x, .inl (cI, 48, .inl (zz_A (g))))]))) (zz_Qp (.int (zz_I v))) 0 0 (fun _ => False) := by
  subst hv
  refine Met.ofW (cc := kb_D_level) (maxL := 1) (ret := (some .int)) (by decide) rfl ?_
  intro pg ev sg mg ag bl mt cd s1 Bd hml hv
  obtain ⟨rfl, hP, hK⟩ := hv
  have hP : va_P D kcl [(e0, .inr (4, [.ref w, .ref no, .ref fo, .ref a, .ref ow, .ref oh])), (w, .inr (3, [.ref r, .ref q])), (r, .inr (1, [.ref x, .int (zz_I (((n : Nat) : Int)))])), (x, .inl (cI, 48, .inl (zz_A (g))))] sg.heap := hP
  have hx := Bd.exec
  have hb := Bd.bytes
  have hr := Bd.returns
  have hlocks := Bd.notSynchronized
  have hts : ∀ w ∈ zz_tbl, w.before _ sg = true := fun w h => atoms_spec (ws := kv_D_level) Bd.pre w (List.mem_cons_of_mem _ h)
  have hown : sg.vm.findClass kn_D = some mg.cls := findClass_of_methodNamed Bd.named
  have hl := lv_entry ([.ref e0]) (n := 1) (Nat.le_of_ble_eq_true rfl)
  rw [lg_entry_eq]
  generalize (lg_sl ([.ref e0]) ++ List.replicate (1 - (lg_sl ([.ref e0])).length) Slot.unset).toArray = ls at hl ⊢
  have hl : lv_has ls 1 [(0, .ref e0)] := hl
  refine lv_aload_n hx hb kd_D_level_0 rfl (lv_at hl 0 rfl) ?_
  refine va_get (D := D) (ci := 4) (v := .ref w) (C := kn_D) (T := kf_D) (N := 6) hx hb hts ki_D hown hK hP 0 rfl rfl 0 (by decide) (hts _ kw_111) (fun _ h9 => h9) rfl kd_D_level_1 ?_
  refine zz_pV ⟨hx, hb, hml, hown, hts⟩ hK (kc_W_characters l D cI cW w r q ) (zz_gV kw_171 kw_172 kw_173 kw_27 kw_174) ⟨rfl, rfl⟩ ⟨rfl, kh_W_characters⟩ ⟨Nat.le_of_ble_eq_true rfl, Nat.le_of_ble_eq_true rfl⟩ (va_recv (q := (kn_W, kf_W, 2)) hK hP rfl (show ([(e0, .inr (4, [.ref w, .ref no, .ref fo, .ref a, .ref ow, .ref oh])), (w, .inr (3, [.ref r, .ref q])), (r, .inr (1, [.ref x, .int (zz_I (((n : Nat) : Int)))])), (x, .inl (cI, 48, .inl (zz_A (g))))] : va_W)[1]? = some _ from rfl)) (hP.sub (ws' := [(w, .inr (3, [.ref r, .ref q]))]) [1] rfl) rfl hl.1 rfl (Nat.le_of_ble_eq_true rfl) kd_D_level_4 ⟨Nat.le_of_ble_eq_true rfl, Nat.le_of_ble_eq_true rfl⟩ ?_
  refine zz_pS ⟨hx, hb, hml, hown, hts⟩ hK (kc_J_strictness l D cI cW r x n 48 g (by omega) (by omega) (by assumption) rfl) (zz_gS kw_199 kw_200 kw_38 kw_201) ⟨rfl, rfl⟩ kh_J_strictness ⟨Nat.le_of_ble_eq_true rfl, Nat.le_of_ble_eq_true rfl⟩  (hP.sub (ws' := [(r, .inr (1, [.ref x, .int (zz_I (((n : Nat) : Int)))])), (x, .inl (cI, 48, .inl (zz_A (g))))]) [2, 3] rfl) rfl hl.1 rfl (Nat.le_of_ble_eq_true rfl) kd_D_level_7 ⟨Nat.le_of_ble_eq_true rfl, Nat.le_of_ble_eq_true rfl⟩ ?_
  exact W.iret hx hb hr (zz_endp (by rfl)) (fun _ h => nomatch h) kd_D_level_10
set_option maxHeartbeats 4000000 in
set_option maxRecDepth 100000 in
theorem kc_D_odd (l : Launch) (D : va_G) (cI cW : ClassId) (e0 : Nat) (w : Nat) (no : Nat) (fo : Nat) (a : Nat) (ow : Nat) (oh : Nat) (r : Nat) (q : Nat) (x : Nat) (n : Nat) (g : Nat → Int) (b : Nat) (na : Nat) (ga : Nat → Int) (hn : n ≤ 48) (hg : ck_ok g n) (hN : zz_N [e0, w, r, x, a, b]) : Met l ky_D_odd kv_D_odd ({ frames := 4, cells := 0, slots := 0, locals := 89 }) (va_Pc [.ref e0] (zz_P D cI cW (va_P D kcl [(e0, .inr (4, [.ref w, .ref no, .ref fo, .ref a, .ref ow, .ref oh])), (w, .inr (3, [.ref r, .ref q])), (r, .inr (1, [.ref x, .int (zz_I (((n : Nat) : Int)))])), (x, .inl (cI, 48, .inl (zz_A (g)))), (a, .inr (1, [.ref b, .int (zz_I (((na : Nat) : Int)))])), (b, .inl (cI, 96, .inl (zz_A (ga))))]))) (zz_Qw (fun (u : Unit) => some (.int (zz_I (ck_odd g n (ck_AF g n) (ck_AN g n))))) (fun (u : Unit) H => (True) ∧ va_P D kcl [(e0, .inr (4, [.ref w, .ref no, .ref fo, .ref a, .ref ow, .ref oh])), (w, .inr (3, [.ref r, .ref q])), (r, .inr (1, [.ref x, .int (zz_I (((n : Nat) : Int)))])), (x, .inl (cI, 48, .inl (zz_A (g)))), (a, .inr (1, [.ref b, .int (zz_I ((((ck_ao g ga n).1 : Nat) : Int)))])), (b, .inl (cI, 96, .inl (zz_A ((ck_ao g ga n).2))))] H) (zz_F [(e0, .inr (4, [.ref w, .ref no, .ref fo, .ref a, .ref ow, .ref oh])), (w, .inr (3, [.ref r, .ref q])), (r, .inr (1, [.ref x, .int (zz_I (((n : Nat) : Int)))])), (x, .inl (cI, 48, .inl (zz_A (g)))), (a, .inr (1, [.ref b, .int (zz_I (((na : Nat) : Int)))])), (b, .inl (cI, 96, .inl (zz_A (ga))))])) 0 0 (zz_F [(e0, .inr (4, [.ref w, .ref no, .ref fo, .ref a, .ref ow, .ref oh])), (w, .inr (3, [.ref r, .ref q])), (r, .inr (1, [.ref x, .int (zz_I (((n : Nat) : Int)))])), (x, .inl (cI, 48, .inl (zz_A (g)))), (a, .inr (1, [.ref b, .int (zz_I (((na : Nat) : Int)))])), (b, .inl (cI, 96, .inl (zz_A (ga))))]) := by
  refine Met.ofW (cc := kb_D_odd) (maxL := 1) (ret := (some .int)) (by decide) rfl ?_
  intro pg ev sg mg ag bl mt cd s1 Bd hml hv
  obtain ⟨rfl, hP, hK⟩ := hv
  have hP : va_P D kcl [(e0, .inr (4, [.ref w, .ref no, .ref fo, .ref a, .ref ow, .ref oh])), (w, .inr (3, [.ref r, .ref q])), (r, .inr (1, [.ref x, .int (zz_I (((n : Nat) : Int)))])), (x, .inl (cI, 48, .inl (zz_A (g)))), (a, .inr (1, [.ref b, .int (zz_I (((na : Nat) : Int)))])), (b, .inl (cI, 96, .inl (zz_A (ga))))] sg.heap := hP
  have hx := Bd.exec
  have hb := Bd.bytes
  have hr := Bd.returns
  have hlocks := Bd.notSynchronized
  have hts : ∀ w ∈ zz_tbl, w.before _ sg = true := fun w h => atoms_spec (ws := kv_D_odd) Bd.pre w (List.mem_cons_of_mem _ h)
  have hown : sg.vm.findClass kn_D = some mg.cls := findClass_of_methodNamed Bd.named
  have hD : va_D (zz_F [(e0, .inr (4, [.ref w, .ref no, .ref fo, .ref a, .ref ow, .ref oh])), (w, .inr (3, [.ref r, .ref q])), (r, .inr (1, [.ref x, .int (zz_I (((n : Nat) : Int)))])), (x, .inl (cI, 48, .inl (zz_A (g)))), (a, .inr (1, [.ref b, .int (zz_I (((na : Nat) : Int)))])), (b, .inl (cI, 96, .inl (zz_A (ga))))]) [(e0, .inr (4, [.ref w, .ref no, .ref fo, .ref a, .ref ow, .ref oh])), (w, .inr (3, [.ref r, .ref q])), (r, .inr (1, [.ref x, .int (zz_I (((n : Nat) : Int)))])), (x, .inl (cI, 48, .inl (zz_A (g)))), (a, .inr (1, [.ref b, .int (zz_I (((na : Nat) : Int)))])), (b, .inl (cI, 96, .inl (zz_A (ga))))] := zz_Dof hN rfl
  have hS : va_S (zz_F [(e0, .inr (4, [.ref w, .ref no, .ref fo, .ref a, .ref ow, .ref oh])), (w, .inr (3, [.ref r, .ref q])), (r, .inr (1, [.ref x, .int (zz_I (((n : Nat) : Int)))])), (x, .inl (cI, 48, .inl (zz_A (g)))), (a, .inr (1, [.ref b, .int (zz_I (((na : Nat) : Int)))])), (b, .inl (cI, 96, .inl (zz_A (ga))))]) sg.heap sg.heap [] := va_S.rf
  have hl := lv_entry ([.ref e0]) (n := 1) (Nat.le_of_ble_eq_true rfl)
  rw [lg_entry_eq]
  generalize (lg_sl ([.ref e0]) ++ List.replicate (1 - (lg_sl ([.ref e0])).length) Slot.unset).toArray = ls at hl ⊢
  have hl : lv_has ls 1 [(0, .ref e0)] := hl
  refine lv_aload_n hx hb kd_D_odd_0 rfl (lv_at hl 0 rfl) ?_
  refine va_get (D := D) (ci := 4) (v := .ref w) (C := kn_D) (T := kf_D) (N := 6) hx hb hts ki_D hown hK hP 0 rfl rfl 0 (by decide) (hts _ kw_111) (fun _ h9 => h9) rfl kd_D_odd_1 ?_
  refine zz_pV ⟨hx, hb, hml, hown, hts⟩ hK (kc_W_characters l D cI cW w r q ) (zz_gV kw_171 kw_172 kw_173 kw_27 kw_174) ⟨rfl, rfl⟩ ⟨rfl, kh_W_characters⟩ ⟨Nat.le_of_ble_eq_true rfl, Nat.le_of_ble_eq_true rfl⟩ (va_recv (q := (kn_W, kf_W, 2)) hK hP rfl (show ([(e0, .inr (4, [.ref w, .ref no, .ref fo, .ref a, .ref ow, .ref oh])), (w, .inr (3, [.ref r, .ref q])), (r, .inr (1, [.ref x, .int (zz_I (((n : Nat) : Int)))])), (x, .inl (cI, 48, .inl (zz_A (g)))), (a, .inr (1, [.ref b, .int (zz_I (((na : Nat) : Int)))])), (b, .inl (cI, 96, .inl (zz_A (ga))))] : va_W)[1]? = some _ from rfl)) (hP.sub (ws' := [(w, .inr (3, [.ref r, .ref q]))]) [1] rfl) rfl hl.1 rfl (Nat.le_of_ble_eq_true rfl) kd_D_odd_4 ⟨Nat.le_of_ble_eq_true rfl, Nat.le_of_ble_eq_true rfl⟩ ?_
  refine lv_aload_n hx hb kd_D_odd_7 rfl (lv_at hl 0 rfl) ?_
  refine va_get (D := D) (ci := 4) (v := .ref a) (C := kn_D) (T := kf_D) (N := 6) hx hb hts ki_D hown hK hP 0 rfl rfl 3 (by decide) (hts _ kw_114) (fun _ h9 => h9) rfl kd_D_odd_8 ?_
  refine zz_wS ⟨hx, hb, hml, hown, hts⟩ hK (kc_J_oddities l D cI cW r x n 48 g a b na ga (by omega) (by omega) (by assumption) (by omega) (hN.sub [2, 3, 4, 5] rfl rfl)) (zz_gS kw_234 kw_235 kw_38 kw_236) ⟨rfl, rfl⟩ kh_J_oddities ⟨Nat.le_of_ble_eq_true rfl, Nat.le_of_ble_eq_true rfl⟩  hP hD hS [2, 3, 4, 5] rfl rfl (fun _ => rfl) rfl hl.1 rfl (Nat.le_of_ble_eq_true rfl) kd_D_odd_11 ⟨Nat.le_of_ble_eq_true rfl, Nat.le_of_ble_eq_true rfl⟩ (fun u11 H locs hu11 hP hD hS => ?_)
  have hP : va_P D kcl [(e0, .inr (4, [.ref w, .ref no, .ref fo, .ref a, .ref ow, .ref oh])), (w, .inr (3, [.ref r, .ref q])), (r, .inr (1, [.ref x, .int (zz_I (((n : Nat) : Int)))])), (x, .inl (cI, 48, .inl (zz_A (g)))), (a, .inr (1, [.ref b, .int (zz_I ((((ck_ao g ga n).1 : Nat) : Int)))])), (b, .inl (cI, 96, .inl (zz_A ((ck_ao g ga n).2))))] H := hP
  have hD : va_D (zz_F [(e0, .inr (4, [.ref w, .ref no, .ref fo, .ref a, .ref ow, .ref oh])), (w, .inr (3, [.ref r, .ref q])), (r, .inr (1, [.ref x, .int (zz_I (((n : Nat) : Int)))])), (x, .inl (cI, 48, .inl (zz_A (g)))), (a, .inr (1, [.ref b, .int (zz_I (((na : Nat) : Int)))])), (b, .inl (cI, 96, .inl (zz_A (ga))))]) [(e0, .inr (4, [.ref w, .ref no, .ref fo, .ref a, .ref ow, .ref oh])), (w, .inr (3, [.ref r, .ref q])), (r, .inr (1, [.ref x, .int (zz_I (((n : Nat) : Int)))])), (x, .inl (cI, 48, .inl (zz_A (g)))), (a, .inr (1, [.ref b, .int (zz_I ((((ck_ao g ga n).1 : Nat) : Int)))])), (b, .inl (cI, 96, .inl (zz_A ((ck_ao g ga n).2))))] := hD
  exact W.iret hx hb hr (zz_endw (()) (rfl) ⟨trivial, hP⟩ hS) hS.2.2 kd_D_odd_14
set_option maxHeartbeats 4000000 in
set_option maxRecDepth 100000 in
theorem kc_D_words (l : Launch) (D : va_G) (cI cW : ClassId) (e0 : Nat) (w : Nat) (no : Nat) (fo : Nat) (a : Nat) (ow : Nat) (oh : Nat) (r : Nat) (q : Nat) (x : Nat) (n : Nat) (g : Nat → Int) (fp : Nat) (fq : Nat) (fk : Nat) (fB : Nat → Int) (fE : Nat → Int) (hn : n ≤ 48) (hg : ck_ok g n) (hN : zz_N [e0, w, r, x, fo, fp, fq]) : Met l ky_D_words kv_D_words ({ frames := 6, cells := 0, slots := 0, locals := 126 }) (va_Pc [.ref e0] (zz_P D cI cW (va_P D kcl [(e0, .inr (4, [.ref w, .ref no, .ref fo, .ref a, .ref ow, .ref oh])), (w, .inr (3, [.ref r, .ref q])), (r, .inr (1, [.ref x, .int (zz_I (((n : Nat) : Int)))])), (x, .inl (cI, 48, .inl (zz_A (g)))), (fo, .inr (2, [.ref fp, .ref fq, .int (zz_I (((fk : Nat) : Int)))])), (fp, .inl (cI, 48, .inl (zz_A (fB)))), (fq, .inl (cI, 48, .inl (zz_A (fE))))]))) (zz_Qw (fun (u : Unit) => some (.int (zz_I ((ck_wc g n : Nat) : Int)))) (fun (u : Unit) H => (True) ∧ va_P D kcl [(e0, .inr (4, [.ref w, .ref no, .ref fo, .ref a, .ref ow, .ref oh])), (w, .inr (3, [.ref r, .ref q])), (r, .inr (1, [.ref x, .int (zz_I (((n : Nat) : Int)))])), (x, .inl (cI, 48, .inl (zz_A (g)))), (fo, .inr (2, [.ref fp, .ref fq, .int (zz_I ((((ck_wk g n n 0 (0, fB, fE)).1 : Nat) : Int)))])), (fp, .inl (cI, 48, .inl (zz_A ((ck_wk g n n 0 (0, fB, fE)).2.1)))), (fq, .inl (cI, 48, .inl (zz_A ((ck_wk g n n 0 (0, fB, fE)).2.2))))] H) (zz_F [(e0, .inr (4, [.ref w, .ref no, .ref fo, .ref a, .ref ow, .ref oh])), (w, .inr (3, [.ref r, .ref q])), (r, .inr (1, [.ref x, .int (zz_I (((n : Nat) : Int)))])), (x, .inl (cI, 48, .inl (zz_A (g)))), (fo, .inr (2, [.ref fp, .ref fq, .int (zz_I (((fk : Nat) : Int)))])), (fp, .inl (cI, 48, .inl (zz_A (fB)))), (fq, .inl (cI, 48, .inl (zz_A (fE))))])) 0 0 (zz_F [(e0, .inr (4, [.ref w, .ref no, .ref fo, .ref a, .ref ow, .ref oh])), (w, .inr (3, [.ref r, .ref q])), (r, .inr (1, [.ref x, .int (zz_I (((n : Nat) : Int)))])), (x, .inl (cI, 48, .inl (zz_A (g)))), (fo, .inr (2, [.ref fp, .ref fq, .int (zz_I (((fk : Nat) : Int)))])), (fp, .inl (cI, 48, .inl (zz_A (fB)))), (fq, .inl (cI, 48, .inl (zz_A (fE))))]) := by
  refine Met.ofW (cc := kb_D_words) (maxL := 1) (ret := (some .int)) (by decide) rfl ?_
  intro pg ev sg mg ag bl mt cd s1 Bd hml hv
  obtain ⟨rfl, hP, hK⟩ := hv
  have hP : va_P D kcl [(e0, .inr (4, [.ref w, .ref no, .ref fo, .ref a, .ref ow, .ref oh])), (w, .inr (3, [.ref r, .ref q])), (r, .inr (1, [.ref x, .int (zz_I (((n : Nat) : Int)))])), (x, .inl (cI, 48, .inl (zz_A (g)))), (fo, .inr (2, [.ref fp, .ref fq, .int (zz_I (((fk : Nat) : Int)))])), (fp, .inl (cI, 48, .inl (zz_A (fB)))), (fq, .inl (cI, 48, .inl (zz_A (fE))))] sg.heap := hP
  have hx := Bd.exec
  have hb := Bd.bytes
  have hr := Bd.returns
  have hlocks := Bd.notSynchronized
  have hts : ∀ w ∈ zz_tbl, w.before _ sg = true := fun w h => atoms_spec (ws := kv_D_words) Bd.pre w (List.mem_cons_of_mem _ h)
  have hown : sg.vm.findClass kn_D = some mg.cls := findClass_of_methodNamed Bd.named
  have hD : va_D (zz_F [(e0, .inr (4, [.ref w, .ref no, .ref fo, .ref a, .ref ow, .ref oh])), (w, .inr (3, [.ref r, .ref q])), (r, .inr (1, [.ref x, .int (zz_I (((n : Nat) : Int)))])), (x, .inl (cI, 48, .inl (zz_A (g)))), (fo, .inr (2, [.ref fp, .ref fq, .int (zz_I (((fk : Nat) : Int)))])), (fp, .inl (cI, 48, .inl (zz_A (fB)))), (fq, .inl (cI, 48, .inl (zz_A (fE))))]) [(e0, .inr (4, [.ref w, .ref no, .ref fo, .ref a, .ref ow, .ref oh])), (w, .inr (3, [.ref r, .ref q])), (r, .inr (1, [.ref x, .int (zz_I (((n : Nat) : Int)))])), (x, .inl (cI, 48, .inl (zz_A (g)))), (fo, .inr (2, [.ref fp, .ref fq, .int (zz_I (((fk : Nat) : Int)))])), (fp, .inl (cI, 48, .inl (zz_A (fB)))), (fq, .inl (cI, 48, .inl (zz_A (fE))))] := zz_Dof hN rfl
  have hS : va_S (zz_F [(e0, .inr (4, [.ref w, .ref no, .ref fo, .ref a, .ref ow, .ref oh])), (w, .inr (3, [.ref r, .ref q])), (r, .inr (1, [.ref x, .int (zz_I (((n : Nat) : Int)))])), (x, .inl (cI, 48, .inl (zz_A (g)))), (fo, .inr (2, [.ref fp, .ref fq, .int (zz_I (((fk : Nat) : Int)))])), (fp, .inl (cI, 48, .inl (zz_A (fB)))), (fq, .inl (cI, 48, .inl (zz_A (fE))))]) sg.heap sg.heap [] := va_S.rf
  have hl := lv_entry ([.ref e0]) (n := 1) (Nat.le_of_ble_eq_true rfl)
  rw [lg_entry_eq]
  generalize (lg_sl ([.ref e0]) ++ List.replicate (1 - (lg_sl ([.ref e0])).length) Slot.unset).toArray = ls at hl ⊢
  have hl : lv_has ls 1 [(0, .ref e0)] := hl
  refine lv_aload_n hx hb kd_D_words_0 rfl (lv_at hl 0 rfl) ?_
  refine va_get (D := D) (ci := 4) (v := .ref fo) (C := kn_D) (T := kf_D) (N := 6) hx hb hts ki_D hown hK hP 0 rfl rfl 2 (by decide) (hts _ kw_113) (fun _ h9 => h9) rfl kd_D_words_1 ?_
  refine lv_aload_n hx hb kd_D_words_4 rfl (lv_at hl 0 rfl) ?_
  refine va_get (D := D) (ci := 4) (v := .ref w) (C := kn_D) (T := kf_D) (N := 6) hx hb hts ki_D hown hK hP 0 rfl rfl 0 (by decide) (hts _ kw_111) (fun _ h9 => h9) rfl kd_D_words_5 ?_
  refine zz_pV ⟨hx, hb, hml, hown, hts⟩ hK (kc_W_characters l D cI cW w r q ) (zz_gV kw_171 kw_172 kw_173 kw_27 kw_174) ⟨rfl, rfl⟩ ⟨rfl, kh_W_characters⟩ ⟨Nat.le_of_ble_eq_true rfl, Nat.le_of_ble_eq_true rfl⟩ (va_recv (q := (kn_W, kf_W, 2)) hK hP rfl (show ([(e0, .inr (4, [.ref w, .ref no, .ref fo, .ref a, .ref ow, .ref oh])), (w, .inr (3, [.ref r, .ref q])), (r, .inr (1, [.ref x, .int (zz_I (((n : Nat) : Int)))])), (x, .inl (cI, 48, .inl (zz_A (g)))), (fo, .inr (2, [.ref fp, .ref fq, .int (zz_I (((fk : Nat) : Int)))])), (fp, .inl (cI, 48, .inl (zz_A (fB)))), (fq, .inl (cI, 48, .inl (zz_A (fE))))] : va_W)[1]? = some _ from rfl)) (hP.sub (ws' := [(w, .inr (3, [.ref r, .ref q]))]) [1] rfl) rfl hl.1 rfl (Nat.le_of_ble_eq_true rfl) kd_D_words_8 ⟨Nat.le_of_ble_eq_true rfl, Nat.le_of_ble_eq_true rfl⟩ ?_
  refine zz_wV ⟨hx, hb, hml, hown, hts⟩ hK (kc_L_find l D cI cW fo fp fq fk fB fE r x n 48 g (by omega) (by omega) (by assumption) (by omega) (hN.sub [4, 5, 6, 2, 3] rfl rfl)) (zz_gV kw_280 kw_281 kw_282 kw_30 kw_283) ⟨rfl, rfl⟩ ⟨rfl, kh_L_find⟩ ⟨Nat.le_of_ble_eq_true rfl, Nat.le_of_ble_eq_true rfl⟩ (va_recv (q := (kn_L, kf_L, 3)) hK hP rfl (show ([(e0, .inr (4, [.ref w, .ref no, .ref fo, .ref a, .ref ow, .ref oh])), (w, .inr (3, [.ref r, .ref q])), (r, .inr (1, [.ref x, .int (zz_I (((n : Nat) : Int)))])), (x, .inl (cI, 48, .inl (zz_A (g)))), (fo, .inr (2, [.ref fp, .ref fq, .int (zz_I (((fk : Nat) : Int)))])), (fp, .inl (cI, 48, .inl (zz_A (fB)))), (fq, .inl (cI, 48, .inl (zz_A (fE))))] : va_W)[4]? = some _ from rfl)) hP hD hS [4, 5, 6, 2, 3] rfl rfl (fun _ => rfl) rfl hl.1 rfl (Nat.le_of_ble_eq_true rfl) kd_D_words_11 ⟨Nat.le_of_ble_eq_true rfl, Nat.le_of_ble_eq_true rfl⟩ (fun u11 H locs hu11 hP hD hS => ?_)
  have hP : va_P D kcl [(e0, .inr (4, [.ref w, .ref no, .ref fo, .ref a, .ref ow, .ref oh])), (w, .inr (3, [.ref r, .ref q])), (r, .inr (1, [.ref x, .int (zz_I (((n : Nat) : Int)))])), (x, .inl (cI, 48, .inl (zz_A (g)))), (fo, .inr (2, [.ref fp, .ref fq, .int (zz_I ((((ck_wk g n n 0 (0, fB, fE)).1 : Nat) : Int)))])), (fp, .inl (cI, 48, .inl (zz_A ((ck_wk g n n 0 (0, fB, fE)).2.1)))), (fq, .inl (cI, 48, .inl (zz_A ((ck_wk g n n 0 (0, fB, fE)).2.2))))] H := hP
  have hD : va_D (zz_F [(e0, .inr (4, [.ref w, .ref no, .ref fo, .ref a, .ref ow, .ref oh])), (w, .inr (3, [.ref r, .ref q])), (r, .inr (1, [.ref x, .int (zz_I (((n : Nat) : Int)))])), (x, .inl (cI, 48, .inl (zz_A (g)))), (fo, .inr (2, [.ref fp, .ref fq, .int (zz_I (((fk : Nat) : Int)))])), (fp, .inl (cI, 48, .inl (zz_A (fB)))), (fq, .inl (cI, 48, .inl (zz_A (fE))))]) [(e0, .inr (4, [.ref w, .ref no, .ref fo, .ref a, .ref ow, .ref oh])), (w, .inr (3, [.ref r, .ref q])), (r, .inr (1, [.ref x, .int (zz_I (((n : Nat) : Int)))])), (x, .inl (cI, 48, .inl (zz_A (g)))), (fo, .inr (2, [.ref fp, .ref fq, .int (zz_I ((((ck_wk g n n 0 (0, fB, fE)).1 : Nat) : Int)))])), (fp, .inl (cI, 48, .inl (zz_A ((ck_wk g n n 0 (0, fB, fE)).2.1)))), (fq, .inl (cI, 48, .inl (zz_A ((ck_wk g n n 0 (0, fB, fE)).2.2))))] := hD
  refine lv_aload_n hx hb kd_D_words_14 rfl (lv_at hl 0 rfl) ?_
  refine va_get (D := D) (ci := 4) (v := .ref fo) (C := kn_D) (T := kf_D) (N := 6) hx hb hts ki_D hown hK hP 0 rfl rfl 2 (by decide) (hts _ kw_113) (fun _ h9 => h9) rfl kd_D_words_15 ?_
  refine zz_pV ⟨hx, hb, hml, hown, hts⟩ hK (kc_L_count l D cI cW fo fp fq ((ck_wk g n n 0 (0, fB, fE)).1)  rfl) (zz_gV kw_305 kw_306 kw_307 kw_30 kw_308) ⟨rfl, rfl⟩ ⟨rfl, kh_L_count⟩ ⟨Nat.le_of_ble_eq_true rfl, Nat.le_of_ble_eq_true rfl⟩ (va_recv (q := (kn_L, kf_L, 3)) hK hP rfl (show ([(e0, .inr (4, [.ref w, .ref no, .ref fo, .ref a, .ref ow, .ref oh])), (w, .inr (3, [.ref r, .ref q])), (r, .inr (1, [.ref x, .int (zz_I (((n : Nat) : Int)))])), (x, .inl (cI, 48, .inl (zz_A (g)))), (fo, .inr (2, [.ref fp, .ref fq, .int (zz_I ((((ck_wk g n n 0 (0, fB, fE)).1 : Nat) : Int)))])), (fp, .inl (cI, 48, .inl (zz_A ((ck_wk g n n 0 (0, fB, fE)).2.1)))), (fq, .inl (cI, 48, .inl (zz_A ((ck_wk g n n 0 (0, fB, fE)).2.2))))] : va_W)[4]? = some _ from rfl)) (hP.sub (ws' := [(fo, .inr (2, [.ref fp, .ref fq, .int (zz_I ((((ck_wk g n n 0 (0, fB, fE)).1 : Nat) : Int)))]))]) [4] rfl) rfl hl.1 rfl (Nat.le_of_ble_eq_true rfl) kd_D_words_18 ⟨Nat.le_of_ble_eq_true rfl, Nat.le_of_ble_eq_true rfl⟩ ?_
  exact W.iret hx hb hr (zz_endw (()) (by rw [ck_wc_eq]) ⟨trivial, hP⟩ hS) hS.2.2 kd_D_words_21
set_option maxHeartbeats 4000000 in
set_option maxRecDepth 100000 in
theorem kc_D_wipe (l : Launch) (D : va_G) (cI cW : ClassId) (e0 : Nat) (w : Nat) (no : Nat) (fo : Nat) (a : Nat) (ow : Nat) (oh : Nat) (r : Nat) (q : Nat) (x : Nat) (n : Nat) (z : Nat) (m : Nat)  (hN : zz_N [e0, w, r, q]) : Met l ky_D_wipe kv_D_wipe ({ frames := 2, cells := 0, slots := 0, locals := 40 }) (va_Pc [.ref e0] (zz_P D cI cW (va_P D kcl [(e0, .inr (4, [.ref w, .ref no, .ref fo, .ref a, .ref ow, .ref oh])), (w, .inr (3, [.ref r, .ref q])), (r, .inr (1, [.ref x, .int (zz_I (((n : Nat) : Int)))])), (q, .inr (1, [.ref z, .int (zz_I (((m : Nat) : Int)))]))]))) (zz_Qw (fun (u : Unit) => some (.int (zz_I ((n : Nat) : Int)))) (fun (u : Unit) H => (True) ∧ va_P D kcl [(e0, .inr (4, [.ref w, .ref no, .ref fo, .ref a, .ref ow, .ref oh])), (w, .inr (3, [.ref r, .ref q])), (r, .inr (1, [.ref x, .int (zz_I (((0 : Nat) : Int)))])), (q, .inr (1, [.ref z, .int (zz_I (((0 : Nat) : Int)))]))] H) (zz_F [(e0, .inr (4, [.ref w, .ref no, .ref fo, .ref a, .ref ow, .ref oh])), (w, .inr (3, [.ref r, .ref q])), (r, .inr (1, [.ref x, .int (zz_I (((n : Nat) : Int)))])), (q, .inr (1, [.ref z, .int (zz_I (((m : Nat) : Int)))]))])) 0 0 (zz_F [(e0, .inr (4, [.ref w, .ref no, .ref fo, .ref a, .ref ow, .ref oh])), (w, .inr (3, [.ref r, .ref q])), (r, .inr (1, [.ref x, .int (zz_I (((n : Nat) : Int)))])), (q, .inr (1, [.ref z, .int (zz_I (((m : Nat) : Int)))]))]) := by
  refine Met.ofW (cc := kb_D_wipe) (maxL := 2) (ret := (some .int)) (by decide) rfl ?_
  intro pg ev sg mg ag bl mt cd s1 Bd hml hv
  obtain ⟨rfl, hP, hK⟩ := hv
  have hP : va_P D kcl [(e0, .inr (4, [.ref w, .ref no, .ref fo, .ref a, .ref ow, .ref oh])), (w, .inr (3, [.ref r, .ref q])), (r, .inr (1, [.ref x, .int (zz_I (((n : Nat) : Int)))])), (q, .inr (1, [.ref z, .int (zz_I (((m : Nat) : Int)))]))] sg.heap := hP
  have hx := Bd.exec
  have hb := Bd.bytes
  have hr := Bd.returns
  have hlocks := Bd.notSynchronized
  have hts : ∀ w ∈ zz_tbl, w.before _ sg = true := fun w h => atoms_spec (ws := kv_D_wipe) Bd.pre w (List.mem_cons_of_mem _ h)
  have hown : sg.vm.findClass kn_D = some mg.cls := findClass_of_methodNamed Bd.named
  have hD : va_D (zz_F [(e0, .inr (4, [.ref w, .ref no, .ref fo, .ref a, .ref ow, .ref oh])), (w, .inr (3, [.ref r, .ref q])), (r, .inr (1, [.ref x, .int (zz_I (((n : Nat) : Int)))])), (q, .inr (1, [.ref z, .int (zz_I (((m : Nat) : Int)))]))]) [(e0, .inr (4, [.ref w, .ref no, .ref fo, .ref a, .ref ow, .ref oh])), (w, .inr (3, [.ref r, .ref q])), (r, .inr (1, [.ref x, .int (zz_I (((n : Nat) : Int)))])), (q, .inr (1, [.ref z, .int (zz_I (((m : Nat) : Int)))]))] := zz_Dof hN rfl
  have hS : va_S (zz_F [(e0, .inr (4, [.ref w, .ref no, .ref fo, .ref a, .ref ow, .ref oh])), (w, .inr (3, [.ref r, .ref q])), (r, .inr (1, [.ref x, .int (zz_I (((n : Nat) : Int)))])), (q, .inr (1, [.ref z, .int (zz_I (((m : Nat) : Int)))]))]) sg.heap sg.heap [] := va_S.rf
  have hl := lv_entry ([.ref e0]) (n := 2) (Nat.le_of_ble_eq_true rfl)
  rw [lg_entry_eq]
  generalize (lg_sl ([.ref e0]) ++ List.replicate (2 - (lg_sl ([.ref e0])).length) Slot.unset).toArray = ls at hl ⊢
  have hl : lv_has ls 2 [(0, .ref e0)] := hl
  refine lv_aload_n hx hb kd_D_wipe_0 rfl (lv_at hl 0 rfl) ?_
  refine va_get (D := D) (ci := 4) (v := .ref w) (C := kn_D) (T := kf_D) (N := 6) hx hb hts ki_D hown hK hP 0 rfl rfl 0 (by decide) (hts _ kw_111) (fun _ h9 => h9) rfl kd_D_wipe_1 ?_
  refine zz_pV ⟨hx, hb, hml, hown, hts⟩ hK (kc_W_length l D cI cW w r q x n  rfl) (zz_gV kw_134 kw_135 kw_136 kw_27 kw_137) ⟨rfl, rfl⟩ ⟨rfl, kh_W_length⟩ ⟨Nat.le_of_ble_eq_true rfl, Nat.le_of_ble_eq_true rfl⟩ (va_recv (q := (kn_W, kf_W, 2)) hK hP rfl (show ([(e0, .inr (4, [.ref w, .ref no, .ref fo, .ref a, .ref ow, .ref oh])), (w, .inr (3, [.ref r, .ref q])), (r, .inr (1, [.ref x, .int (zz_I (((n : Nat) : Int)))])), (q, .inr (1, [.ref z, .int (zz_I (((m : Nat) : Int)))]))] : va_W)[1]? = some _ from rfl)) (hP.sub (ws' := [(w, .inr (3, [.ref r, .ref q])), (r, .inr (1, [.ref x, .int (zz_I (((n : Nat) : Int)))]))]) [1, 2] rfl) rfl hl.1 rfl (Nat.le_of_ble_eq_true rfl) kd_D_wipe_4 ⟨Nat.le_of_ble_eq_true rfl, Nat.le_of_ble_eq_true rfl⟩ ?_
  refine lv_istore_n hx hb kd_D_wipe_7 rfl hl (by decide) rfl (fun ls hl => ?_)
  have hl : lv_has ls 2 [(1, .int (zz_I (((n : Nat) : Int)))), (0, .ref e0)] := hl
  refine lv_aload_n hx hb kd_D_wipe_8 rfl (lv_at hl 1 rfl) ?_
  refine va_get (D := D) (ci := 4) (v := .ref w) (C := kn_D) (T := kf_D) (N := 6) hx hb hts ki_D hown hK hP 0 rfl rfl 0 (by decide) (hts _ kw_111) (fun _ h9 => h9) rfl kd_D_wipe_9 ?_
  refine zz_wV ⟨hx, hb, hml, hown, hts⟩ hK (kc_W_clear l D cI cW w r q x n z m  (hN.sub [1, 2, 3] rfl rfl)) (zz_gV kw_142 kw_143 kw_144 kw_27 kw_145) ⟨rfl, rfl⟩ ⟨rfl, kh_W_clear⟩ ⟨Nat.le_of_ble_eq_true rfl, Nat.le_of_ble_eq_true rfl⟩ (va_recv (q := (kn_W, kf_W, 2)) hK hP rfl (show ([(e0, .inr (4, [.ref w, .ref no, .ref fo, .ref a, .ref ow, .ref oh])), (w, .inr (3, [.ref r, .ref q])), (r, .inr (1, [.ref x, .int (zz_I (((n : Nat) : Int)))])), (q, .inr (1, [.ref z, .int (zz_I (((m : Nat) : Int)))]))] : va_W)[1]? = some _ from rfl)) hP hD hS [1, 2, 3] rfl rfl (fun _ => rfl) rfl hl.1 rfl (Nat.le_of_ble_eq_true rfl) kd_D_wipe_12 ⟨Nat.le_of_ble_eq_true rfl, Nat.le_of_ble_eq_true rfl⟩ (fun u12 H locs hu12 hP hD hS => ?_)
  have hP : va_P D kcl [(e0, .inr (4, [.ref w, .ref no, .ref fo, .ref a, .ref ow, .ref oh])), (w, .inr (3, [.ref r, .ref q])), (r, .inr (1, [.ref x, .int (zz_I (((0 : Nat) : Int)))])), (q, .inr (1, [.ref z, .int (zz_I (((0 : Nat) : Int)))]))] H := hP
  have hD : va_D (zz_F [(e0, .inr (4, [.ref w, .ref no, .ref fo, .ref a, .ref ow, .ref oh])), (w, .inr (3, [.ref r, .ref q])), (r, .inr (1, [.ref x, .int (zz_I (((n : Nat) : Int)))])), (q, .inr (1, [.ref z, .int (zz_I (((m : Nat) : Int)))]))]) [(e0, .inr (4, [.ref w, .ref no, .ref fo, .ref a, .ref ow, .ref oh])), (w, .inr (3, [.ref r, .ref q])), (r, .inr (1, [.ref x, .int (zz_I (((0 : Nat) : Int)))])), (q, .inr (1, [.ref z, .int (zz_I (((0 : Nat) : Int)))]))] := hD
  refine lv_iload_n hx hb kd_D_wipe_15 rfl (lv_at hl 0 rfl) ?_
  exact W.iret hx hb hr (zz_endw (()) (rfl) ⟨trivial, hP⟩ hS) hS.2.2 kd_D_wipe_16
set_option maxHeartbeats 4000000 in
set_option maxRecDepth 100000 in
theorem kc_D_lookalike (l : Launch) (D : va_G) (cI cW : ClassId) (e0 : Nat) (w : Nat) (no : Nat) (fo : Nat) (a : Nat) (ow : Nat) (oh : Nat) (r : Nat) (x : Nat) (n : Nat) (g : Nat → Int) (q : Nat) (z : Nat) (m : Nat) (h : Nat → Int) (nb : Nat) (k : Nat) (nm : Nat → zz_Wt) (f : Int) (hn : n ≤ 48) (hm : m ≤ 144) (hg : ck_ok g n) (hh : ck_ok h m) (hk : k ≤ 12) (hok : ∀ j, j < k → zz_ok (nm j)) (hf : -2147483648 ≤ f ∧ f ≤ 2147483647) {v : Int} (hv : ck_fst (fun j => ck_nlk (nm j) (w, r, x, n, g, q, z, m, h)) (max f 0).toNat (k - (max f 0).toNat) = v) : Met l ky_D_lookalike kv_D_lookalike ({ frames := 5, cells := 0, slots := 0, locals := 128 }) (va_Pc [.ref e0, .int (zz_I (f))] (zz_P D cI cW (fun H => va_P D kcl [(e0, .inr (4, [.ref w, .ref no, .ref fo, .ref a, .ref ow, .ref oh])), (w, .inr (3, [.ref r, .ref q])), (r, .inr (1, [.ref x, .int (zz_I (((n : Nat) : Int)))])), (x, .inl (cI, 48, .inl (zz_A (g)))), (q, .inr (1, [.ref z, .int (zz_I (((m : Nat) : Int)))])), (z, .inl (cI, 144, .inl (zz_A (h)))), (no, .inr (0, [.ref nb, .int (zz_I (((k : Nat) : Int)))])), (nb, .inl (cW, 12, .inr (.inr (.inr (.inr (fun jq => some (nm jq).1))))))] H ∧ ∀ j, j < k → va_P D kcl (zz_wr cI (nm j)) H))) (zz_Qp (.int (zz_I v))) 0 0 (fun _ => False) := by
  subst hv
  refine Met.ofW (cc := kb_D_lookalike) (maxL := 2) (ret := (some .int)) (by decide) rfl ?_
  intro pg ev sg mg ag bl mt cd s1 Bd hml hv
  obtain ⟨rfl, hP, hK⟩ := hv
  have hPic := hP
  have hx := Bd.exec
  have hb := Bd.bytes
  have hr := Bd.returns
  have hlocks := Bd.notSynchronized
  have hts : ∀ w ∈ zz_tbl, w.before _ sg = true := fun w h => atoms_spec (ws := kv_D_lookalike) Bd.pre w (List.mem_cons_of_mem _ h)
  have hown : sg.vm.findClass kn_D = some mg.cls := findClass_of_methodNamed Bd.named
  have hl := lv_entry ([.ref e0, .int (zz_I (f))]) (n := 2) (Nat.le_of_ble_eq_true rfl)
  rw [lg_entry_eq]
  generalize (lg_sl ([.ref e0, .int (zz_I (f))]) ++ List.replicate (2 - (lg_sl ([.ref e0, .int (zz_I (f))])).length) Slot.unset).toArray = ls at hl ⊢
  have hl : lv_has ls 2 [(0, .ref e0), (1, .int (zz_I (f)))] := hl
  obtain ⟨hP, hNm⟩ := hPic
  have hP : va_P D kcl [(e0, .inr (4, [.ref w, .ref no, .ref fo, .ref a, .ref ow, .ref oh])), (w, .inr (3, [.ref r, .ref q])), (r, .inr (1, [.ref x, .int (zz_I (((n : Nat) : Int)))])), (x, .inl (cI, 48, .inl (zz_A (g)))), (q, .inr (1, [.ref z, .int (zz_I (((m : Nat) : Int)))])), (z, .inl (cI, 144, .inl (zz_A (h)))), (no, .inr (0, [.ref nb, .int (zz_I (((k : Nat) : Int)))])), (nb, .inl (cW, 12, .inr (.inr (.inr (.inr (fun jq => some (nm jq).1))))))] sg.heap := hP
  refine lv_aload_n hx hb kd_D_lookalike_0 rfl (lv_at hl 0 rfl) ?_
  refine va_get (D := D) (ci := 4) (v := .ref no) (C := kn_D) (T := kf_D) (N := 6) hx hb hts ki_D hown hK hP 0 rfl rfl 1 (by decide) (hts _ kw_112) (fun _ h9 => h9) rfl kd_D_lookalike_1 ?_
  refine lv_aload_n hx hb kd_D_lookalike_4 rfl (lv_at hl 0 rfl) ?_
  refine va_get (D := D) (ci := 4) (v := .ref w) (C := kn_D) (T := kf_D) (N := 6) hx hb hts ki_D hown hK hP 0 rfl rfl 0 (by decide) (hts _ kw_111) (fun _ h9 => h9) rfl kd_D_lookalike_5 ?_
  refine lv_iload_n hx hb kd_D_lookalike_8 rfl (lv_at hl 1 rfl) ?_
  refine zz_pV ⟨hx, hb, hml, hown, hts⟩ hK (kc_G_firstLike l D cI cW no nb k nm w r x n g q z m h f (by omega) (by assumption) (by omega) (by omega) (by assumption) (by assumption) (by omega) rfl) (zz_gV kw_313 kw_314 kw_315 kw_29 kw_316) ⟨rfl, rfl⟩ ⟨rfl, kh_G_firstLike⟩ ⟨Nat.le_of_ble_eq_true rfl, Nat.le_of_ble_eq_true rfl⟩ (va_recv (q := (kn_G, kf_G, 2)) hK hP rfl (show ([(e0, .inr (4, [.ref w, .ref no, .ref fo, .ref a, .ref ow, .ref oh])), (w, .inr (3, [.ref r, .ref q])), (r, .inr (1, [.ref x, .int (zz_I (((n : Nat) : Int)))])), (x, .inl (cI, 48, .inl (zz_A (g)))), (q, .inr (1, [.ref z, .int (zz_I (((m : Nat) : Int)))])), (z, .inl (cI, 144, .inl (zz_A (h)))), (no, .inr (0, [.ref nb, .int (zz_I (((k : Nat) : Int)))])), (nb, .inl (cW, 12, .inr (.inr (.inr (.inr (fun jq => some (nm jq).1))))))] : va_W)[6]? = some _ from rfl)) ⟨hP.sub [6, 7, 1, 2, 3, 4, 5] rfl, hNm⟩ rfl hl.1 rfl (Nat.le_of_ble_eq_true rfl) kd_D_lookalike_9 ⟨Nat.le_of_ble_eq_true rfl, Nat.le_of_ble_eq_true rfl⟩ ?_
  exact W.iret hx hb hr (zz_endp (by rfl)) (fun _ h => nomatch h) kd_D_lookalike_12
set_option maxHeartbeats 4000000 in
set_option maxRecDepth 100000 in
theorem kc_D_likeness (l : Launch) (D : va_G) (cI cW : ClassId) (w : Nat) (r : Nat) (x : Nat) (n : Nat) (g : Nat → Int) (q : Nat) (z : Nat) (m : Nat) (h : Nat → Int) (w2 : Nat) (r2 : Nat) (x2 : Nat) (n2 : Nat) (g2 : Nat → Int) (q2 : Nat) (z2 : Nat) (m2 : Nat) (h2 : Nat → Int) (hn : n ≤ 48) (hm : m ≤ 144) (hg : ck_ok g n) (hh : ck_ok h m) (hn2 : n2 ≤ 48) (hm2 : m2 ≤ 144) (hg2 : ck_ok g2 n2) (hh2 : ck_ok h2 m2) {v : Int} (hv : ck_lkn g n h m g2 n2 h2 m2 = v) : Met l ky_D_likeness kv_D_likeness ({ frames := 4, cells := 0, slots := 0, locals := 105 }) (va_Pc [.ref w, .ref w2] (zz_P D cI cW (va_P D kcl [(w, .inr (3, [.ref r, .ref q])), (r, .inr (1, [.ref x, .int (zz_I (((n : Nat) : Int)))])), (x, .inl (cI, 48, .inl (zz_A (g)))), (q, .inr (1, [.ref z, .int (zz_I (((m : Nat) : Int)))])), (z, .inl (cI, 144, .inl (zz_A (h)))), (w2, .inr (3, [.ref r2, .ref q2])), (r2, .inr (1, [.ref x2, .int (zz_I (((n2 : Nat) : Int)))])), (x2, .inl (cI, 48, .inl (zz_A (g2)))), (q2, .inr (1, [.ref z2, .int (zz_I (((m2 : Nat) : Int)))])), (z2, .inl (cI, 144, .inl (zz_A (h2))))]))) (zz_Qp (.int (zz_I v))) 0 0 (fun _ => False) := by
  subst hv
  refine Met.ofW (cc := kb_D_likeness) (maxL := 4) (ret := (some .int)) (by decide) rfl ?_
  intro pg ev sg mg ag bl mt cd s1 Bd hml hv
  obtain ⟨rfl, hP, hK⟩ := hv
  have hP : va_P D kcl [(w, .inr (3, [.ref r, .ref q])), (r, .inr (1, [.ref x, .int (zz_I (((n : Nat) : Int)))])), (x, .inl (cI, 48, .inl (zz_A (g)))), (q, .inr (1, [.ref z, .int (zz_I (((m : Nat) : Int)))])), (z, .inl (cI, 144, .inl (zz_A (h)))), (w2, .inr (3, [.ref r2, .ref q2])), (r2, .inr (1, [.ref x2, .int (zz_I (((n2 : Nat) : Int)))])), (x2, .inl (cI, 48, .inl (zz_A (g2)))), (q2, .inr (1, [.ref z2, .int (zz_I (((m2 : Nat) : Int)))])), (z2, .inl (cI, 144, .inl (zz_A (h2))))] sg.heap := hP
  have hx := Bd.exec
  have hb := Bd.bytes
  have hr := Bd.returns
  have hlocks := Bd.notSynchronized
  have hts : ∀ w ∈ zz_tbl, w.before _ sg = true := fun w h => atoms_spec (ws := kv_D_likeness) Bd.pre w (List.mem_cons_of_mem _ h)
  have hown : sg.vm.findClass kn_D = some mg.cls := findClass_of_methodNamed Bd.named
  have hl := lv_entry ([.ref w, .ref w2]) (n := 4) (Nat.le_of_ble_eq_true rfl)
  rw [lg_entry_eq]
  generalize (lg_sl ([.ref w, .ref w2]) ++ List.replicate (4 - (lg_sl ([.ref w, .ref w2])).length) Slot.unset).toArray = ls at hl ⊢
  have hl : lv_has ls 4 [(0, .ref w), (1, .ref w2)] := hl
  refine lv_aload_n hx hb kd_D_likeness_0 rfl (lv_at hl 0 rfl) ?_
  refine lv_aload_n hx hb kd_D_likeness_1 rfl (lv_at hl 1 rfl) ?_
  refine zz_pV ⟨hx, hb, hml, hown, hts⟩ hK (kc_W_isSameAs l D cI cW w r x n g q z m h w2 r2 x2 n2 g2 q2 z2 m2 h2 (by omega) (by omega) (by assumption) (by assumption) (by omega) (by omega) (by assumption) (by assumption) rfl) (zz_gV kw_594 kw_323 kw_324 kw_27 kw_325) ⟨rfl, rfl⟩ ⟨rfl, kh_W_isSameAs⟩ ⟨Nat.le_of_ble_eq_true rfl, Nat.le_of_ble_eq_true rfl⟩ (va_recv (q := (kn_W, kf_W, 2)) hK hP rfl (show ([(w, .inr (3, [.ref r, .ref q])), (r, .inr (1, [.ref x, .int (zz_I (((n : Nat) : Int)))])), (x, .inl (cI, 48, .inl (zz_A (g)))), (q, .inr (1, [.ref z, .int (zz_I (((m : Nat) : Int)))])), (z, .inl (cI, 144, .inl (zz_A (h)))), (w2, .inr (3, [.ref r2, .ref q2])), (r2, .inr (1, [.ref x2, .int (zz_I (((n2 : Nat) : Int)))])), (x2, .inl (cI, 48, .inl (zz_A (g2)))), (q2, .inr (1, [.ref z2, .int (zz_I (((m2 : Nat) : Int)))])), (z2, .inl (cI, 144, .inl (zz_A (h2))))] : va_W)[0]? = some _ from rfl)) hP rfl hl.1 rfl (Nat.le_of_ble_eq_true rfl) kd_D_likeness_2 ⟨Nat.le_of_ble_eq_true rfl, Nat.le_of_ble_eq_true rfl⟩ ?_
  refine zz_ifb_eq (tgt := 10) hx hb kd_D_likeness_5 (by decide) (fun hbr5 => ?_) (fun hbr5 => ?_)
  · refine lv_aload_n hx hb kd_D_likeness_10 rfl (lv_at hl 0 rfl) ?_
    refine lv_aload_n hx hb kd_D_likeness_11 rfl (lv_at hl 1 rfl) ?_
    refine zz_pV ⟨hx, hb, hml, hown, hts⟩ hK (kc_W_looksLike l D cI cW w r x n g q z m h w2 r2 x2 n2 g2 q2 z2 m2 h2 (by omega) (by omega) (by assumption) (by assumption) (by omega) (by omega) (by assumption) (by assumption) rfl) (zz_gV kw_480 kw_319 kw_320 kw_27 kw_321) ⟨rfl, rfl⟩ ⟨rfl, kh_W_looksLike⟩ ⟨Nat.le_of_ble_eq_true rfl, Nat.le_of_ble_eq_true rfl⟩ (va_recv (q := (kn_W, kf_W, 2)) hK hP rfl (show ([(w, .inr (3, [.ref r, .ref q])), (r, .inr (1, [.ref x, .int (zz_I (((n : Nat) : Int)))])), (x, .inl (cI, 48, .inl (zz_A (g)))), (q, .inr (1, [.ref z, .int (zz_I (((m : Nat) : Int)))])), (z, .inl (cI, 144, .inl (zz_A (h)))), (w2, .inr (3, [.ref r2, .ref q2])), (r2, .inr (1, [.ref x2, .int (zz_I (((n2 : Nat) : Int)))])), (x2, .inl (cI, 48, .inl (zz_A (g2)))), (q2, .inr (1, [.ref z2, .int (zz_I (((m2 : Nat) : Int)))])), (z2, .inl (cI, 144, .inl (zz_A (h2))))] : va_W)[0]? = some _ from rfl)) hP rfl hl.1 rfl (Nat.le_of_ble_eq_true rfl) kd_D_likeness_12 ⟨Nat.le_of_ble_eq_true rfl, Nat.le_of_ble_eq_true rfl⟩ ?_
    refine zz_ifb_ne (tgt := 20) hx hb kd_D_likeness_15 (by decide) (fun hbr15 => ?_) (fun hbr15 => ?_)
    · refine lv_aload_n hx hb kd_D_likeness_20 rfl (lv_at hl 0 rfl) ?_
      refine zz_pV ⟨hx, hb, hml, hown, hts⟩ hK (kc_W_characters l D cI cW w r q ) (zz_gV kw_171 kw_172 kw_173 kw_27 kw_174) ⟨rfl, rfl⟩ ⟨rfl, kh_W_characters⟩ ⟨Nat.le_of_ble_eq_true rfl, Nat.le_of_ble_eq_true rfl⟩ (va_recv (q := (kn_W, kf_W, 2)) hK hP rfl (show ([(w, .inr (3, [.ref r, .ref q])), (r, .inr (1, [.ref x, .int (zz_I (((n : Nat) : Int)))])), (x, .inl (cI, 48, .inl (zz_A (g)))), (q, .inr (1, [.ref z, .int (zz_I (((m : Nat) : Int)))])), (z, .inl (cI, 144, .inl (zz_A (h)))), (w2, .inr (3, [.ref r2, .ref q2])), (r2, .inr (1, [.ref x2, .int (zz_I (((n2 : Nat) : Int)))])), (x2, .inl (cI, 48, .inl (zz_A (g2)))), (q2, .inr (1, [.ref z2, .int (zz_I (((m2 : Nat) : Int)))])), (z2, .inl (cI, 144, .inl (zz_A (h2))))] : va_W)[0]? = some _ from rfl)) (hP.sub (ws' := [(w, .inr (3, [.ref r, .ref q]))]) [0] rfl) rfl hl.1 rfl (Nat.le_of_ble_eq_true rfl) kd_D_likeness_21 ⟨Nat.le_of_ble_eq_true rfl, Nat.le_of_ble_eq_true rfl⟩ ?_
      refine zz_pS ⟨hx, hb, hml, hown, hts⟩ hK (kc_J_commonSet l D cI cW r x n 48 g (by omega) (by omega) (by assumption) rfl) (zz_gS kw_175 kw_176 kw_38 kw_177) ⟨rfl, rfl⟩ kh_J_commonSet ⟨Nat.le_of_ble_eq_true rfl, Nat.le_of_ble_eq_true rfl⟩  (hP.sub (ws' := [(r, .inr (1, [.ref x, .int (zz_I (((n : Nat) : Int)))])), (x, .inl (cI, 48, .inl (zz_A (g))))]) [1, 2] rfl) rfl hl.1 rfl (Nat.le_of_ble_eq_true rfl) kd_D_likeness_24 ⟨Nat.le_of_ble_eq_true rfl, Nat.le_of_ble_eq_true rfl⟩ ?_
      refine lv_istore_n hx hb kd_D_likeness_27 rfl hl (by decide) rfl (fun ls hl => ?_)
      have hl : lv_has ls 4 [(2, .int (zz_I (((ck_com g n : Nat) : Int)))), (0, .ref w), (1, .ref w2)] := hl
      refine lv_aload_n hx hb kd_D_likeness_28 rfl (lv_at hl 2 rfl) ?_
      refine zz_pV ⟨hx, hb, hml, hown, hts⟩ hK (kc_W_characters l D cI cW w2 r2 q2 ) (zz_gV kw_171 kw_172 kw_173 kw_27 kw_174) ⟨rfl, rfl⟩ ⟨rfl, kh_W_characters⟩ ⟨Nat.le_of_ble_eq_true rfl, Nat.le_of_ble_eq_true rfl⟩ (va_recv (q := (kn_W, kf_W, 2)) hK hP rfl (show ([(w, .inr (3, [.ref r, .ref q])), (r, .inr (1, [.ref x, .int (zz_I (((n : Nat) : Int)))])), (x, .inl (cI, 48, .inl (zz_A (g)))), (q, .inr (1, [.ref z, .int (zz_I (((m : Nat) : Int)))])), (z, .inl (cI, 144, .inl (zz_A (h)))), (w2, .inr (3, [.ref r2, .ref q2])), (r2, .inr (1, [.ref x2, .int (zz_I (((n2 : Nat) : Int)))])), (x2, .inl (cI, 48, .inl (zz_A (g2)))), (q2, .inr (1, [.ref z2, .int (zz_I (((m2 : Nat) : Int)))])), (z2, .inl (cI, 144, .inl (zz_A (h2))))] : va_W)[5]? = some _ from rfl)) (hP.sub (ws' := [(w2, .inr (3, [.ref r2, .ref q2]))]) [5] rfl) rfl hl.1 rfl (Nat.le_of_ble_eq_true rfl) kd_D_likeness_29 ⟨Nat.le_of_ble_eq_true rfl, Nat.le_of_ble_eq_true rfl⟩ ?_
      refine zz_pS ⟨hx, hb, hml, hown, hts⟩ hK (kc_J_commonSet l D cI cW r2 x2 n2 48 g2 (by omega) (by omega) (by assumption) rfl) (zz_gS kw_175 kw_176 kw_38 kw_177) ⟨rfl, rfl⟩ kh_J_commonSet ⟨Nat.le_of_ble_eq_true rfl, Nat.le_of_ble_eq_true rfl⟩  (hP.sub (ws' := [(r2, .inr (1, [.ref x2, .int (zz_I (((n2 : Nat) : Int)))])), (x2, .inl (cI, 48, .inl (zz_A (g2))))]) [6, 7] rfl) rfl hl.1 rfl (Nat.le_of_ble_eq_true rfl) kd_D_likeness_32 ⟨Nat.le_of_ble_eq_true rfl, Nat.le_of_ble_eq_true rfl⟩ ?_
      refine lv_istore_n hx hb kd_D_likeness_35 rfl hl (by decide) rfl (fun ls hl => ?_)
      have hl : lv_has ls 4 [(3, .int (zz_I (((ck_com g2 n2 : Nat) : Int)))), (2, .int (zz_I (((ck_com g n : Nat) : Int)))), (0, .ref w), (1, .ref w2)] := hl
      refine lv_iload_n hx hb kd_D_likeness_36 rfl (lv_at hl 1 rfl) ?_
      refine lv_iload_n hx hb kd_D_likeness_37 rfl (lv_at hl 0 rfl) ?_
      refine zz_iand (x := ck_com g n) (y := ck_com g2 n2) hx hb (v := (((ck_com g n) &&& (ck_com g2 n2) : Nat) : Int)) (rfl) kd_D_likeness_38 ?_
      refine zz_if_eq (tgt := 44) hx hb kd_D_likeness_39 (by decide) (by have := ck_and_lt (y := ck_com g2 n2) (ck_com_lt g n); omega) (fun hbr39 => ?_) (fun hbr39 => ?_)
      · refine lv_iload_n hx hb kd_D_likeness_44 rfl (lv_at hl 1 rfl) ?_
        refine zz_if_eq (tgt := 52) hx hb kd_D_likeness_45 (by decide) (by have := ck_com_lt g n; omega) (fun hbr45 => ?_) (fun hbr45 => ?_)
        · refine zz_iconst hx hb (v := 2) (rfl) kd_D_likeness_52 ?_
          refine lv_goto (tgt := 57) hx hb kd_D_likeness_53 (by decide) ?_
          exact W.iret hx hb hr (zz_endp (by rw [ck_lkn_v (of_decide_eq_false (by assumption)) (by assumption)]; unfold ck_al; (repeat' split) <;> omega)) (fun _ h => nomatch h) kd_D_likeness_57
        · refine lv_iload_n hx hb kd_D_likeness_48 rfl (lv_at hl 0 rfl) ?_
          refine zz_if_ne (tgt := 56) hx hb kd_D_likeness_49 (by decide) (by have := ck_com_lt g2 n2; omega) (fun hbr49 => ?_) (fun hbr49 => ?_)
          · refine zz_iconst hx hb (v := 3) (rfl) kd_D_likeness_56 ?_
            exact W.iret hx hb hr (zz_endp (by rw [ck_lkn_v (of_decide_eq_false (by assumption)) (by assumption)]; unfold ck_al; (repeat' split) <;> omega)) (fun _ h => nomatch h) kd_D_likeness_57
          · refine zz_iconst hx hb (v := 2) (rfl) kd_D_likeness_52 ?_
            refine lv_goto (tgt := 57) hx hb kd_D_likeness_53 (by decide) ?_
            exact W.iret hx hb hr (zz_endp (by rw [ck_lkn_v (of_decide_eq_false (by assumption)) (by assumption)]; unfold ck_al; (repeat' split) <;> omega)) (fun _ h => nomatch h) kd_D_likeness_57
      · refine zz_iconst hx hb (v := 1) (rfl) kd_D_likeness_42 ?_
        exact W.iret hx hb hr (zz_endp (by rw [ck_lkn_v (of_decide_eq_false (by assumption)) (by assumption)]; unfold ck_al; (repeat' split) <;> omega)) (fun _ h => nomatch h) kd_D_likeness_43
    · refine zz_iconst hx hb (v := -1) (rfl) kd_D_likeness_18 ?_
      exact W.iret hx hb hr (zz_endp (by unfold ck_lkn; rw [if_neg (of_decide_eq_false (by assumption)), if_pos (by assumption)])) (fun _ h => nomatch h) kd_D_likeness_19
  · refine zz_iconst hx hb (v := 0) (rfl) kd_D_likeness_8 ?_
    exact W.iret hx hb hr (zz_endp (by unfold ck_lkn; rw [if_pos (of_decide_eq_true (by assumption))])) (fun _ h => nomatch h) kd_D_likeness_9
