/-! Constructors, with exact places: a cell is made at the heap's size. -/
def zz_C (D : va_G) (cI cW : ClassId) (sz a : Nat) (Pic : Heap → Prop) : State → Prop := fun U => U.heap.size = sz ∧ a < sz ∧ Pic U.heap ∧ zz_K D cI cW U ∧ va_AO kn_W U
def zz_Qc (sz k a : Nat) (Pic : Heap → Prop) : Array Value → State → Outcome → State → Prop := fun _ st oc t => oc = .returned none ∧ t.heap.size = sz + k ∧ Pic t.heap ∧ ∀ q : Nat, q < sz → ¬ q = a → t.heap[q]? = st.heap[q]?
def zz_Fc (sz a : Nat) : Nat → Prop := fun q => q = a ∨ sz ≤ q
theorem zz_blindC {av : List Value} {D : va_G} {cI cW : ClassId} {sz a : Nat} {Pic : Heap → Prop} : FrameBlind (va_Pc av (zz_C D cI cW sz a Pic)) := fun x U g mk q => ⟨q.1, q.2.1, q.2.2.1, q.2.2.2.1, va_K.moved (u := U) (U := U.calling g mk x) (Vm.Alike.refl U.vm) q.2.2.2.2.1, va_AO.moved (u := U) (U := U.calling g mk x) (Vm.Alike.refl U.vm) q.2.2.2.2.2⟩
theorem zz_preC {s : State} {H : Heap} {av : List Value} {D : va_G} {cI cW : ClassId} {h b : Nat} {Pic : Heap → Prop} (hK : zz_K D cI cW s) (hAO : va_AO kn_W s) (hh : H.size = h) (hb : b < h) (hPic : Pic H) : PreS s H (va_Pc av (zz_C D cI cW h b Pic)) av := ⟨zz_blindC, fun U hU hW => ⟨rfl, by rw [hU]; exact hh, hb, by rw [hU]; exact hPic, va_K.moved hW.alike hK, va_AO.moved hW.alike hAO⟩⟩
theorem zz_D1 {sz a : Nat} {e : va_E} : va_D (zz_Fc sz a) [(a, e)] := by
  have one : ∀ (k : Nat) (q : Nat × va_E), [(a, e)][k]? = some q → k = 0 ∧ q = (a, e) := by
    intro k q hk
    cases k with
    | zero => exact ⟨rfl, (Option.some.inj hk).symm⟩
    | succ k => cases hk
  refine ⟨fun i j x y hi hj _ => ?_, fun k q hk => ?_⟩
  · rw [(one i x hi).1, (one j y hj).1]
  · rw [(one k q hk).2]
    exact Or.inl rfl
theorem zz_backc {A0 : Nat → Prop} {D : va_G} {ws news : va_W} {H H1 : Heap} {b : Nat} {e0 e1 : va_E} (hP : va_P D kcl ws H) (hD : va_D A0 ws) (i : Nat) (hi : ws[i]? = some (b, e0)) (hPw : va_P D kcl ((b, e1) :: news) H1) (hk : ∀ q : Nat, q < H.size → ¬ q = b → H1[q]? = H[q]?) (hnew : va_D (fun q => H.size ≤ q ∧ A0 q) news) : va_P D kcl (ws.set i (b, e1) ++ news) H1 ∧ va_D A0 (ws.set i (b, e1) ++ news) := by
  have hl := (List.getElem?_eq_some_iff.mp hi).1
  have old : ∀ (k : Nat) (q : Nat × va_E), (ws.set i (b, e1))[k]? = some q → q.1 < H.size := by
    intro k q hk2
    by_cases e : k = i
    · subst e
      rw [List.getElem?_set_self hl] at hk2
      cases hk2
      exact (hP k _ hi).lt
    · rw [List.getElem?_set_ne (Ne.symm e)] at hk2
      exact (hP k q hk2).lt
  refine ⟨va_P.app (fun k q hq => ?_) (fun k q hq => hPw (k + 1) q hq), va_D.app (hD.set hi) ⟨hnew.1, fun k q hq => (hnew.2 k q hq).2⟩ (fun x y p q hx hy e => ?_)⟩
  · by_cases e : k = i
    · subst e
      rw [List.getElem?_set_self hl] at hq
      cases hq
      exact hPw 0 _ rfl
    · rw [List.getElem?_set_ne (Ne.symm e)] at hq
      exact (hP k q hq).kept (hk q.1 (hP k q hq).lt (fun z => e (hD.1 k i q (b, e0) hq hi z)))
  · have h1 := old x p hx
    have h2 := (hnew.2 y q hy).1
    omega
section ZK
variable {p : Program} {l : Launch} {e : Env} {R : Room} {s : State} {m : MethodId} {args : Array Value} {below : List Frame} {meth : Method} {c : Code} {H : Heap} {locs : List Loc} {cells slots : Nat} {Q : State → Prop}
variable {cc : ByteArray} {pc : Nat} {ls : Array Slot} {rest st0 : List Value} {D : va_G} {cl : List vw_C} {A : Nat → Prop} {tys : List (ClassId × FieldType)} {ws : va_W} {H0 : Heap} {cI cW : ClassId} {h : Nat}
theorem zz_newo (hexec : p.tables.exec = Jvm.exec) (hb : c.code = cc) {own C : String} {T : u_T} {N ci index : Nat} {Ts : List Cond} (hts : ∀ w ∈ Ts, w.before args s = true) (hin : ∀ w ∈ u_ws C T N, w ∈ Ts) (ty : Nat → FieldType) (hty : ∀ k, k < N → parseFieldDescriptor (T k).2.2.1 = some (ty k)) (hown : s.vm.findClass own = some m.cls) (hcl : (Cond.classLink own index C).before args s = true) (hinst : (Cond.instantiable C N).before args s = true) (hini : (Cond.initialized C).before args s = true)
    (hK : va_K D cl tys s) (hP : va_P D cl ws H) (hD : va_D A ws) (hS : va_S A H0 H locs) (hh : H.size = h) (hA : A h) (hc : cl[ci]? = some (C, T, N)) {fs : List Value} (hfs : ∀ j, j < N → defaultValue (ty j) = vp_V fs j) (hcells : cells + 1 ≤ R.cells) (hslots : slots + N ≤ R.slots) (hdg : decode cc pc = .ok (.new index, 3))
    (kk : ∀ H1 : Heap, H1.size = h + 1 → va_P D cl (ws ++ [(h, .inr (ci, fs))]) H1 → va_D A (ws ++ [(h, .inr (ci, fs))]) → va_S A H0 H1 locs → W p l e R s m args below meth c H1 locs (cells + 1) (slots + N) Q (F0 m (pc + 3) ls (.ref h :: rest))) : W p l e R s m args below meth c H locs cells slots Q (F0 m pc ls rest) := by
  have hKn := hK.1 ci _ hc
  refine W.newcK hexec hb hown hcl hinst hini rfl hdg hcells hslots hKn.2.1 hh fun H1 kC hkC e1 z1 o1 => ?_
  have hk : ∀ (k : Nat) (x : Nat × va_E), ws[k]? = some x → H1[x.1]? = H[x.1]? := fun k x hx => o1 x.1 (by rw [← hh]; exact (hP k x hx).lt)
  refine kk H1 z1 ((hP.kept hk).app (fun k x hx => ?_)) (hD.push hP hh.symm hA) ⟨Nat.le_trans hS.1 (by omega), fun x h1 h2 => (o1 x (by have := hS.1; omega)).trans (hS.2.1 x h1 h2), hS.2.2⟩
  have hz : k < 1 := (List.getElem?_eq_some_iff.mp hx).1
  rw [show k = 0 by omega] at hx
  cases hx
  exact ⟨_, hc, (u_born ty hts hin hKn hkC e1 hty).to hfs⟩
theorem zz_newi (hexec : p.tables.exec = Jvm.exec) (hb : c.code = cc) (harr : (Cond.arrayClass .int).before args s = true) (hK : va_K D cl tys s) (t0 : Nat) (ht : tys[t0]? = some (cI, .int)) (hP : va_P D cl ws H) (hD : va_D A ws) (hS : va_S A H0 H locs) (hh : H.size = h) (hA : A h) {N : Nat} (hN : N ≤ 100000) (hcells : cells + 1 ≤ R.cells) (hslots : slots + N ≤ R.slots) (hdg : decode cc pc = .ok (.newarray .int, 2))
    (kk : ∀ H1 : Heap, H1.size = h + 1 → va_P D cl (ws ++ [(h, .inl (cI, N, .inl (zz_A ck_z)))]) H1 → va_D A (ws ++ [(h, .inl (cI, N, .inl (zz_A ck_z)))]) → va_S A H0 H1 locs → W p l e R s m args below meth c H1 locs (cells + 1) (slots + N) Q (F0 m (pc + 2) ls (.ref h :: rest))) : W p l e R s m args below meth c H locs cells slots Q (F0 m pc ls (.int (zz_I (N : Nat)) :: rest)) := by
  have hcl := zz_cl (z := (N : Nat)) (by omega)
  refine va_newaK (atype := .int) hexec hb harr rfl hdg rfl (fun q => ?_) (N := N) (by rw [hcl]; omega) (by show N * 4 ≤ 536870912; omega) hcells hslots hh fun H1 cA e1 z1 o1 hAr hNm => ?_
  · have := (zz_lt (a := (N : Nat)) (b := 0) (by omega)).mp q
    omega
  · have hc2 : s.vm.findClass ("[" ++ FieldType.int.toString) = some cI := (hK.2 t0 _ ht).2
    have ec : cA = cI := Option.some.inj (hNm.symm.trans hc2)
    subst ec
    have hk : ∀ (k : Nat) (x : Nat × va_E), ws[k]? = some x → H1[x.1]? = H[x.1]? := fun k x hx => o1 x.1 (by rw [← hh]; exact (hP k x hx).lt)
    refine kk H1 z1 ((hP.kept hk).app (fun k x hx => ?_)) (hD.push hP hh.symm hA) ⟨Nat.le_trans hS.1 (by omega), fun x h1 h2 => (o1 x (by have := hS.1; omega)).trans (hS.2.1 x h1 h2), hS.2.2⟩
    have hz : k < 1 := (List.getElem?_eq_some_iff.mp hx).1
    rw [show k = 0 by omega] at hx
    cases hx
    show H1[h]? = some (vp_cell _ _)
    rw [vp_cell_i]
    exact e1
theorem zz_endc {sz k a : Nat} {Pic : Heap → Prop} (hsz : s.heap.size = sz) (hZ : H.size = sz + k) (hP : Pic H) (hS : va_S (zz_Fc sz a) s.heap H locs) : ∀ t : State, t.heap = H → s.WarmedH t.vm → zz_Qc sz k a Pic args s (.returned none) t := fun t ht _ => ⟨rfl, by rw [ht]; exact hZ, by rw [ht]; exact hP, fun q h1 h2 => by rw [ht]; exact hS.2.1 q (by rw [hsz]; exact h1) (fun z => by rcases z with z | z; exact h2 z; omega)⟩
variable {y : MethodName} {bytes : ByteArray} {maxL nL index n mc ms k : Nat} {rm : Room} {Pic : Heap → Prop} {own : String} {b : Nat} {As : List Value} {A0 : Nat → Prop}
/-- a call of a constructor on the cell b, which stands at the place i of ours -/
theorem zz_ctor {e0 e1 : va_E} {news : va_W} (Sf : CallFix p m c cc nL s args zz_tbl own) (hK : zz_K D cI cW s) (hAO : va_AO kn_W s) (hM : Met l y (Cond.code y bytes maxL none :: zz_tbl) rm (va_Pc (.ref b :: As) (zz_C D cI cW h b (va_P D kcl [(b, e0)]))) (zz_Qc h k b (va_P D kcl ((b, e1) :: news))) mc ms (zz_Fc h b)) (hrm : rm.cells = mc ∧ rm.slots = ms) (w1 : Cond.methodLink own index y ∈ zz_tbl) (w2 : Cond.instanceMethod y ∈ zz_tbl) (w3 : Cond.initialized y.cls ∈ zz_tbl) (w4 : Cond.code y bytes maxL none ∈ zz_tbl) (hy1 : y.name = "<init>")
    (hd : y.cls ≠ "java/lang/invoke/MethodHandle" ∧ y.cls ≠ "java/lang/invoke/VarHandle" ∧ (parseMethodDescriptor y.desc).map (fun d => d.parameters.length) = some n) (hR : rm.frames + 1 ≤ R.frames ∧ 8 + (maxL + 11) + rm.locals ≤ R.locals)
    (hh : H.size = h) (hbl : b < h) (i : Nat) (hi : ws[i]? = some (b, e0)) (hP : va_P D kcl ws H) (hD : va_D A0 ws) (hS : va_S A0 H0 H locs) (hA : ∀ q, h ≤ q → A0 q) (hnew : va_D (fun q => h ≤ q) news)
    (hn : As.length = n) (hsz : ls.size = nL) (hst : st0 = As.reverse ++ .ref b :: rest) (hcat : (rest.map fun v => v.category).sum ≤ 8) (hdg : decode cc pc = .ok (.invokespecial index, 3)) (hf : cells + mc ≤ R.cells ∧ slots + ms ≤ R.slots)
    (kk : ∀ (H : Heap) (locs : List Loc), H.size = h + k → va_P D kcl (ws.set i (b, e1) ++ news) H → va_D A0 (ws.set i (b, e1) ++ news) → va_S A0 H0 H locs → W p l e R s m args below meth c H locs (cells + mc) (slots + ms) Q (F0 m (pc + 3) ls rest)) : W p l e R s m args below meth c H locs cells slots Q (F0 m pc ls st0) := by
  have ht := Sf.2.2.2.2
  have hFA : ∀ q, zz_Fc h b q → A0 q := fun q z => by
    rcases z with z | z
    · rw [z]; exact hD.2 i _ hi
    · exact hA q z
  have hr := va_runI (H := H) (locs := locs) (cells := cells) (slots := slots) (below := below) (e := e) (meth := meth) (rest := rest) (g := F0 m pc ls st0) Sf hM (cwI n ht (zz_good (X := Cond.code y bytes maxL none :: zz_tbl) (fun w hw => by rcases List.mem_cons.mp hw with q | q; (rw [q]; exact w4); exact q)) rfl hrm.1 hrm.2 (ht _ w3) (ht _ w1) (ht _ w2) hy1 hd hR) (zz_preC (av := .ref b :: As) hK hAO hh hbl (fun k q hk => by cases k with | zero => (cases hk; exact hP i _ hi) | succ k => cases hk)) rfl hn hsz hst (show 2 * 0 + _ ≤ 8 by omega) hdg hf
  intro T hT X
  obtain ⟨v, st₀, t, T', L, g0, X', hL, e1, e2, ⟨hv, hz, hp, hk⟩, st⟩ := hr T hT X
  cases hv
  rw [g0] at hk
  have hk2 : ∀ q : Nat, q < H.size → ¬ q = b → T'.heap[q]? = H[q]? := fun q h1 h2 => by rw [e1]; exact hk q (by rw [← hh]; exact h1) h2
  obtain ⟨hP1, hD1⟩ := zz_backc hP hD i hi (by rw [e1]; exact hp) hk2 ⟨hnew.1, fun k q hq => ⟨by rw [hh]; exact hnew.2 k q hq, hA _ (hnew.2 k q hq)⟩⟩
  obtain ⟨t2, a1, b1⟩ := kk T'.heap (locs ++ L) (by rw [e1]; exact hz) hP1 hD1
    ⟨Nat.le_trans hS.1 (by rw [e1, hz]; omega), fun q h1 h2 => by
      have h3 := hS.1
      rw [hk2 q (by omega) (fun z => h2 (by rw [z]; exact hD.2 i _ hi))]
      exact hS.2.1 q h1 h2, fun q hq => by
      rcases List.mem_append.mp hq with z | z
      · exact hS.2.2 q z
      · exact hFA _ (hL q z)⟩ T' rfl X'
  exact ⟨t2, st t2 a1, b1⟩
end ZK
/-- places one behind the other are apart -/
theorem zz_Dr {h : Nat} {ws : va_W} {js : List Nat} (hn : va_nd js = true) (hj : ws.map (fun q => q.1) = js.map (fun j => h + j)) : va_D (fun q => h ≤ q) ws := by
  have key : ∀ (k : Nat) (q : Nat × va_E), ws[k]? = some q → ∃ j, js[k]? = some j ∧ q.1 = h + j := by
    intro k q hk
    have h1 : (ws.map (fun q => q.1))[k]? = some q.1 := by rw [List.getElem?_map, hk]; rfl
    rw [hj, List.getElem?_map] at h1
    cases hi : js[k]? with
    | none => rw [hi] at h1; cases h1
    | some j => rw [hi] at h1; exact ⟨j, rfl, (Option.some.inj h1).symm⟩
  refine ⟨fun i j x y hi hj2 hxy => ?_, fun k q hk => ?_⟩
  · obtain ⟨a, a1, a2⟩ := key i x hi
    obtain ⟨b, b1, b2⟩ := key j y hj2
    have : a = b := by omega
    subst this
    exact va_nd_inj js hn i j a a1 b1
  · obtain ⟨a, -, a2⟩ := key k q hk
    show h ≤ q.1
    omega
section ZL
variable {p : Program} {l : Launch} {e : Env} {R : Room} {s : State} {m : MethodId} {args : Array Value} {below : List Frame} {meth : Method} {c : Code} {H : Heap} {locs : List Loc} {cells slots : Nat} {Q : State → Prop}
variable {cc : ByteArray} {pc : Nat} {ls : Array Slot} {rest : List Value} {D : va_G} {cl : List vw_C} {A : Nat → Prop} {a : Nat} {tys : List (ClassId × FieldType)} {ws : va_W} {H0 : Heap}
/-- a field written in a constructor: the heap's size stays -/
theorem zz_putZ (hexec : p.tables.exec = Jvm.exec) (hb : c.code = cc) {own ref C : String} {T : u_T} {N ci index : Nat} {Ts : List Cond} (hts : ∀ w ∈ Ts, w.before args s = true) (hin : ∀ w ∈ u_ws C T N, w ∈ Ts) (ty0 : Nat → FieldType) (hty : ∀ k, k < N → parseFieldDescriptor (T k).2.2.1 = some (ty0 k)) (hnm : ∀ a, a < N → ∀ b, b < N → a ≠ b → (T a).2.1 ≠ (T b).2.1) (hown : s.vm.findClass own = some m.cls) (hK : va_K D cl tys s) (hP : va_P D cl ws H) (hD : va_D A ws) (hS0 : va_S A H0 H locs) (q0 : Nat) {fs : List Value} (he : ws[q0]? = some (a, .inr (ci, fs))) (hc : cl[ci]? = some (C, T, N)) (k : Nat) (hk : k < N) (hlink : (Cond.fieldLink own index ref (T k).2.1 (T k).2.2.1).before args s = true) (hsame : ∀ x, s.fieldFound? (T k).1 (T k).2.1 (T k).2.2.1 = some x → s.fieldFound? ref (T k).2.1 (T k).2.2.1 = some x) (hfin : (T k).2.2.2 = false) {ty : FieldType} {v : Value} (hd : parseFieldDescriptor (T k).2.2.1 = some ty) (hn : narrow ty v = v) (hfit : fits ty v = true) (hl : k < fs.length)
    (hdg : decode cc pc = .ok (.putfield index, 3)) (kk : ∀ (H1 : Heap) (locs1 : List Loc), H1.size = H.size → va_P D cl (ws.set q0 (a, .inr (ci, fs.set k v))) H1 → va_D A (ws.set q0 (a, .inr (ci, fs.set k v))) → va_S A H0 H1 locs1 → W p l e R s m args below meth c H1 locs1 cells slots Q (F0 m (pc + 3) ls rest)) : W p l e R s m args below meth c H locs cells slots Q (F0 m pc ls (v :: .ref a :: rest)) := by
  have hap := va_apart (own := own) hts hin ty0 hty hnm hK hc
  obtain ⟨r, h1, cell, q1, q2, q3, q4⟩ := hP q0 _ he
  have hr : r = (C, T, N) := Option.some.inj (h1.symm.trans hc)
  subst hr
  obtain ⟨hS, hfc, kC, hkC, hkind⟩ := hK.1 ci _ hc
  obtain ⟨cf, kf, fi, f, hi, hsl⟩ := hS k hk
  have hlay := hts _ (hin _ (u_in_lay hk))
  unfold u_lay at hlay
  rw [if_neg (by rw [hfin]; decide)] at hlay
  have hst := (u_facts hfc hkC (u_lays hts hin hk) hi).1
  have h6 := u_store hfc hkC hkind hlay hi hd hn hfit
  refine W.putK hexec hb (f := f) ⟨hown, hlink, ⟨_, _, _, hsame _ hi⟩, hst⟩ (by rw [q2]; exact h6) q1 q3 (by rw [hsl]; exact k2_hasslot (q4 k hk)) rfl rfl hdg fun H' e1 e2 e3 => ?_
  rw [hsl] at e1 ⊢
  exact kk H' _ e2 (hP.set hD he ⟨_, hc, t_OB.to (V := updV (vp_V fs) k v) ⟨_, e1, q2, q3, t_set q4 hap hk v⟩ (fun j _ => vp_updV_set hl v j)⟩ e3) (hD.set he) (hS0.put e2 e3 (hD.2 q0 _ he))
theorem zz_putFZ (hexec : p.tables.exec = Jvm.exec) (hb : c.code = cc) {own ref C : String} {T : u_T} {N ci index : Nat} {Ts : List Cond} (hts : ∀ w ∈ Ts, w.before args s = true) (hin : ∀ w ∈ u_ws C T N, w ∈ Ts) (ty0 : Nat → FieldType) (hty : ∀ k, k < N → parseFieldDescriptor (T k).2.2.1 = some (ty0 k)) (hnm : ∀ a, a < N → ∀ b, b < N → a ≠ b → (T a).2.1 ≠ (T b).2.1) (hown : s.vm.findClass own = some m.cls) (hK : va_K D cl tys s) (hP : va_P D cl ws H) (hD : va_D A ws) (hS0 : va_S A H0 H locs) (q0 : Nat) {fs : List Value} (he : ws[q0]? = some (a, .inr (ci, fs))) (hc : cl[ci]? = some (C, T, N)) (k : Nat) (hk : k < N) (hlink : (Cond.fieldLink own index ref (T k).2.1 (T k).2.2.1).before args s = true) (hsame : ∀ x, s.fieldFound? (T k).1 (T k).2.1 (T k).2.2.1 = some x → s.fieldFound? ref (T k).2.1 (T k).2.2.1 = some x) (hfin : (T k).2.2.2 = true) (hin2 : meth.name = "<init>") (hdecl : (T k).1 = own) {ty : FieldType} {v : Value} (hd : parseFieldDescriptor (T k).2.2.1 = some ty) (hn : narrow ty v = v) (hfit : fits ty v = true) (hl : k < fs.length)
    (hdg : decode cc pc = .ok (.putfield index, 3)) (kk : ∀ (H1 : Heap) (locs1 : List Loc), H1.size = H.size → va_P D cl (ws.set q0 (a, .inr (ci, fs.set k v))) H1 → va_D A (ws.set q0 (a, .inr (ci, fs.set k v))) → va_S A H0 H1 locs1 → W p l e R s m args below meth c H1 locs1 cells slots Q (F0 m (pc + 3) ls rest)) : W p l e R s m args below meth c H locs cells slots Q (F0 m pc ls (v :: .ref a :: rest)) := by
  have hap := va_apart (own := own) hts hin ty0 hty hnm hK hc
  obtain ⟨r, h1, cell, q1, q2, q3, q4⟩ := hP q0 _ he
  have hr : r = (C, T, N) := Option.some.inj (h1.symm.trans hc)
  subst hr
  obtain ⟨hS, hfc, kC, hkC, hkind⟩ := hK.1 ci _ hc
  obtain ⟨cf, kf, fi, f, hi, hsl⟩ := hS k hk
  have hlay := hts _ (hin _ (u_in_lay hk))
  unfold u_lay at hlay
  rw [if_pos hfin] at hlay
  have hst := (u_facts hfc hkC (u_lays hts hin hk) hi).1
  have hcf : m.cls = cf := by
    obtain ⟨_, _, c', _, _, _, -, -, hf', -, -, -, hown2, -⟩ := Cond.laysFinal_spec hlay
    have e1 : c' = cf := by have := hi.symm.trans hf'; simp at this; exact this.1.symm
    rw [hdecl] at hown2
    rw [← e1]; exact Option.some.inj (hown.symm.trans hown2)
  have h6 := u_fits hfc hkC hkind (Or.inr hlay) hi hd hn hfit
  refine W.putFinK hexec hb hown hlink (hsame _ hi) hst hcf hin2 (by rw [q2]; exact h6) q1 q3 (by rw [hsl]; exact k2_hasslot (q4 k hk)) rfl rfl hdg fun H' e1 e2 e3 => ?_
  rw [hsl] at e1 ⊢
  exact kk H' _ e2 (hP.set hD he ⟨_, hc, t_OB.to (V := updV (vp_V fs) k v) ⟨_, e1, q2, q3, t_set q4 hap hk v⟩ (fun j _ => vp_updV_set hl v j)⟩ e3) (hD.set he) (hS0.put e2 e3 (hD.2 q0 _ he))
end ZL
