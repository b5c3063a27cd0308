/-! The rows of the walk said of Int: an int of the machine is zz_I z, z an Int; adding, subtracting and multiplying need no bound, comparing needs both in range. -/
def zz_I (z : Int) : Int32 := Int32.ofInt z
def zz_A (g : Nat → Int) : Nat → Int32 := fun k => zz_I (g k)
def zz_u (g : Nat → Int) (k : Nat) (z : Int) : Nat → Int := fun j => if j = k then z else g j
def zz_b (b : Bool) : Int := if b then 1 else 0
theorem zz_add (a b : Int) : zz_I a + zz_I b = zz_I (a + b) := (Int32.ofInt_add a b).symm
theorem zz_sub (a b : Int) : zz_I a - zz_I b = zz_I (a - b) := (Int32.ofInt_sub a b).symm
theorem zz_mul (a b : Int) : zz_I a * zz_I b = zz_I (a * b) := (Int32.ofInt_mul a b).symm
theorem zz_T {z : Int} (h : -2147483648 ≤ z ∧ z ≤ 2147483647) : (zz_I z).toInt = z := Int32.toInt_ofInt_of_le (by omega) (by omega)
theorem zz_of (x : Int32) : zz_I x.toInt = x := Int32.ofInt_toInt x
theorem zz_rg (x : Int32) : -2147483648 ≤ x.toInt ∧ x.toInt ≤ 2147483647 := by
  have h1 := Int32.le_toInt x
  have h2 := Int32.toInt_lt x
  omega
theorem zz_nI (n : Nat) : zz_I (n : Int) = nI n := Int32.ofInt_eq_ofNat
theorem zz_cl {z : Int} (h : -2147483648 ≤ z ∧ z ≤ 2147483647) : (zz_I z).toNatClampNeg = z.toNat := Int32.toNatClampNeg_ofInt_of_le (by omega) (by omega)
theorem zz_lt {a b : Int} (h : -2147483648 ≤ a ∧ a ≤ 2147483647 ∧ -2147483648 ≤ b ∧ b ≤ 2147483647) : zz_I a < zz_I b ↔ a < b := by
  rw [Int32.lt_iff_toInt_lt, zz_T ⟨h.1, h.2.1⟩, zz_T h.2.2]
theorem zz_le {a b : Int} (h : -2147483648 ≤ a ∧ a ≤ 2147483647 ∧ -2147483648 ≤ b ∧ b ≤ 2147483647) : zz_I a ≤ zz_I b ↔ a ≤ b := by
  rw [Int32.le_iff_toInt_le, zz_T ⟨h.1, h.2.1⟩, zz_T h.2.2]
theorem zz_eq {a b : Int} (h : -2147483648 ≤ a ∧ a ≤ 2147483647 ∧ -2147483648 ≤ b ∧ b ≤ 2147483647) : zz_I a = zz_I b ↔ a = b := by
  rw [← Int32.toInt_inj, zz_T ⟨h.1, h.2.1⟩, zz_T h.2.2]
theorem zz_0 : (0 : Int32) = zz_I 0 := rfl
theorem zz_in {z : Int} {n : Nat} (h : 0 ≤ z ∧ z < n ∧ z ≤ 2147483647) : vp_in (zz_I z) n := by
  rw [vp_in_iff, zz_T (by omega)]
  omega
theorem zz_upd (g : Nat → Int) (k : Nat) (z : Int) : upd (zz_A g) k (zz_I z) = zz_A (zz_u g k z) := by
  funext j
  by_cases h : j = k
  · simp [upd, zz_A, zz_u, h]
  · simp [upd, zz_A, zz_u, h]
theorem zz_us {g : Nat → Int} {k : Nat} {z : Int} : zz_u g k z k = z := by simp [zz_u]
theorem zz_un {g : Nat → Int} {k j : Nat} {z : Int} (h : j ≠ k) : zz_u g k z j = g j := by simp [zz_u, h]
theorem zz_bT {b : Bool} : zz_b b = 0 ↔ b = false := by cases b <;> simp [zz_b]
theorem zz_bR (b : Bool) : 0 ≤ zz_b b ∧ zz_b b ≤ 1 := by cases b <;> simp [zz_b]
theorem zz_div {a b : Int} (h : 0 ≤ a ∧ a ≤ 2147483647 ∧ 0 < b ∧ b ≤ 2147483647) : zz_I a / zz_I b = zz_I (a / b) := by
  have h1 : (zz_I a / zz_I b).toInt = a / b := by
    rw [Int32.toInt_div_of_ne_right _ _ (by
      intro q
      have q1 : (zz_I b).toInt = (-1 : Int32).toInt := by rw [q]
      rw [zz_T (by omega)] at q1
      have q2 : (-1 : Int32).toInt = -1 := by decide
      omega), zz_T (by omega), zz_T (by omega), Int.tdiv_eq_ediv_of_nonneg (by omega)]
  rw [← zz_of (zz_I a / zz_I b), h1]
theorem zz_rem {a b : Int} (h : 0 ≤ a ∧ a ≤ 2147483647 ∧ 0 < b ∧ b ≤ 2147483647) : zz_I a - zz_I a / zz_I b * zz_I b = zz_I (a % b) := by
  rw [zz_div h, zz_mul, zz_sub]
  congr 1
  have := Int.mul_ediv_add_emod a b
  have h2 : a / b * b = b * (a / b) := Int.mul_comm _ _
  omega
section ZZ
variable {p : Program} {l : Launch} {e : Env} {R : Room} {s : State} {m : MethodId} {args : Array Value} {below : List Frame} {meth : Method} {c : Code} {H : Heap} {locs : List Loc} {cells slots : Nat} {Q : State → Prop}
variable {cc : ByteArray} {pc : Nat} {ls : Array Slot} {rest : List Value} {D : va_G} {cl : List vw_C} {A : Nat → Prop} {a : Nat} {tys : List (ClassId × FieldType)} {ws : va_W} {H0 : Heap}
theorem zz_iadd (hexec : p.tables.exec = Jvm.exec) (hb : c.code = cc) {x y v : Int} (hv : x + y = v) (hdg : decode cc pc = .ok (.iadd, 1))
    (k : W p l e R s m args below meth c H locs cells slots Q (F0 m (pc + 1) ls (.int (zz_I v) :: rest))) : W p l e R s m args below meth c H locs cells slots Q (F0 m pc ls (.int (zz_I y) :: .int (zz_I x) :: rest)) :=
  lv_iadd hexec hb hdg (by rw [zz_add, hv]; exact k)
theorem zz_isub (hexec : p.tables.exec = Jvm.exec) (hb : c.code = cc) {x y v : Int} (hv : x - y = v) (hdg : decode cc pc = .ok (.isub, 1))
    (k : W p l e R s m args below meth c H locs cells slots Q (F0 m (pc + 1) ls (.int (zz_I v) :: rest))) : W p l e R s m args below meth c H locs cells slots Q (F0 m pc ls (.int (zz_I y) :: .int (zz_I x) :: rest)) :=
  lv_isub hexec hb hdg (by rw [zz_sub, hv]; exact k)
theorem zz_imul (hexec : p.tables.exec = Jvm.exec) (hb : c.code = cc) {x y v : Int} (hv : x * y = v) (hdg : decode cc pc = .ok (.imul, 1))
    (k : W p l e R s m args below meth c H locs cells slots Q (F0 m (pc + 1) ls (.int (zz_I v) :: rest))) : W p l e R s m args below meth c H locs cells slots Q (F0 m pc ls (.int (zz_I y) :: .int (zz_I x) :: rest)) :=
  lv_imul hexec hb hdg (by rw [zz_mul, hv]; exact k)
theorem zz_iconst (hexec : p.tables.exec = Jvm.exec) (hb : c.code = cc) {n v : Int} (hv : n = v) (hdg : decode cc pc = .ok (.iconst n, 1))
    (k : W p l e R s m args below meth c H locs cells slots Q (F0 m (pc + 1) ls (.int (zz_I v) :: rest))) : W p l e R s m args below meth c H locs cells slots Q (F0 m pc ls rest) :=
  lv_iconst hexec hb hdg (by rw [hv]; rfl) k
theorem zz_bipush (hexec : p.tables.exec = Jvm.exec) (hb : c.code = cc) {n : Int} (hdg : decode cc pc = .ok (.bipush n, 2)) (hv : (Int8.ofInt n).toInt32 = zz_I n)
    (k : W p l e R s m args below meth c H locs cells slots Q (F0 m (pc + 2) ls (.int (zz_I n) :: rest))) : W p l e R s m args below meth c H locs cells slots Q (F0 m pc ls rest) :=
  lv_bipush hexec hb hdg hv k
theorem zz_sipush (hexec : p.tables.exec = Jvm.exec) (hb : c.code = cc) {n : Int} (hdg : decode cc pc = .ok (.sipush n, 3)) (hv : (Int16.ofInt n).toInt32 = zz_I n)
    (k : W p l e R s m args below meth c H locs cells slots Q (F0 m (pc + 3) ls (.int (zz_I n) :: rest))) : W p l e R s m args below meth c H locs cells slots Q (F0 m pc ls rest) :=
  lv_sipush hexec hb hdg hv k
theorem zz_icmp_eq (hexec : p.tables.exec = Jvm.exec) (hb : c.code = cc) {x y : Int} {off : Int} {tgt : Nat} (hdg : decode cc pc = .ok (.if_icmp .eq off, 3)) (ht : (pc : Int) + off = (tgt : Int)) (hr : -2147483648 ≤ x ∧ x ≤ 2147483647 ∧ -2147483648 ≤ y ∧ y ≤ 2147483647)
    (kt : x = y → W p l e R s m args below meth c H locs cells slots Q (F0 m tgt ls rest)) (kf : ¬ x = y → W p l e R s m args below meth c H locs cells slots Q (F0 m (pc + 3) ls rest)) : W p l e R s m args below meth c H locs cells slots Q (F0 m pc ls (.int (zz_I y) :: .int (zz_I x) :: rest)) :=
  lv_icmp_eq hexec hb hdg ht (fun h => kt ((zz_eq hr).mp h)) (fun h => kf (fun q => h ((zz_eq hr).mpr q)))
theorem zz_icmp_ne (hexec : p.tables.exec = Jvm.exec) (hb : c.code = cc) {x y : Int} {off : Int} {tgt : Nat} (hdg : decode cc pc = .ok (.if_icmp .ne off, 3)) (ht : (pc : Int) + off = (tgt : Int)) (hr : -2147483648 ≤ x ∧ x ≤ 2147483647 ∧ -2147483648 ≤ y ∧ y ≤ 2147483647)
    (kt : ¬ x = y → W p l e R s m args below meth c H locs cells slots Q (F0 m tgt ls rest)) (kf : x = y → W p l e R s m args below meth c H locs cells slots Q (F0 m (pc + 3) ls rest)) : W p l e R s m args below meth c H locs cells slots Q (F0 m pc ls (.int (zz_I y) :: .int (zz_I x) :: rest)) :=
  lv_icmp_ne hexec hb hdg ht (fun h => kt (fun q => h ((zz_eq hr).mpr q))) (fun h => kf ((zz_eq hr).mp h))
theorem zz_icmp_lt (hexec : p.tables.exec = Jvm.exec) (hb : c.code = cc) {x y : Int} {off : Int} {tgt : Nat} (hdg : decode cc pc = .ok (.if_icmp .lt off, 3)) (ht : (pc : Int) + off = (tgt : Int)) (hr : -2147483648 ≤ x ∧ x ≤ 2147483647 ∧ -2147483648 ≤ y ∧ y ≤ 2147483647)
    (kt : x < y → W p l e R s m args below meth c H locs cells slots Q (F0 m tgt ls rest)) (kf : y ≤ x → W p l e R s m args below meth c H locs cells slots Q (F0 m (pc + 3) ls rest)) : W p l e R s m args below meth c H locs cells slots Q (F0 m pc ls (.int (zz_I y) :: .int (zz_I x) :: rest)) :=
  lv_icmp_lt hexec hb hdg ht (fun h => kt ((zz_lt hr).mp h)) (fun h => kf (Int.not_lt.mp (fun q => h ((zz_lt hr).mpr q))))
theorem zz_icmp_ge (hexec : p.tables.exec = Jvm.exec) (hb : c.code = cc) {x y : Int} {off : Int} {tgt : Nat} (hdg : decode cc pc = .ok (.if_icmp .ge off, 3)) (ht : (pc : Int) + off = (tgt : Int)) (hr : -2147483648 ≤ x ∧ x ≤ 2147483647 ∧ -2147483648 ≤ y ∧ y ≤ 2147483647)
    (kt : y ≤ x → W p l e R s m args below meth c H locs cells slots Q (F0 m tgt ls rest)) (kf : x < y → W p l e R s m args below meth c H locs cells slots Q (F0 m (pc + 3) ls rest)) : W p l e R s m args below meth c H locs cells slots Q (F0 m pc ls (.int (zz_I y) :: .int (zz_I x) :: rest)) :=
  lv_icmp_ge hexec hb hdg ht (fun h => kt ((zz_le ⟨hr.2.2.1, hr.2.2.2, hr.1, hr.2.1⟩).mp h)) (fun h => kf (Int.not_le.mp (fun q => h ((zz_le ⟨hr.2.2.1, hr.2.2.2, hr.1, hr.2.1⟩).mpr q))))
theorem zz_icmp_gt (hexec : p.tables.exec = Jvm.exec) (hb : c.code = cc) {x y : Int} {off : Int} {tgt : Nat} (hdg : decode cc pc = .ok (.if_icmp .gt off, 3)) (ht : (pc : Int) + off = (tgt : Int)) (hr : -2147483648 ≤ x ∧ x ≤ 2147483647 ∧ -2147483648 ≤ y ∧ y ≤ 2147483647)
    (kt : y < x → W p l e R s m args below meth c H locs cells slots Q (F0 m tgt ls rest)) (kf : x ≤ y → W p l e R s m args below meth c H locs cells slots Q (F0 m (pc + 3) ls rest)) : W p l e R s m args below meth c H locs cells slots Q (F0 m pc ls (.int (zz_I y) :: .int (zz_I x) :: rest)) :=
  lv_icmp_gt hexec hb hdg ht (fun h => kt ((zz_lt ⟨hr.2.2.1, hr.2.2.2, hr.1, hr.2.1⟩).mp h)) (fun h => kf (Int.not_lt.mp (fun q => h ((zz_lt ⟨hr.2.2.1, hr.2.2.2, hr.1, hr.2.1⟩).mpr q))))
theorem zz_icmp_le (hexec : p.tables.exec = Jvm.exec) (hb : c.code = cc) {x y : Int} {off : Int} {tgt : Nat} (hdg : decode cc pc = .ok (.if_icmp .le off, 3)) (ht : (pc : Int) + off = (tgt : Int)) (hr : -2147483648 ≤ x ∧ x ≤ 2147483647 ∧ -2147483648 ≤ y ∧ y ≤ 2147483647)
    (kt : x ≤ y → W p l e R s m args below meth c H locs cells slots Q (F0 m tgt ls rest)) (kf : y < x → W p l e R s m args below meth c H locs cells slots Q (F0 m (pc + 3) ls rest)) : W p l e R s m args below meth c H locs cells slots Q (F0 m pc ls (.int (zz_I y) :: .int (zz_I x) :: rest)) :=
  lv_icmp_le hexec hb hdg ht (fun h => kt ((zz_le hr).mp h)) (fun h => kf (Int.not_le.mp (fun q => h ((zz_le hr).mpr q))))
theorem zz_if_eq (hexec : p.tables.exec = Jvm.exec) (hb : c.code = cc) {x : Int} {off : Int} {tgt : Nat} (hdg : decode cc pc = .ok (.ifCond .eq off, 3)) (ht : (pc : Int) + off = (tgt : Int)) (hr : -2147483648 ≤ x ∧ x ≤ 2147483647)
    (kt : x = 0 → W p l e R s m args below meth c H locs cells slots Q (F0 m tgt ls rest)) (kf : ¬ x = 0 → W p l e R s m args below meth c H locs cells slots Q (F0 m (pc + 3) ls rest)) : W p l e R s m args below meth c H locs cells slots Q (F0 m pc ls (.int (zz_I x) :: rest)) :=
  lv_if_eq hexec hb hdg ht (fun h => kt ((zz_eq (b := 0) ⟨hr.1, hr.2, by decide, by decide⟩).mp h)) (fun h => kf (fun q => h ((zz_eq (b := 0) ⟨hr.1, hr.2, by decide, by decide⟩).mpr q)))
theorem zz_if_ne (hexec : p.tables.exec = Jvm.exec) (hb : c.code = cc) {x : Int} {off : Int} {tgt : Nat} (hdg : decode cc pc = .ok (.ifCond .ne off, 3)) (ht : (pc : Int) + off = (tgt : Int)) (hr : -2147483648 ≤ x ∧ x ≤ 2147483647)
    (kt : ¬ x = 0 → W p l e R s m args below meth c H locs cells slots Q (F0 m tgt ls rest)) (kf : x = 0 → W p l e R s m args below meth c H locs cells slots Q (F0 m (pc + 3) ls rest)) : W p l e R s m args below meth c H locs cells slots Q (F0 m pc ls (.int (zz_I x) :: rest)) :=
  lv_if_ne hexec hb hdg ht (fun h => kt (fun q => h ((zz_eq (b := 0) ⟨hr.1, hr.2, by decide, by decide⟩).mpr q))) (fun h => kf ((zz_eq (b := 0) ⟨hr.1, hr.2, by decide, by decide⟩).mp h))
theorem zz_if_lt (hexec : p.tables.exec = Jvm.exec) (hb : c.code = cc) {x : Int} {off : Int} {tgt : Nat} (hdg : decode cc pc = .ok (.ifCond .lt off, 3)) (ht : (pc : Int) + off = (tgt : Int)) (hr : -2147483648 ≤ x ∧ x ≤ 2147483647)
    (kt : x < 0 → W p l e R s m args below meth c H locs cells slots Q (F0 m tgt ls rest)) (kf : 0 ≤ x → W p l e R s m args below meth c H locs cells slots Q (F0 m (pc + 3) ls rest)) : W p l e R s m args below meth c H locs cells slots Q (F0 m pc ls (.int (zz_I x) :: rest)) :=
  lv_if_lt hexec hb hdg ht (fun h => kt ((zz_lt (b := 0) ⟨hr.1, hr.2, by decide, by decide⟩).mp h)) (fun h => kf (Int.not_lt.mp (fun q => h ((zz_lt (b := 0) ⟨hr.1, hr.2, by decide, by decide⟩).mpr q))))
theorem zz_if_ge (hexec : p.tables.exec = Jvm.exec) (hb : c.code = cc) {x : Int} {off : Int} {tgt : Nat} (hdg : decode cc pc = .ok (.ifCond .ge off, 3)) (ht : (pc : Int) + off = (tgt : Int)) (hr : -2147483648 ≤ x ∧ x ≤ 2147483647)
    (kt : 0 ≤ x → W p l e R s m args below meth c H locs cells slots Q (F0 m tgt ls rest)) (kf : x < 0 → W p l e R s m args below meth c H locs cells slots Q (F0 m (pc + 3) ls rest)) : W p l e R s m args below meth c H locs cells slots Q (F0 m pc ls (.int (zz_I x) :: rest)) :=
  lv_if_ge hexec hb hdg ht (fun h => kt ((zz_le (a := 0) ⟨by decide, by decide, hr.1, hr.2⟩).mp h)) (fun h => kf (Int.not_le.mp (fun q => h ((zz_le (a := 0) ⟨by decide, by decide, hr.1, hr.2⟩).mpr q))))
theorem zz_if_gt (hexec : p.tables.exec = Jvm.exec) (hb : c.code = cc) {x : Int} {off : Int} {tgt : Nat} (hdg : decode cc pc = .ok (.ifCond .gt off, 3)) (ht : (pc : Int) + off = (tgt : Int)) (hr : -2147483648 ≤ x ∧ x ≤ 2147483647)
    (kt : 0 < x → W p l e R s m args below meth c H locs cells slots Q (F0 m tgt ls rest)) (kf : x ≤ 0 → W p l e R s m args below meth c H locs cells slots Q (F0 m (pc + 3) ls rest)) : W p l e R s m args below meth c H locs cells slots Q (F0 m pc ls (.int (zz_I x) :: rest)) :=
  lv_if_gt hexec hb hdg ht (fun h => kt ((zz_lt (a := 0) ⟨by decide, by decide, hr.1, hr.2⟩).mp h)) (fun h => kf (Int.not_lt.mp (fun q => h ((zz_lt (a := 0) ⟨by decide, by decide, hr.1, hr.2⟩).mpr q))))
theorem zz_if_le (hexec : p.tables.exec = Jvm.exec) (hb : c.code = cc) {x : Int} {off : Int} {tgt : Nat} (hdg : decode cc pc = .ok (.ifCond .le off, 3)) (ht : (pc : Int) + off = (tgt : Int)) (hr : -2147483648 ≤ x ∧ x ≤ 2147483647)
    (kt : x ≤ 0 → W p l e R s m args below meth c H locs cells slots Q (F0 m tgt ls rest)) (kf : 0 < x → W p l e R s m args below meth c H locs cells slots Q (F0 m (pc + 3) ls rest)) : W p l e R s m args below meth c H locs cells slots Q (F0 m pc ls (.int (zz_I x) :: rest)) :=
  lv_if_le hexec hb hdg ht (fun h => kt ((zz_le (b := 0) ⟨hr.1, hr.2, by decide, by decide⟩).mp h)) (fun h => kf (Int.not_le.mp (fun q => h ((zz_le (b := 0) ⟨hr.1, hr.2, by decide, by decide⟩).mpr q))))
theorem zz_ifb_eq (hexec : p.tables.exec = Jvm.exec) (hb : c.code = cc) {b : Bool} {off : Int} {tgt : Nat} (hdg : decode cc pc = .ok (.ifCond .eq off, 3)) (ht : (pc : Int) + off = (tgt : Int))
    (kt : b = false → W p l e R s m args below meth c H locs cells slots Q (F0 m tgt ls rest)) (kf : b = true → W p l e R s m args below meth c H locs cells slots Q (F0 m (pc + 3) ls rest)) : W p l e R s m args below meth c H locs cells slots Q (F0 m pc ls (.int (zz_I (zz_b b)) :: rest)) := by
  refine zz_if_eq hexec hb hdg ht (by have := zz_bR b; omega) (fun h => kt ?_) (fun h => kf ?_)
  · cases b <;> simp [zz_b] at h ⊢
  · cases b <;> simp [zz_b] at h ⊢
theorem zz_ifb_ne (hexec : p.tables.exec = Jvm.exec) (hb : c.code = cc) {b : Bool} {off : Int} {tgt : Nat} (hdg : decode cc pc = .ok (.ifCond .ne off, 3)) (ht : (pc : Int) + off = (tgt : Int))
    (kt : b = true → W p l e R s m args below meth c H locs cells slots Q (F0 m tgt ls rest)) (kf : b = false → W p l e R s m args below meth c H locs cells slots Q (F0 m (pc + 3) ls rest)) : W p l e R s m args below meth c H locs cells slots Q (F0 m pc ls (.int (zz_I (zz_b b)) :: rest)) := by
  refine zz_if_ne hexec hb hdg ht (by have := zz_bR b; omega) (fun h => kt ?_) (fun h => kf ?_)
  · cases b <;> simp [zz_b] at h ⊢
  · cases b <;> simp [zz_b] at h ⊢
theorem zz_iinc (hexec : p.tables.exec = Jvm.exec) (hb : c.code = cc) {i nL k : Nat} {n x v : Int} {lv lv' : List (Nat × Value)} (hdg : decode cc pc = .ok (.iinc i n, 3)) (h : lv_has ls nL lv) (hk : lv[k]? = some (i, .int (zz_I x))) (hv : x + n = v) (hn : i < nL) (hl : (i, Value.int (zz_I v)) :: lv.filter (fun q => !(q.1 == i) && !(q.1 + 1 == i && q.2.category == 2)) = lv')
    (kk : ∀ ls' : Array Slot, lv_has ls' nL lv' → W p l e R s m args below meth c H locs cells slots Q (F0 m (pc + 3) ls' rest)) : W p l e R s m args below meth c H locs cells slots Q (F0 m pc ls rest) :=
  lv_iinc hexec hb hdg h hk (by subst hv; exact zz_add x n) hn hl kk
theorem zz_iald (hexec : p.tables.exec = Jvm.exec) (hb : c.code = cc) (hK : va_K D cl tys s) (hP : va_P D cl ws H) (q0 t0 : Nat) {cA : ClassId} {n : Nat} {g : Nat → Int} (ha : ws[q0]? = some (a, .inl (cA, n, .inl (zz_A g)))) (ht : tys[t0]? = some (cA, .int)) {i v : Int} (hi : 0 ≤ i ∧ i < n ∧ i ≤ 2147483647) (hv : g i.toNat = v) (hdg : decode cc pc = .ok (.iaload, 1))
    (kk : W p l e R s m args below meth c H locs cells slots Q (F0 m (pc + 1) ls (.int (zz_I v) :: rest))) : W p l e R s m args below meth c H locs cells slots Q (F0 m pc ls (.int (zz_I i) :: .ref a :: rest)) := by
  subst hv
  refine va_iald hexec hb hK hP q0 t0 ha ht (zz_in hi) hdg ?_
  rw [zz_cl (by omega)]
  exact kk
theorem zz_iast (hexec : p.tables.exec = Jvm.exec) (hb : c.code = cc) (hK : va_K D cl tys s) (hP : va_P D cl ws H) (hD : va_D A ws) (hS : va_S A H0 H locs) (q0 t0 : Nat) {cA : ClassId} {n k : Nat} {g : Nat → Int} (ha : ws[q0]? = some (a, .inl (cA, n, .inl (zz_A g)))) (ht : tys[t0]? = some (cA, .int)) {i x : Int} (hi : 0 ≤ i ∧ i < n ∧ i ≤ 2147483647) (hk : i.toNat = k) (hdg : decode cc pc = .ok (.iastore, 1))
    (kk : ∀ (H1 : Heap) (locs1 : List Loc), va_P D cl (ws.set q0 (a, .inl (cA, n, .inl (zz_A (zz_u g k x))))) H1 → va_D A (ws.set q0 (a, .inl (cA, n, .inl (zz_A (zz_u g k x))))) → va_S A H0 H1 locs1 → W p l e R s m args below meth c H1 locs1 cells slots Q (F0 m (pc + 1) ls rest)) : W p l e R s m args below meth c H locs cells slots Q (F0 m pc ls (.int (zz_I x) :: .int (zz_I i) :: .ref a :: rest)) := by
  subst hk
  refine va_iast hexec hb hK hP hD hS q0 t0 ha ht (zz_in hi) hdg ?_
  rw [zz_cl (by omega), zz_upd]
  exact kk
theorem zz_irem (hexec : p.tables.exec = Jvm.exec) (hb : c.code = cc) {x y v : Int} (hv : x % y = v) (hdg : decode cc pc = .ok (.irem, 1)) (hr : 0 ≤ x ∧ x ≤ 2147483647 ∧ 0 < y ∧ y ≤ 2147483647)
    (k : W p l e R s m args below meth c H locs cells slots Q (F0 m (pc + 1) ls (.int (zz_I v) :: rest))) : W p l e R s m args below meth c H locs cells slots Q (F0 m pc ls (.int (zz_I y) :: .int (zz_I x) :: rest)) := by
  refine lv_irem hexec hb hdg (fun q => ?_) ?_
  · have := (zz_eq (a := y) (b := 0) (by omega)).mp q
    omega
  · rw [zz_rem hr, hv]
    exact k
theorem zz_idiv (hexec : p.tables.exec = Jvm.exec) (hb : c.code = cc) {x y v : Int} (hv : x / y = v) (hdg : decode cc pc = .ok (.idiv, 1)) (hr : 0 ≤ x ∧ x ≤ 2147483647 ∧ 0 < y ∧ y ≤ 2147483647)
    (k : W p l e R s m args below meth c H locs cells slots Q (F0 m (pc + 1) ls (.int (zz_I v) :: rest))) : W p l e R s m args below meth c H locs cells slots Q (F0 m pc ls (.int (zz_I y) :: .int (zz_I x) :: rest)) := by
  refine lv_idiv hexec hb hdg (fun q => ?_) ?_
  · have := (zz_eq (a := y) (b := 0) (by omega)).mp q
    omega
  · rw [zz_div hr, hv]
    exact k
end ZZ
