/-! The bytes of a long. -/
def ck_by (x : Int64) (i : Nat) : Nat := (x.toBitVec >>> (8 * i)).toNat % 256
theorem ck_by_lt (x : Int64) (i : Nat) : ck_by x i < 256 := Nat.mod_lt _ (by decide)
theorem ck_amu : ∀ i, i < 8 → (((zz_I ((8 * i : Nat) : Int)).toInt64.toUInt64 &&& Int64.toUInt64 63).toBitVec % 64).toNat = 8 * i := by decide +kernel
theorem ck_ams : ∀ i, i < 8 → (((zz_I ((8 * i : Nat) : Int)).toInt64 &&& 63).toBitVec.smod 64).toNat = 8 * i := by decide +kernel
theorem ck_255 : ∀ j, j < 64 → (255 : Int64).toBitVec.getLsbD j = decide (j < 8) := by decide +kernel
theorem ck_by_u (x : Int64) {i : Nat} (h : i < 8) : (x.toUInt64 >>> ((zz_I ((8 * i : Nat) : Int)).toInt64.toUInt64 &&& Int64.toUInt64 63)).toInt64.toInt32 &&& zz_I 255 = zz_I ((ck_by x i : Nat) : Int) := by
  apply Int32.toBitVec_inj.mp
  rw [zz_nI (ck_by x i), Int32.toBitVec_and, Int64.toBitVec_toInt32]
  have e : (x.toUInt64 >>> ((zz_I ((8 * i : Nat) : Int)).toInt64.toUInt64 &&& Int64.toUInt64 63)).toInt64.toBitVec = x.toBitVec >>> (8 * i) := by
    show (x.toUInt64 >>> ((zz_I ((8 * i : Nat) : Int)).toInt64.toUInt64 &&& Int64.toUInt64 63)).toBitVec = _
    rw [UInt64.toBitVec_shiftRight]
    show x.toBitVec >>> (((zz_I ((8 * i : Nat) : Int)).toInt64.toUInt64 &&& Int64.toUInt64 63).toBitVec % 64).toNat = _
    rw [ck_amu i h]
  rw [e, BitVec.signExtend_eq_setWidth_of_le _ (by decide)]
  apply BitVec.eq_of_toNat_eq
  have e2 : (zz_I 255).toBitVec.toNat = 2 ^ 8 - 1 := by decide +kernel
  rw [BitVec.toNat_and, BitVec.toNat_setWidth, e2, Nat.and_two_pow_sub_one_eq_mod]
  unfold nI ck_by
  rw [Int32.toBitVec_ofNat', BitVec.toNat_ofNat]
  omega
theorem ck_by_s (x : Int64) {i : Nat} (h : i < 8) : (x >>> ((zz_I ((8 * i : Nat) : Int)).toInt64 &&& 63)) &&& 255 = Int64.ofNat (ck_by x i) := by
  apply Int64.toBitVec_inj.mp
  rw [Int64.toBitVec_and, Int64.toBitVec_shiftRight]
  show x.toBitVec.sshiftRight (((zz_I ((8 * i : Nat) : Int)).toInt64 &&& 63).toBitVec.smod 64).toNat &&& (255 : Int64).toBitVec = _
  rw [ck_ams i h]
  apply BitVec.eq_of_getLsbD_eq
  intro j hj
  rw [BitVec.getLsbD_and, ck_255 j hj, BitVec.getLsbD_sshiftRight, Int64.toBitVec_ofNat', BitVec.getLsbD_ofNat]
  unfold ck_by
  rw [show (256 : Nat) = 2 ^ 8 from rfl, Nat.testBit_mod_two_pow]
  by_cases h8 : j < 8
  · rw [decide_eq_true h8, decide_eq_true hj, decide_eq_false (by omega : ¬ 64 ≤ j), if_pos (by omega)]
    rw [show (x.toBitVec >>> (8 * i)).toNat.testBit j = (x.toBitVec >>> (8 * i)).getLsbD j from rfl, BitVec.getLsbD_ushiftRight]
    simp
  · rw [decide_eq_false h8]
    simp
theorem ck_by_l {x : Int64} {i : Nat} : (Int64.ofNat (ck_by x i)).toInt32 = zz_I ((ck_by x i : Nat) : Int) := by
  rw [zz_nI, Int64.toInt32_ofNat']
  rfl
def ck_lc (b : Nat) : Int := if 127 < b then 1 else if b = 127 then 0 else -1
theorem ck_lcmp : ∀ b, b < 256 → lg_cmp (Int64.ofNat b) 127 = zz_I (ck_lc b) := by decide +kernel
theorem ck_lc_rg (b : Nat) : (ck_lc b ≤ 0 ↔ b ≤ 127) ∧ -1 ≤ ck_lc b ∧ ck_lc b ≤ 1 := by
  unfold ck_lc
  repeat' split
  all_goals omega
section ZJ
variable {p : Program} {l : Launch} {e : Env} {R : Room} {s : State} {m : MethodId} {args : Array Value} {below : List Frame} {meth : Method} {c : Code} {H : Heap} {locs : List Loc} {cells slots : Nat} {Q : State → Prop}
variable {pc : Nat} {ls : Array Slot} {rest : List Value}
theorem zz_castr {x : Int32} {y : Int} (h : x = zz_I y) (k : W p l e R s m args below meth c H locs cells slots Q (F0 m pc ls (.int (zz_I y) :: rest))) : W p l e R s m args below meth c H locs cells slots Q (F0 m pc ls (.int x :: rest)) := by
  subst h
  exact k
theorem zz_castl {x y : Int64} (h : x = y) (k : W p l e R s m args below meth c H locs cells slots Q (F0 m pc ls (.long y :: rest))) : W p l e R s m args below meth c H locs cells slots Q (F0 m pc ls (.long x :: rest)) := by
  subst h
  exact k
end ZJ
/-- the text with the first j of n bytes behind its s characters -/
def ck_ty (T : Nat → Int) (x : Int64) (s n j : Nat) : Nat → Int := fun q => if 576 + s ≤ q ∧ q < 576 + s + j then ((ck_by x (n - 1 - (q - (576 + s))) : Nat) : Int) else T q
theorem ck_ty_0 {T : Nat → Int} {x : Int64} {s n : Nat} : ck_ty T x s n 0 = T := by
  funext q
  unfold ck_ty
  rw [if_neg (by omega)]
theorem ck_ty_s {T : Nat → Int} {x : Int64} {s n j : Nat} : zz_u (ck_ty T x s n j) (576 + (s + j)) ((ck_by x (n - 1 - j) : Nat) : Int) = ck_ty T x s n (j + 1) := by
  funext q
  unfold zz_u ck_ty
  by_cases e : q = 576 + (s + j)
  · rw [if_pos e, if_pos (by omega), show q - (576 + s) = j by omega]
  · rw [if_neg e]
    by_cases e2 : 576 + s ≤ q ∧ q < 576 + s + j
    · rw [if_pos e2, if_pos (by omega)]
    · rw [if_neg e2, if_neg (by omega)]
def ck_bad (x : Int64) : Nat → Bool := ck_anyN (fun j => decide (127 < ck_by x j))
theorem ck_u_id {Z : Nat → Int} {k s : Nat} (h : Z k = ((s : Nat) : Int)) : zz_u Z k ((s + 0 : Nat) : Int) = Z := by
  funext q
  by_cases e : q = k
  · subst e; rw [zz_us, h]; rfl
  · rw [zz_un e]
