/-! A word's answers as the class gives them. -/
theorem zz_Fmem {ws : va_W} {q : Nat} (h : zz_F ws q) : q ∈ ws.map (fun x => x.1) := by
  obtain ⟨k, e, hk⟩ := h
  exact List.mem_map.mpr ⟨(q, e), List.mem_of_getElem? hk, rfl⟩
def ck_wvc (g : Nat → Int) (n : Nat) (nm : Nat → zz_Wt) (k i : Nat) (c : Int) : Int := if c = 0 then ((ck_wb g n i : Nat) : Int) else if c = 1 then ((ck_wl g n i : Nat) : Int) else if c = 2 then ck_fst (fun j => ck_lt (ck_dp g (ck_wb g n i)) (ck_wl g n i) (ck_dp g (ck_wb g n j)) (ck_wl g n j)) 0 i else ck_fst (fun j => ck_lt (nm j).2.2.2.2.1 (nm j).2.2.2.1 (ck_dp g (ck_wb g n i)) (ck_wl g n i)) 0 k
section WVC
variable {g : Nat → Int} {n k i : Nat} {nm : Nat → zz_Wt} {c : Int}
theorem ck_wvc_0 (h : c = 0) : ((ck_wb g n i : Nat) : Int) = ck_wvc g n nm k i c := by
  unfold ck_wvc
  rw [if_pos h]
theorem ck_wvc_1 (h : c = 1) : ((ck_wl g n i : Nat) : Int) = ck_wvc g n nm k i c := by
  unfold ck_wvc
  rw [if_neg (by omega), if_pos h]
theorem ck_wvc_2 (h : c = 2) : ck_fst (fun j => ck_lt (ck_dp g (ck_wb g n i)) (ck_wl g n i) (ck_dp g (ck_wb g n j)) (ck_wl g n j)) 0 i = ck_wvc g n nm k i c := by
  unfold ck_wvc
  rw [if_neg (by omega), if_neg (by omega), if_pos h]
theorem ck_wvc_3 (h : c = 3) : ck_fst (fun j => ck_lt (nm j).2.2.2.2.1 (nm j).2.2.2.1 (ck_dp g (ck_wb g n i)) (ck_wl g n i)) 0 k = ck_wvc g n nm k i c := by
  unfold ck_wvc
  rw [if_neg (by omega), if_neg (by omega), if_neg (by omega)]
end WVC
