theorem i32_is_m1 {x : Int32} (h1 : ¬ x < (-1)) (h2 : x < 0) : x = -1 := by
  apply Int32.toInt_inj.mp
  rw [Int32.lt_iff_toInt_lt] at h1 h2
  have e1 : (-1 : Int32).toInt = -1 := rfl
  have e0 : (0 : Int32).toInt = 0 := rfl
  omega
theorem isB_le {x : Int32} (h1 : ¬ x < 0) (h2 : x ≤ 255) : isB x := by
  rw [Int32.lt_iff_toInt_lt] at h1
  rw [Int32.le_iff_toInt_le] at h2
  have e1 : (255 : Int32).toInt = 255 := rfl
  have e0 : (0 : Int32).toInt = 0 := rfl
  exact ⟨by omega, by omega⟩
theorem isMade0_e {r : gRow} (h : r.1 = 0) : F_X9_isMade_e r = 0 := by
  unfold F_X9_isMade_e F_X5_count
  rw [h]
  rfl
theorem isMade1_e {n c : Nat} {r : gRow} {f : Nat → Int32} (h : rowR n r f c) (h0 : 0 < c) (h1 : c < 2147483648) : F_X9_isMade_e r = 1 := by
  unfold F_X9_isMade_e F_X5_count
  rw [h.1]
  exact if_neg (nI_nle h0 h1)
theorem isMade0_l {r : gRow} (h : r.1 = 0) : F_X9_isMade_l r = 0 := isMade0_e h
theorem isMade1_l {n c : Nat} {r : gRow} {f : Nat → Int32} (h : rowR n r f c) (h0 : 0 < c) (h1 : c < 2147483648) : F_X9_isMade_l r = 1 := isMade1_e h h0 h1
