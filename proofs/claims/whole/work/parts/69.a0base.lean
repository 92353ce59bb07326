theorem nI_sub {a b : Nat} (h : b ≤ a) : nI a - nI b = nI (a - b) := by
  have e : nI (a - b) + nI b = nI a := (nI_add _ _).trans (congrArg nI (by omega))
  rw [← e, Int32.add_sub_cancel]
theorem hasRoom_R {n c k : Nat} {r : gRow} {f : Nat → Int32} (h : rowR n r f c) (hn : n < 2147483648) (hk : k < 2147483648) : F_X5_hasRoom n r (nI k) = if n - c < k then 0 else 1 := by
  unfold F_X5_hasRoom
  rw [h.1, nI_sub h.2.1]
  by_cases e : n - c < k
  · rw [if_pos e, if_pos (nI_lt e hk)]
  · rw [if_neg e, if_neg (nI_nlt (by omega) (by omega))]
theorem bA_upd {n m : Nat} {f : Nat → Int32} {x : Int32} (h : bA n f) (hx : isB x) : bA n (upd f m x) := by
  intro k hk
  unfold upd
  split
  · exact hx
  · exact h k hk
theorem updL_s (f : Nat → Int64) (k : Nat) (v : Int64) : vp_updL f k v k = v := by simp [vp_updL]
