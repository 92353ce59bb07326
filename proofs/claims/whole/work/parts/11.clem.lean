/-! what the contracts need of the models: indexes, counts that stay -/
theorem L_pick (x y : Int32) : vp_in (F_X6_pick x y) 16 := by
  unfold F_X6_pick
  split
  · exact pk_andIn _ 4 (by decide) (by decide)
  · split
    · exact pk_andIn _ 4 (by decide) (by decide)
    · split
      · exact pk_andIn _ 4 (by decide) (by decide)
      · exact pk_andIn _ 4 (by decide) (by decide)
theorem L_put_cnt (n : Nat) (r : gRow) (i b : Int32) : (F_X5_put n r i b).1 = r.1 := by
  unfold F_X5_put
  split
  · rfl
  · split
    · rfl
    · split <;> rfl
theorem L_turn_cnt {n3 : Nat} (i : Nat) (z0 : Int32 × Int32 × (Nat → Int32) × gRow) : F_X5_count (itr (B_X7_turn_15 n3) i z0).2.2.2 = z0.2.2.2.1 := by
  induction i with
  | zero => rw [itr_0]; rfl
  | succ i ih => rw [itr_s]; exact (L_put_cnt _ _ _ _).trans ih
