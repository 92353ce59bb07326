/-! what the contracts need of the models: indexes, counts that stay -/
theorem L_pick (x y : Int32) : vp_in (F_X6_pick x y) 16 := by
  unfold F_X6_pick
  split
  · exact pk_andIn _ 4 (by decide) (by decide)
  · split
    · exact pk_andIn _ 4 (by decide) (by decide)
    · split
      · exact pk_andIn _ 4 (by decide) (by decide)
      · exact pk_andIn _ 4 (by decide) (by decide)
theorem L_put_cnt (n : Nat) (r : gRow) (i b : Int32) : (F_X5_put n r i b).1 = r.1 := by
  unfold F_X5_put
  split
  · rfl
  · split
    · rfl
    · split <;> rfl
theorem L_turn_cnt {n3 : Nat} (i : Nat) (z0 : Int32 × Int32 × (Nat → Int32) × gRow) : F_X5_count (itr (B_X7_turn_15 n3) i z0).2.2.2 = z0.2.2.2.1 := by
  induction i with
  | zero => rw [itr_0]; rfl
  | succ i ih => rw [itr_s]; exact (L_put_cnt _ _ _ _).trans ih
theorem L_spread_or (n2 : Nat) (rd : Int32) (ky la : Nat → Int32) (q : gRow) : (F_X0_spreadKey n2 rd ky la q).1 = 10 ∨ (F_X0_spreadKey n2 rd ky la q).1 = 14 := by
  unfold F_X0_spreadKey
  dsimp only
  split
  · exact Or.inl rfl
  · exact Or.inr rfl
theorem L_spread_le (n2 : Nat) (rd : Int32) (ky la : Nat → Int32) (q : gRow) : (F_X0_spreadKey n2 rd ky la q).1.toNatClampNeg ≤ 14 := by
  rcases L_spread_or n2 rd ky la q with h | h <;> rw [h] <;> decide
theorem L_spread_nn (n2 : Nat) (rd : Int32) (ky la : Nat → Int32) (q : gRow) : ¬ (F_X0_spreadKey n2 rd ky la q).1 < 0 := by
  rcases L_spread_or n2 rd ky la q with h | h <;> rw [h] <;> decide
theorem L_shutc69_cnt {n3 i : Nat} {u : (Nat → Int32) × (Nat → Int32)} (k : Nat) (z : gRow) : (itr (B_X0_shutChain_69 n3 i u) k z).1 = z.1 := by
  induction k with
  | zero => rw [itr_0]
  | succ k ih => rw [itr_s]; exact (L_put_cnt _ _ _ _).trans ih
theorem L_shutc_cnt {n3 : Nat} {u : Int32 × (Nat → Int32) × (Nat → Int32)} (i : Nat) (z0 : (Nat → Int32) × (Nat → Int32) × gRow) : F_X5_count (itr (B_X0_shutChain_8 n3 u) i z0).2.2 = z0.2.2.1 := by
  induction i with
  | zero => rw [itr_0]; rfl
  | succ i ih => rw [itr_s]; exact (L_shutc69_cnt _ _).trans ih
