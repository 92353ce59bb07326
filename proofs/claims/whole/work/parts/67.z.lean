/-! the tables hold bytes -/
theorem g_lcmp (x : Int64) : lg_cmp x x = 0 := by
  unfold lg_cmp
  rw [if_neg (Int64.lt_irrefl), if_pos (by simp)]
theorem T5_B : ∀ k : Nat, k < 256 → isB (gTf 5 k) := by
  have h : ∀ k : Fin 256, 0 ≤ (gTf 5 k.val).toInt ∧ (gTf 5 k.val).toInt < 256 := by decide +kernel
  exact fun k hk => h ⟨k, hk⟩
theorem T6_B : ∀ k : Nat, k < 256 → isB (gTf 6 k) := by
  have h : ∀ k : Fin 256, 0 ≤ (gTf 6 k.val).toInt ∧ (gTf 6 k.val).toInt < 256 := by decide +kernel
  exact fun k hk => h ⟨k, hk⟩
