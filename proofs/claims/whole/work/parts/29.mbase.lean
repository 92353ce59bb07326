/-! the reference's key size -/
def gks (rv : Nat) : Nat := if rv = 2 then 5 else if rv = 5 then 32 else 16
theorem gks_le (rv : Nat) : 5 ≤ gks rv ∧ gks rv ≤ 32 := by
  unfold gks
  split
  · omega
  · split <;> omega
theorem g_in_le {x : Int32} {n m : Nat} (h : vp_in x n) (hm : n ≤ m) : vp_in x m := by
  rw [vp_in_iff] at h ⊢
  omega
