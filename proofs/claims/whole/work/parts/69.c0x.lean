theorem i32_3 {x : Int32} (h0 : ¬ x = 0) (h1 : ¬ x = 1) (h2 : ¬ x = 2) : x < 0 ∨ 2 < x := by
  have e0 : ¬ x.toInt = 0 := fun q => h0 (Int32.toInt_inj.mp q)
  have e1 : ¬ x.toInt = 1 := fun q => h1 (Int32.toInt_inj.mp q)
  have e2 : ¬ x.toInt = 2 := fun q => h2 (Int32.toInt_inj.mp q)
  rw [Int32.lt_iff_toInt_lt, Int32.lt_iff_toInt_lt]
  have : (0 : Int32).toInt = 0 := rfl
  have : (2 : Int32).toInt = 2 := rfl
  omega
theorem i32_4 {x : Int32} (h0 : ¬ x = 0) (h1 : ¬ x = 1) (h2 : ¬ x = 2) (h3 : ¬ x = 3) : x < 0 ∨ 3 < x := by
  have e0 : ¬ x.toInt = 0 := fun q => h0 (Int32.toInt_inj.mp q)
  have e1 : ¬ x.toInt = 1 := fun q => h1 (Int32.toInt_inj.mp q)
  have e2 : ¬ x.toInt = 2 := fun q => h2 (Int32.toInt_inj.mp q)
  have e3 : ¬ x.toInt = 3 := fun q => h3 (Int32.toInt_inj.mp q)
  rw [Int32.lt_iff_toInt_lt, Int32.lt_iff_toInt_lt]
  have : (0 : Int32).toInt = 0 := rfl
  have : (3 : Int32).toInt = 3 := rfl
  omega
theorem i32_ng {x : Int32} (h : 2 < x) : ¬ x < 0 := by
  rw [Int32.lt_iff_toInt_lt] at h ⊢
  have : (0 : Int32).toInt = 0 := rfl
  have : (2 : Int32).toInt = 2 := rfl
  omega
theorem i32_ng3 {x : Int32} (h : 3 < x) : ¬ x < 0 := by
  rw [Int32.lt_iff_toInt_lt] at h ⊢
  have : (0 : Int32).toInt = 0 := rfl
  have : (3 : Int32).toInt = 3 := rfl
  omega
theorem ent_fin {X : Int32 × Int32} {t : Nat × Int32} {gg : Nat → Int64} (h : X.2 = (if t.1 = 0 then 0 else 1) ∧ (t.1 = 0 → X.1 = t.2)) :
    X.2 = (gLet t fun t => if t.1 = 0 then ((0 : Int32), vp_updL gg (0 : Int32).toNatClampNeg t.2.toInt64) else (1, gg)).1 ∧ ((gLet t fun t => if t.1 = 0 then ((0 : Int32), vp_updL gg (0 : Int32).toNatClampNeg t.2.toInt64) else (1, gg)).1 = 0 → (gLet t fun t => if t.1 = 0 then ((0 : Int32), vp_updL gg (0 : Int32).toNatClampNeg t.2.toInt64) else (1, gg)).2 (0 : Int32).toNatClampNeg = X.1.toInt64) := by
  dsimp only [gLet]
  by_cases h0 : t.1 = 0
  · rw [if_pos h0] at h
    rw [if_pos h0]
    dsimp only
    exact ⟨h.1, fun _ => (updL_s _ _ _).trans (congrArg Int32.toInt64 (h.2 h0).symm)⟩
  · rw [if_neg h0] at h
    rw [if_neg h0]
    exact ⟨h.1, fun q => absurd (show (1 : Int32) = 0 from q) (by decide)⟩
