theorem tryLate (Xtried Xsecret Xe0 Xe1 Xe2 Xe3 : gRow) (wdgr stgr : Nat → Int32) (rdbl : Int32) (kybl clbl mvbl labl : Nat → Int32) (Xtext Xsum : gRow) (c c' : Int32 × (gRow × (Nat → Int32) × (Nat → Int32) × Int32 × (Nat → Int32) × (Nat → Int32) × (Nat → Int32) × (Nat → Int32) × gRow × gRow))
    (hc : F_X3_opens_0 Xtried Xsecret wdgr stgr rdbl kybl clbl mvbl labl Xtext Xsum Xe1 Xe3 = c) (hc' : F_X3_opens_1 Xtried c.2.1 Xe1 c.2.2.1 c.2.2.2.1 c.2.2.2.2.1 c.2.2.2.2.2.1 c.2.2.2.2.2.2.1 c.2.2.2.2.2.2.2.1 c.2.2.2.2.2.2.2.2.1 c.2.2.2.2.2.2.2.2.2.1 c.2.2.2.2.2.2.2.2.2.2 Xe0 Xe2 = c') :
    (F_X3_tryWord Xtried Xsecret Xe0 Xe1 Xe2 Xe3 wdgr stgr rdbl kybl clbl mvbl labl Xtext Xsum).1 = (if c.1 = 0 then (if c'.1 = 0 then 0 else 2) else 1) ∧ (F_X3_tryWord Xtried Xsecret Xe0 Xe1 Xe2 Xe3 wdgr stgr rdbl kybl clbl mvbl labl Xtext Xsum).2.1 = (if c.1 = 0 then c'.2.1 else c.2.1) := by
  unfold F_X3_tryWord
  simp only [gLet_p]
  rw [hc, hc']
  by_cases h : c.1 = 0
  · rw [if_pos h, if_pos h, if_pos h]
    by_cases h2 : c'.1 = 0
    · rw [if_pos h2, if_pos h2]
      exact ⟨rfl, rfl⟩
    · rw [if_neg h2, if_neg h2]
      exact ⟨rfl, rfl⟩
  · rw [if_neg h, if_neg h, if_neg h]
    exact ⟨rfl, rfl⟩
