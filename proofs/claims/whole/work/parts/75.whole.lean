theorem kept_split (x : Int32) : (∃ rv : Nat, (2 ≤ rv ∧ rv ≤ 4) ∧ gKept x = nI rv ∧ gKept2 x = nI rv) ∨ (gKept x = 5 ∧ gKept2 x = nI 5) := by
  have i5 : (5 : Int32).toInt = 5 := rfl
  have i2 : (2 : Int32).toInt = 2 := rfl
  unfold gKept gKept2
  by_cases h5 : 5 < x
  · have h2 : (2 : Int32) ≤ x := by
      rw [Int32.lt_iff_toInt_lt] at h5
      rw [Int32.le_iff_toInt_le]
      omega
    have h6 : ¬ x ≤ 5 := fun e => g_nle h5 e
    rw [if_pos h5, if_pos (show (2 : Int32) < 5 by decide), if_pos h2, if_neg h6]
    exact Or.inr ⟨rfl, rfl⟩
  · have h6 : x ≤ 5 := by
      rw [Int32.lt_iff_toInt_lt] at h5
      rw [Int32.le_iff_toInt_le]
      omega
    rw [if_neg h5]
    by_cases h2 : 2 < x
    · have h3 : (2 : Int32) ≤ x := by
        rw [Int32.lt_iff_toInt_lt] at h2
        rw [Int32.le_iff_toInt_le]
        omega
      rw [if_pos h2, if_pos h3, if_pos h6]
      have h0 : ¬ x < 0 := by
        rw [Int32.lt_iff_toInt_lt] at h2 ⊢
        have : (0 : Int32).toInt = 0 := rfl
        omega
      have hc := g_clamp_pos h0
      have hn := g_nat h0
      rw [Int32.lt_iff_toInt_lt] at h2
      rw [Int32.le_iff_toInt_le] at h6
      by_cases h9 : x = 5
      · exact Or.inr ⟨h9, h9⟩
      · have h8 : ¬ x.toInt = 5 := fun e => h9 (Int32.toInt_inj.mp (e.trans i5.symm))
        exact Or.inl ⟨x.toNatClampNeg, ⟨by omega, by omega⟩, hn, hn⟩
    · rw [if_neg h2]
      by_cases h3 : (2 : Int32) ≤ x
      · rw [if_pos h3, if_pos h6]
        rw [Int32.lt_iff_toInt_lt] at h2
        rw [Int32.le_iff_toInt_le] at h3
        have h8 : x = 2 := Int32.toInt_inj.mp (by omega)
        exact Or.inl ⟨2, by decide, rfl, h8⟩
      · rw [if_neg h3]
        exact Or.inl ⟨2, by decide, rfl, rfl⟩
set_option maxRecDepth 20000 in
theorem whole_start {p : Program} {e : Env} {s : State} {m : MethodId} {below : List Frame} {meth : Method} {c : Code} (l : Launch) (hflags : l.flags = flags0) {b L : Nat} {xs : Nat → Int32} (hL : L ≤ 257) (C0 : lw_At p s m meth c b L xs) : W p l e room_1 s m #[Value.ref b] below meth c s.heap [] 0 0 (lw_Z below #[Value.ref b] s) (entryFrame m ([Value.ref b] : List Value).toArray 7) := by
  obtain ⟨hx, hb, hr, hml, hown, hts, hscr, hbsz, hlocks, hgv⟩ := id C0
  have hst : l.stackTraces = false := by
    unfold Launch.stackTraces
    rw [hflags]
    decide +kernel
  have hfl : ∀ w ∈ g_flat, w.before #[Value.ref b] s = true := flat_of_before _ hgv
  obtain ⟨A, hAe⟩ : ∃ A : Nat → Prop, (fun q : Nat => s.heap.size ≤ q) = A := ⟨_, rfl⟩
  have hA : ∀ a : Nat, a < s.heap.size → ¬ A a := fun a h => by rw [← hAe]; exact Nat.not_le.mpr h
  obtain ⟨D, hD⟩ := g_classes hts
  obtain ⟨cI, hI⟩ := g_arrI (hts (.arrayClass .int) (by decide +kernel))
  obtain ⟨cR, hR⟩ := g_arrR (va_AO.of (hts (.arrayOver (.object RX5)) (g_at 234 (by decide +kernel))))
  obtain ⟨cL, hLc⟩ := g_arrL (hts (.arrayClass .long) (by decide +kernel))
  obtain ⟨tb, hT⟩ := g_st (A := A) hts hfl hA
  have hcur : s.vm.findClass RX10 = some (D.1 11) := (hD 11 _ rfl).2.1
  obtain ⟨sa, hX⟩ := g_xv (A := A) hcur hts hfl hA
  have hK : va_K D vwCl [(cI, .int), (cR, .object RX5)] s := ⟨hD, fun k q hq => by
    match k, hq with
    | 0, hq => cases hq; exact hI
    | 1, hq => cases hq; exact hR
    | k + 2, hq => simp at hq⟩
  have hKL : va_K D vwCl ([(cI, .int), (cR, .object RX5)] ++ [(cL, .long)]) s := ⟨hD, fun k q hq => by
    match k, hq with
    | 0, hq => cases hq; exact hI
    | 1, hq => cases hq; exact hR
    | 2, hq => cases hq; exact hLc
    | k + 3, hq => simp at hq⟩
  have hV : gEV (D, cI, cR, tb) A s s.heap := ⟨hK, g_nest hts, hT⟩
  have hL2 : gKL (D, cI, cR, tb) cL s := hKL
  rcases kept_split (if L = 0 then 0 else xs 0) with ⟨rv, hrv, k1, k2⟩ | ⟨k1, k2⟩
  · exact law_start_e (D, cI, cR, tb) sa cL l hst hL C0 hAe hV hX hL2 rv hrv k1 k2
  · exact law_start_l (D, cI, cR, tb) sa cL l hst hL C0 hAe hV hX hL2 k1 k2
