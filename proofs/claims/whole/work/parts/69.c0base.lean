/-! entries, read and altered: one row of the class against the reference's places -/
def gEn (n : Nat) (q : gRow) (vi : Int32) : Nat × Int32 :=
  if q.1 = 0 then (4, 0) else if vi < (-1) then (4, 0) else if vi < q.1 then (if vi = (-1) then (0, q.1) else (0, F_X5_at n q vi)) else (4, 0)
theorem i32_m1 {x : Int32} (h : ¬ x = -1) (h2 : ¬ x < (-1)) : ¬ x < 0 := by
  rw [Int32.lt_iff_toInt_lt] at h2 ⊢
  have e1 : (-1 : Int32).toInt = -1 := rfl
  have e0 : (0 : Int32).toInt = 0 := rfl
  have h3 : ¬ x.toInt = (-1 : Int32).toInt := fun q => h (Int32.toInt_inj.mp q)
  omega
theorem i32_ltm1 {x : Int32} (h2 : x < (-1)) : x < 0 := by
  rw [Int32.lt_iff_toInt_lt] at h2 ⊢
  have e1 : (-1 : Int32).toInt = -1 := rfl
  have e0 : (0 : Int32).toInt = 0 := rfl
  omega
theorem nI_lt_iff {a b : Nat} (ha : a < 2147483648) (hb : b < 2147483648) : nI a < nI b ↔ a < b := by
  rw [Int32.lt_iff_toInt_lt, nI_toInt ha, nI_toInt hb]; omega
theorem nI_le_iff {a b : Nat} (ha : a < 2147483648) (hb : b < 2147483648) : nI a ≤ nI b ↔ a ≤ b := by
  rw [Int32.le_iff_toInt_le, nI_toInt ha, nI_toInt hb]; omega
theorem nI_inj {a b : Nat} (ha : a < 2147483648) (hb : b < 2147483648) : nI a = nI b ↔ a = b := by
  refine ⟨fun h => ?_, fun h => by rw [h]⟩
  have := congrArg Int32.toInt h
  rw [nI_toInt ha, nI_toInt hb] at this
  omega
theorem isE_out {Ms : Nat → Int32} {w i : Int32} (h : w < 0 ∨ 5 ≤ w) : F_X11_isEntry Ms w i = 0 := by
  unfold F_X11_isEntry
  by_cases h1 : w < 0
  · rw [if_pos h1]
  · rw [if_neg h1, if_pos (h.resolve_left h1)]
theorem isE_in {Ms : Nat → Int32} {w c : Nat} {i : Int32} (hw : w < 5) (hc : c < 2147483648) (hs : Ms w = nI c) : F_X11_isEntry Ms (nI w) i = if i < 0 then 0 else if nI c ≤ i then 0 else 1 := by
  unfold F_X11_isEntry
  rw [if_neg (nI_pos (n := w) (by omega)), if_neg (show ¬ (5 : Int32) ≤ nI w from fun h => by rw [show (5 : Int32) = nI 5 from rfl, nI_le_iff (by omega) (by omega)] at h; omega), nI_clamp (by omega), hs]
theorem ent_R {n w c : Nat} {q : gRow} {Me Ms : Nat → Int32} (vi : Int32) (h : rowR n q (fun k => Me (48 * w + k)) c) (hn : n < 2147483648) (hw : w < 5) (hc : c ≤ 48) (hs : Ms w = nI c) :
    (F_X11_entry Me Ms (nI w) vi).2 = (if (gEn n q vi).1 = 0 then 0 else 1) ∧ ((gEn n q vi).1 = 0 → (F_X11_entry Me Ms (nI w) vi).1 = (gEn n q vi).2) := by
  have e0 : q.1 = nI c := h.1
  unfold F_X11_entry gEn
  rw [isE_in hw (by omega) hs, isE_in hw (by omega) hs, e0]
  by_cases hv : vi = -1
  · subst hv
    rw [if_pos rfl]
    by_cases h0 : c = 0
    · subst h0
      exact ⟨rfl, fun h => absurd (show (4 : Nat) = 0 from h) (by decide)⟩
    · have g1 : ¬ nI c = 0 := fun e => h0 ((nI_inj (a := c) (b := 0) (by omega) (by decide)).mp e)
      have g2 : ¬ nI c ≤ 0 := fun e => by rw [show (0 : Int32) = nI 0 from rfl, nI_le_iff (by omega) (by omega)] at e; omega
      have g3 : (-1 : Int32) < nI c := by rw [Int32.lt_iff_toInt_lt, nI_toInt (by omega)]; show (-1 : Int) < _; omega
      rw [if_neg g1, if_neg (show ¬ (-1 : Int32) < -1 by decide), if_pos g3, if_pos rfl, if_neg (show ¬ (0 : Int32) < 0 by decide), if_neg g2]
      refine ⟨rfl, fun _ => ?_⟩
      show Ms (nI w).toNatClampNeg = _
      rw [nI_clamp (by omega), hs]
  · rw [if_neg hv, if_neg hv]
    by_cases h1 : vi < 0
    · rw [if_pos h1]
      have hx : (if nI c = 0 then ((4 : Nat), (0 : Int32)) else if vi < (-1) then (4, 0) else if vi < nI c then (0, F_X5_at n q vi) else (4, 0)).1 = 4 := by
        by_cases h2 : nI c = 0
        · rw [if_pos h2]
        · rw [if_neg h2]
          by_cases h3 : vi < (-1)
          · rw [if_pos h3]
          · exact absurd h1 (i32_m1 hv h3)
      rw [hx]
      exact ⟨rfl, fun h => absurd h (by decide)⟩
    · rw [if_neg h1]
      have e1 := g_nat h1
      have hcl := g_clamp_lt vi
      generalize vi.toNatClampNeg = m at e1 hcl
      subst e1
      by_cases h2 : nI c ≤ nI m
      · rw [if_pos h2]
        have h2' := h2
        rw [nI_le_iff (by omega) hcl] at h2'
        rw [if_neg (show ¬ nI m < nI c from fun e => by rw [nI_lt_iff hcl (by omega)] at e; omega)]
        have hx : (if nI c = 0 then ((4 : Nat), (0 : Int32)) else if nI m < (-1) then (4, 0) else (4, 0)).1 = 4 := by
          split
          · rfl
          · split <;> rfl
        rw [hx]
        exact ⟨rfl, fun h => absurd h (by decide)⟩
      · rw [if_neg h2]
        have h2' := h2
        rw [nI_le_iff (by omega) hcl] at h2'
        have g1 : ¬ nI c = 0 := fun e => by have := (nI_inj (a := c) (b := 0) (by omega) (by decide)).mp e; omega
        rw [if_neg g1, if_neg (show ¬ nI m < (-1) from fun e => h1 (i32_ltm1 e)), if_pos ((nI_lt_iff hcl (by omega)).mpr (by omega))]
        refine ⟨rfl, fun _ => ?_⟩
        show Me _ = F_X5_at n q (nI m)
        rw [h.at hn (by omega : m < c)]
        show Me _ = Me _
        congr 1
        have : (48 : Int32) * nI w + nI m = nI (48 * w + m) := by rw [← nI_add]; congr 1; exact (Int32.ofNat_mul 48 w).symm
        rw [this, nI_clamp (by omega)]
theorem ent_out {Me Ms : Nat → Int32} {w vi : Int32} (h : w < 0 ∨ 5 ≤ w) : F_X11_entry Me Ms w vi = (0, 1) := by
  unfold F_X11_entry
  rw [isE_out h, isE_out h]
  split <;> rfl
theorem gEn_0 {q : gRow} (vi : Int32) (h : q.1 = 0) : gEn 0 q vi = (4, 0) := by
  unfold gEn
  rw [h, if_pos rfl]
theorem i32_5 {x : Int32} (h0 : ¬ x = 0) (h1 : ¬ x = 1) (h2 : ¬ x = 2) (h3 : ¬ x = 3) (h4 : ¬ x = 4) : x < 0 ∨ 5 ≤ x := by
  have e0 : ¬ x.toInt = 0 := fun q => h0 (Int32.toInt_inj.mp q)
  have e1 : ¬ x.toInt = 1 := fun q => h1 (Int32.toInt_inj.mp q)
  have e2 : ¬ x.toInt = 2 := fun q => h2 (Int32.toInt_inj.mp q)
  have e3 : ¬ x.toInt = 3 := fun q => h3 (Int32.toInt_inj.mp q)
  have e4 : ¬ x.toInt = 4 := fun q => h4 (Int32.toInt_inj.mp q)
  rw [Int32.lt_iff_toInt_lt, Int32.le_iff_toInt_le]
  have : (0 : Int32).toInt = 0 := rfl
  have : (5 : Int32).toInt = 5 := rfl
  omega
theorem alt_is {n w c : Nat} {q : gRow} {Me Ms : Nat → Int32} (vi : Int32) (h : rowR n q (fun k => Me (48 * w + k)) c) (hw : w < 5) (hc : c ≤ 48) (hs : Ms w = nI c) :
    F_X11_isEntry Ms (nI w) vi = if vi < 0 then 0 else if vi < q.1 then 1 else 0 := by
  rw [isE_in hw (by omega) hs, h.1]
  by_cases h1 : vi < 0
  · rw [if_pos h1, if_pos h1]
  · rw [if_neg h1, if_neg h1]
    by_cases h2 : nI c ≤ vi
    · rw [if_pos h2, if_neg (fun e => g_nle e h2)]
    · rw [if_neg h2, if_pos (by rw [Int32.le_iff_toInt_le] at h2; rw [Int32.lt_iff_toInt_lt]; omega)]
theorem alt_R {n w c : Nat} {q : gRow} {Me : Nat → Int32} {vi : Int32} (vb : Int32) (h : rowR n q (fun k => Me (48 * w + k)) c) (hn : n < 2147483648) (hw : w < 5) (hc : c ≤ 48) (h1 : ¬ vi < 0) (h2 : vi < q.1) :
    ∃ m, m < c ∧ ((48 * nI w) + vi).toNatClampNeg = 48 * w + m ∧ rowR n (F_X5_put n q vi vb) (fun k => upd Me (48 * w + m) (vb &&& 255) (48 * w + k)) c := by
  have e1 := g_nat h1
  have hcl := g_clamp_lt vi
  generalize vi.toNatClampNeg = m at e1 hcl
  subst e1
  rw [h.1, nI_lt_iff hcl (by omega)] at h2
  refine ⟨m, h2, ?_, ?_⟩
  · have : (48 : Int32) * nI w + nI m = nI (48 * w + m) := by rw [← nI_add]; congr 1; exact (Int32.ofNat_mul 48 w).symm
    rw [this, nI_clamp (by omega)]
  · have hp := h.put hn h2 (isB_and vb)
    have e : F_X5_put n q (nI m) (vb &&& 255) = F_X5_put n q (nI m) vb := by unfold F_X5_put; rw [and_and]
    rw [e] at hp
    refine hp.congr (fun k hk => ?_)
    by_cases hkm : k = m
    · rw [hkm, upd_s, upd_s]
    · rw [upd_n _ hkm, upd_n _ (by omega)]
theorem row_other {n w w' m c' : Nat} {q : gRow} {Me : Nat → Int32} {v : Int32} (h : rowR n q (fun k => Me (48 * w' + k)) c') (hc : c' ≤ 48) (hne : w' ≠ w) (hm : m < 48) : rowR n q (fun k => upd Me (48 * w + m) v (48 * w' + k)) c' :=
  h.congr (fun k hk => (upd_n _ (by omega)).symm)
theorem row_e0 {n c : Nat} {q : gRow} {f : Nat → Int32} (h : rowR n q f c) : rowR n q (fun k => f (48 * 0 + k)) c := h.congr (fun k _ => congrArg f (by omega))
theorem row_0e {n c : Nat} {q : gRow} {f : Nat → Int32} (h : rowR n q (fun k => f (48 * 0 + k)) c) : rowR n q f c := h.congr (fun k _ => congrArg f (by omega))
