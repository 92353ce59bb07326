theorem openBlocks_e_R {cn : Nat} {cfor Mf : Int32} {Xsecret Xtext Xsum Xcol : gRow} {bk st ky cl mv la : Nat → Int32} {rd : Int32} {Mkey bytes Mout msg dg wd hh sn bx bb rk sta ot work : Nat → Int32} {MoutSize said rds : Nat}
    (hs : rowR 32 Xsecret Mkey (gks 4)) (hcol : rowR 400 Xcol bytes cn) (hsn : ∀ k : Nat, k < 64 → sn k = gTf 1 k) (hbx : ∀ k : Nat, k < 256 → bx k = gTf 5 k) (hbB : bA 256 bx) (hbb : ∀ k : Nat, k < 256 → bb k = gTf 6 k) (hbbB : bA 256 bb) (hf : Mf = 2) :
    (F_X10_openBlocks_e cfor Xsecret bk st rd ky cl mv la Xtext Xsum Xcol).1 = (F_X11_decipher_e 4 Mkey Mf bytes cfor MoutSize Mout said msg dg wd hh sn bx bb rk rds sta ot work cn).1 ∧
    (((F_X10_openBlocks_e cfor Xsecret bk st rd ky cl mv la Xtext Xsum Xcol).1 < 0 ∧ (F_X11_decipher_e 4 Mkey Mf bytes cfor MoutSize Mout said msg dg wd hh sn bx bb rk rds sta ot work cn).2.1 = MoutSize ∧ (F_X11_decipher_e 4 Mkey Mf bytes cfor MoutSize Mout said msg dg wd hh sn bx bb rk rds sta ot work cn).2.2.1 = Mout) ∨
     (¬ (F_X10_openBlocks_e cfor Xsecret bk st rd ky cl mv la Xtext Xsum Xcol).1 < 0 ∧ rowR 432 (F_X10_openBlocks_e cfor Xsecret bk st rd ky cl mv la Xtext Xsum Xcol).2.2.2.2.2.2.2.2.1 (F_X11_decipher_e 4 Mkey Mf bytes cfor MoutSize Mout said msg dg wd hh sn bx bb rk rds sta ot work cn).2.2.1 (F_X11_decipher_e 4 Mkey Mf bytes cfor MoutSize Mout said msg dg wd hh sn bx bb rk rds sta ot work cn).2.1)) := by
  have hc := hcol.2.1
  have ec : F_X5_count Xcol = nI cn := hcol.1
  unfold F_X10_openBlocks_e F_X11_decipher_e
  rw [gLet_p, ec]
  by_cases h16 : 16 ≤ cn
  · rw [if_pos h16, if_pos (show (16 : Int32) ≤ nI cn from nI_le (a := 16) h16 (by omega))]
    by_cases he16 : cn = 16
    · rw [if_pos (show cn < 32 by omega), if_pos (show nI cn = 16 by rw [he16]; rfl)]
      exact ⟨rfl, Or.inl ⟨(by first | exact (show (-2 : Int32) < 0 by decide) | exact (show (-3 : Int32) < 0 by decide) | exact (show (-4 : Int32) < 0 by decide)), rfl, rfl⟩⟩
    · rw [if_neg (show ¬ nI cn = 16 from fun e => he16 ((nI_inj (b := 16) (by omega) (by decide)).mp e)), and15 (by omega)]
      by_cases hm : cn % 16 = 0
      · rw [if_neg (show ¬ cn < 32 by omega), if_pos (show cn % 16 ≤ 0 by omega), if_pos (show nI (cn % 16) = 0 by rw [hm]; rfl)]
        have hk := objKey_R (n2 := 32) (Xtext := Xtext) (q := Xsum) (Mf := Mf) (fb := 1) (by decide) hs (by decide) (by decide) hsn ⟨fun _ => (by decide), fun _ => hf⟩ bk st said msg dg wd hh cfor 0
        simp only [gLet_p]
        generalize F_X1_findObjectKey 32 Xsecret bk st Xtext Xsum cfor 0 1 = u57 at hk ⊢
        generalize (F_X11_objectKey 4 Mkey Mf said msg dg wd hh sn cfor 0).2 = u234 at hk ⊢
        have hk16 : rowR 32 u57.2.2.2 u234.2.2.1 16 := hk
        have hrow : rowR 432 (F_X5_copy 432 400 u57.2.2.1 Xcol) (itr (B_X11_decipher_e_27_tft bytes) cn work) (16 * (cn / 16 - 1) + 16) := by
          rw [show 16 * (cn / 16 - 1) + 16 = cn by omega]
          exact (rowR.copy hcol (by decide) (by decide) (by omega)).congr (fun k hk => (itr_fill (b := B_X11_decipher_e_27_tft bytes) (w := fun i => bytes i) (fun _ _ => rfl) cn work k hk).symm)
        have hsp := keys16_R (ky := ky) (la := la) (rk := rk) hk16 (by decide) hbx hbB
        have hrkB : bA 176 (F_X11_setKey_16 bx rk u234.2.2.1).1 := L_setKey16_all (fun k hk => hk16.byt hk) hbB
        have hch := openChain_R (n := 10) (cl := cl) (mv := mv) (st := sta) (ot := ot) (by decide) hsp hrkB hbb hbbB (by decide) hrow
        rw [show 16 * (cn / 16 - 1) + 16 = cn by omega] at hch
        rw [show (F_X11_setKey_16 bx rk u234.2.2.1).2 = 10 from rfl]
        generalize F_X0_openChain 32 432 ky cl mv la u57.2.2.2 (F_X5_copy 432 400 u57.2.2.1 Xcol) = u62 at hch ⊢
        generalize F_X11_chain_1 bb (F_X11_setKey_16 bx rk u234.2.2.1).1 10 sta ot (itr (B_X11_decipher_e_27_tft bytes) cn work) (cn / 16 - 1) = u241 at hch ⊢
        have ea : F_X5_at 432 u62.2.2.2.2.2 (nI cn - 1) = u241.2.2 (cn - 1) := by
          rw [show nI cn - 1 = nI (cn - 1) from nI_sub (b := 1) (by omega), hch.at (by decide) (by omega)]
        rw [ea]
        obtain ⟨m, hm256, hfm⟩ := isB_ex (hch.byt (k := cn - 1) (by omega))
        by_cases hx0 : u241.2.2 (cn - 1) ≤ 0
        · rw [if_pos hx0, ends_not (Or.inl hx0), if_pos rfl]
          exact ⟨rfl, Or.inl ⟨(by first | exact (show (-2 : Int32) < 0 by decide) | exact (show (-3 : Int32) < 0 by decide) | exact (show (-4 : Int32) < 0 by decide)), rfl, rfl⟩⟩
        · by_cases hx17 : 17 ≤ u241.2.2 (cn - 1)
          · rw [if_neg hx0, if_pos hx17, ends_not (Or.inr hx17), if_pos rfl]
            exact ⟨rfl, Or.inl ⟨(by first | exact (show (-2 : Int32) < 0 by decide) | exact (show (-3 : Int32) < 0 by decide) | exact (show (-4 : Int32) < 0 by decide)), rfl, rfl⟩⟩
          · rw [if_neg hx0, if_neg hx17]
            have hm1 : 1 ≤ m := by
              rw [hfm] at hx0
              exact Nat.pos_of_ne_zero (fun q => hx0 (by rw [q]; decide))
            have hm16 : m ≤ 16 := by
              rw [hfm] at hx17
              exact Classical.byContradiction (fun q => hx17 (nI_le (a := 17) (by omega) (by omega)))
            obtain ⟨f1, f2⟩ := ends_R (b := B_X11_decipher_e_106_tftff u241 cn) hch (by decide) hm1 hm16 h16 hfm (fun _ _ => rfl)
            have ecl : (u241.2.2 (cn - 1)).toNatClampNeg = m := by rw [hfm, nI_clamp (by omega)]
            rw [ecl, ← f1, hfm]
            rcases f2 with f2 | f2
            · rw [f2, if_pos rfl, if_pos rfl]
              exact ⟨rfl, Or.inl ⟨(by first | exact (show (-2 : Int32) < 0 by decide) | exact (show (-3 : Int32) < 0 by decide) | exact (show (-4 : Int32) < 0 by decide)), rfl, rfl⟩⟩
            · rw [f2, if_neg (by decide), if_neg (by decide), nI_sub (show m ≤ cn by omega)]
              have hcut := cut_R (m := cn - m) hch (by decide) (by omega) u62.2.2.2.2.2.2 rfl
              have hd := drop_R hcut (by decide) (by omega)
              have hfin := (hd.congr (fun k hk => ((become_at Mout u241.2.2 16 (cn - m - 16)).2 k hk).symm))
              rw [show cn - 16 - m = cn - m - 16 by omega]
              refine ⟨hfin.1, Or.inr ⟨?_, hfin⟩⟩
              have e9 := hfin.1
              exact fun e => nI_pos (n := cn - m - 16) (by omega) (by rw [← e9]; exact e)
      · rw [if_neg (show ¬ nI (cn % 16) = 0 from nI_ne0 (by omega) (by omega))]
        by_cases h32 : cn < 32
        · rw [if_pos h32]
          exact ⟨rfl, Or.inl ⟨(by first | exact (show (-2 : Int32) < 0 by decide) | exact (show (-3 : Int32) < 0 by decide) | exact (show (-4 : Int32) < 0 by decide)), rfl, rfl⟩⟩
        · rw [if_neg h32, if_neg (show ¬ cn % 16 ≤ 0 by omega)]
          exact ⟨rfl, Or.inl ⟨(by first | exact (show (-2 : Int32) < 0 by decide) | exact (show (-3 : Int32) < 0 by decide) | exact (show (-4 : Int32) < 0 by decide)), rfl, rfl⟩⟩
  · rw [if_neg h16, if_neg (show ¬ (16 : Int32) ≤ nI cn from fun e => h16 ((nI_le_iff (a := 16) (by omega) (by omega)).mp e))]
    exact ⟨rfl, Or.inl ⟨(by first | exact (show (-2 : Int32) < 0 by decide) | exact (show (-3 : Int32) < 0 by decide) | exact (show (-4 : Int32) < 0 by decide)), rfl, rfl⟩⟩
theorem openBlocks_l_R {cn : Nat} {cfor Mf : Int32} {Xsecret Xtext Xsum Xcol : gRow} {bk st ky cl mv la : Nat → Int32} {rd : Int32} {Mkey bytes Mout msg dg wd hh sn bx bb rk sta ot work : Nat → Int32} {MoutSize said rds : Nat}
    (hs : rowR 32 Xsecret Mkey 32) (hcol : rowR 400 Xcol bytes cn) (hbx : ∀ k : Nat, k < 256 → bx k = gTf 5 k) (hbB : bA 256 bx) (hbb : ∀ k : Nat, k < 256 → bb k = gTf 6 k) (hbbB : bA 256 bb) :
    (F_X10_openBlocks_l Xsecret rd ky cl mv la Xtext Xsum Xcol).1 = (F_X11_decipher_l Mkey Mf bytes cfor MoutSize Mout said msg dg wd hh sn bx bb rk rds sta ot work cn).1 ∧
    (((F_X10_openBlocks_l Xsecret rd ky cl mv la Xtext Xsum Xcol).1 < 0 ∧ (F_X11_decipher_l Mkey Mf bytes cfor MoutSize Mout said msg dg wd hh sn bx bb rk rds sta ot work cn).2.1 = MoutSize ∧ (F_X11_decipher_l Mkey Mf bytes cfor MoutSize Mout said msg dg wd hh sn bx bb rk rds sta ot work cn).2.2.1 = Mout) ∨
     (¬ (F_X10_openBlocks_l Xsecret rd ky cl mv la Xtext Xsum Xcol).1 < 0 ∧ rowR 432 (F_X10_openBlocks_l Xsecret rd ky cl mv la Xtext Xsum Xcol).2.2.2.2.2.2.1 (F_X11_decipher_l Mkey Mf bytes cfor MoutSize Mout said msg dg wd hh sn bx bb rk rds sta ot work cn).2.2.1 (F_X11_decipher_l Mkey Mf bytes cfor MoutSize Mout said msg dg wd hh sn bx bb rk rds sta ot work cn).2.1)) := by
  have hc := hcol.2.1
  have ec : F_X5_count Xcol = nI cn := hcol.1
  unfold F_X10_openBlocks_l F_X11_decipher_l
  rw [gLet_p, ec]
  by_cases h16 : 16 ≤ cn
  · rw [if_pos h16, if_pos (show (16 : Int32) ≤ nI cn from nI_le (a := 16) h16 (by omega))]
    by_cases he16 : cn = 16
    · rw [if_pos (show cn < 32 by omega), if_pos (show nI cn = 16 by rw [he16]; rfl)]
      exact ⟨rfl, Or.inl ⟨(by first | exact (show (-2 : Int32) < 0 by decide) | exact (show (-3 : Int32) < 0 by decide) | exact (show (-4 : Int32) < 0 by decide)), rfl, rfl⟩⟩
    · rw [if_neg (show ¬ nI cn = 16 from fun e => he16 ((nI_inj (b := 16) (by omega) (by decide)).mp e)), and15 (by omega)]
      by_cases hm : cn % 16 = 0
      · rw [if_neg (show ¬ cn < 32 by omega), if_pos (show cn % 16 ≤ 0 by omega), if_pos (show nI (cn % 16) = 0 by rw [hm]; rfl)]
        have hk16 : rowR 32 (F_X5_copy 32 32 Xsum Xsecret) (F_X11_objectKey 5 Mkey Mf said msg dg wd hh sn cfor 0).2.2.2.1 32 := (rowR.copy hs (by decide) (by decide) (by decide)).congr (fun k hk => (objKey5 Mkey Mf said msg dg wd hh sn cfor 0 k hk).symm)
        unfold F_X3_findObjectKey
        simp only [gLet_p]
        generalize F_X5_copy 32 32 Xsum Xsecret = u57 at hk16 ⊢
        generalize (F_X11_objectKey 5 Mkey Mf said msg dg wd hh sn cfor 0).2 = u234 at hk16 ⊢
        have hrow : rowR 432 (F_X5_copy 432 400 Xtext Xcol) (itr (B_X11_decipher_l_27_tft bytes) cn work) (16 * (cn / 16 - 1) + 16) := by
          rw [show 16 * (cn / 16 - 1) + 16 = cn by omega]
          exact (rowR.copy hcol (by decide) (by decide) (by omega)).congr (fun k hk => (itr_fill (b := B_X11_decipher_l_27_tft bytes) (w := fun i => bytes i) (fun _ _ => rfl) cn work k hk).symm)
        have hsp := keys32_R (ky := ky) (la := la) (rk := rk) hk16 (by decide) hbx hbB
        have hrkB : bA 240 (F_X11_setKey_32 bx rk u234.2.2.1).1 := L_setKey32_all (fun k hk => hk16.byt hk) hbB
        have hch := openChain_R (n := 14) (cl := cl) (mv := mv) (st := sta) (ot := ot) (by decide) hsp hrkB hbb hbbB (by decide) hrow
        rw [show 16 * (cn / 16 - 1) + 16 = cn by omega] at hch
        rw [show (F_X11_setKey_32 bx rk u234.2.2.1).2 = 14 from rfl]
        generalize F_X0_openChain 32 432 ky cl mv la u57 (F_X5_copy 432 400 Xtext Xcol) = u62 at hch ⊢
        generalize F_X11_chain_1 bb (F_X11_setKey_32 bx rk u234.2.2.1).1 14 sta ot (itr (B_X11_decipher_l_27_tft bytes) cn work) (cn / 16 - 1) = u241 at hch ⊢
        have ea : F_X5_at 432 u62.2.2.2.2.2 (nI cn - 1) = u241.2.2 (cn - 1) := by
          rw [show nI cn - 1 = nI (cn - 1) from nI_sub (b := 1) (by omega), hch.at (by decide) (by omega)]
        rw [ea]
        obtain ⟨m, hm256, hfm⟩ := isB_ex (hch.byt (k := cn - 1) (by omega))
        by_cases hx0 : u241.2.2 (cn - 1) ≤ 0
        · rw [if_pos hx0, ends_not (Or.inl hx0), if_pos rfl]
          exact ⟨rfl, Or.inl ⟨(by first | exact (show (-2 : Int32) < 0 by decide) | exact (show (-3 : Int32) < 0 by decide) | exact (show (-4 : Int32) < 0 by decide)), rfl, rfl⟩⟩
        · by_cases hx17 : 17 ≤ u241.2.2 (cn - 1)
          · rw [if_neg hx0, if_pos hx17, ends_not (Or.inr hx17), if_pos rfl]
            exact ⟨rfl, Or.inl ⟨(by first | exact (show (-2 : Int32) < 0 by decide) | exact (show (-3 : Int32) < 0 by decide) | exact (show (-4 : Int32) < 0 by decide)), rfl, rfl⟩⟩
          · rw [if_neg hx0, if_neg hx17]
            have hm1 : 1 ≤ m := by
              rw [hfm] at hx0
              exact Nat.pos_of_ne_zero (fun q => hx0 (by rw [q]; decide))
            have hm16 : m ≤ 16 := by
              rw [hfm] at hx17
              exact Classical.byContradiction (fun q => hx17 (nI_le (a := 17) (by omega) (by omega)))
            obtain ⟨f1, f2⟩ := ends_R (b := B_X11_decipher_l_106_tftff u241 cn) hch (by decide) hm1 hm16 h16 hfm (fun _ _ => rfl)
            have ecl : (u241.2.2 (cn - 1)).toNatClampNeg = m := by rw [hfm, nI_clamp (by omega)]
            rw [ecl, ← f1, hfm]
            rcases f2 with f2 | f2
            · rw [f2, if_pos rfl, if_pos rfl]
              exact ⟨rfl, Or.inl ⟨(by first | exact (show (-2 : Int32) < 0 by decide) | exact (show (-3 : Int32) < 0 by decide) | exact (show (-4 : Int32) < 0 by decide)), rfl, rfl⟩⟩
            · rw [f2, if_neg (by decide), if_neg (by decide), nI_sub (show m ≤ cn by omega)]
              have hcut := cut_R (m := cn - m) hch (by decide) (by omega) u62.2.2.2.2.2.2 rfl
              have hd := drop_R hcut (by decide) (by omega)
              have hfin := (hd.congr (fun k hk => ((become_at Mout u241.2.2 16 (cn - m - 16)).2 k hk).symm))
              rw [show cn - 16 - m = cn - m - 16 by omega]
              refine ⟨hfin.1, Or.inr ⟨?_, hfin⟩⟩
              have e9 := hfin.1
              exact fun e => nI_pos (n := cn - m - 16) (by omega) (by rw [← e9]; exact e)
      · rw [if_neg (show ¬ nI (cn % 16) = 0 from nI_ne0 (by omega) (by omega))]
        by_cases h32 : cn < 32
        · rw [if_pos h32]
          exact ⟨rfl, Or.inl ⟨(by first | exact (show (-2 : Int32) < 0 by decide) | exact (show (-3 : Int32) < 0 by decide) | exact (show (-4 : Int32) < 0 by decide)), rfl, rfl⟩⟩
        · rw [if_neg h32, if_neg (show ¬ cn % 16 ≤ 0 by omega)]
          exact ⟨rfl, Or.inl ⟨(by first | exact (show (-2 : Int32) < 0 by decide) | exact (show (-3 : Int32) < 0 by decide) | exact (show (-4 : Int32) < 0 by decide)), rfl, rfl⟩⟩
  · rw [if_neg h16, if_neg (show ¬ (16 : Int32) ≤ nI cn from fun e => h16 ((nI_le_iff (a := 16) (by omega) (by omega)).mp e))]
    exact ⟨rfl, Or.inl ⟨(by first | exact (show (-2 : Int32) < 0 by decide) | exact (show (-3 : Int32) < 0 by decide) | exact (show (-4 : Int32) < 0 by decide)), rfl, rfl⟩⟩
