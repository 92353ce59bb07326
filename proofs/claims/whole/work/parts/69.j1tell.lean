/-! revision 5: the permissions told -/
theorem tell_R {Xsecret Xe4 Xt : gRow} {perm rd : Int32} {ky cl mv la Mkey En bx bb rk st ot wk : Nat → Int32} (hs : rowR 32 Xsecret Mkey 32) (he : rowR 48 Xe4 (fun k => En (192 + k)) 16) (hbx : ∀ k : Nat, k < 256 → bx k = gTf 5 k) (hbB : bA 256 bx) (hbb : ∀ k : Nat, k < 256 → bb k = gTf 6 k) (hbbB : bA 256 bb) :
    (F_X3_tellPermissions perm Xsecret Xe4 rd ky cl mv la Xt).1 = ((((F_X11_block_1 bb (F_X11_setKey_32 bx rk Mkey).1 14 st ot (itr (B_X11_told_l_87_fttf En) 16 wk) 0).2.2 0 ||| ((F_X11_block_1 bb (F_X11_setKey_32 bx rk Mkey).1 14 st ot (itr (B_X11_told_l_87_fttf En) 16 wk) 0).2.2 1 <<< (8 &&& 31))) ||| ((F_X11_block_1 bb (F_X11_setKey_32 bx rk Mkey).1 14 st ot (itr (B_X11_told_l_87_fttf En) 16 wk) 0).2.2 2 <<< (16 &&& 31))) ||| ((F_X11_block_1 bb (F_X11_setKey_32 bx rk Mkey).1 14 st ot (itr (B_X11_told_l_87_fttf En) 16 wk) 0).2.2 3 <<< (24 &&& 31))) := by
  have hio : F_X9_isOpen_l Xsecret = 1 := by
    unfold F_X9_isOpen_l F_X5_count
    rw [gLet_p, hs.1]
    rfl
  have h1 : rowR 432 (F_X3_textBehindZeros Xt) (fun k => if k < 16 then 0 else En (192 + (k - 16))) 16 := tbz_R (fun k hk => if_pos hk)
  have h2 := h1.part he (s := 0) (b := 16) (e := fun k => if k < 16 then 0 else En (192 + (k - 16))) (by decide) (by decide) (by decide) (by decide) (fun _ _ => rfl) (fun k hk => by
    show (if 16 + k < 16 then 0 else En (192 + (16 + k - 16))) = _
    rw [if_neg (by omega), Nat.zero_add, show 16 + k - 16 = k by omega])
  have ec : F_X5_count Xe4 = nI 16 := he.1
  have h3 : rowR 432 (F_X5_addAll 432 48 (F_X3_textBehindZeros Xt) Xe4) (fun k => if k < 16 then 0 else En (192 + (k - 16))) (16 * 1 + 16) := by
    unfold F_X5_addAll
    rw [gLet_p, gLet_p, ec]
    exact h2
  have hsp := keys32_R (ky := ky) (la := la) (rk := rk) hs (by decide) hbx hbB
  have hrkB : bA 240 (F_X11_setKey_32 bx rk Mkey).1 := L_setKey32_all (fun k h => hs.byt h) hbB
  have hc := openChain_R (n := 14) (n3 := 432) (bl := 1) (cl := cl) (mv := mv) (st := st) (ot := ot) (by decide) hsp hrkB hbb hbbB (by decide) h3
  have hz : ∀ k : Nat, k < 16 → itr (B_X11_told_l_87_fttf En) 16 wk k = En (192 + k) := fun k hk => itr_fill (b := B_X11_told_l_87_fttf En) (w := fun i => En (192 + i)) (fun _ _ => rfl) 16 wk k hk
  have hb := fun (j : Nat) (hj : j < 16) => block1_at (bb := bb) (rk := (F_X11_setKey_32 bx rk Mkey).1) (st := st) (ot := ot) (n := 14) (W := fun k => if k < 16 then 0 else En (192 + (k - 16))) (Z := itr (B_X11_told_l_87_fttf En) 16 wk) (fun k hk => if_pos hk) (fun k hk => by
    show (if 16 + k < 16 then 0 else En (192 + (16 + k - 16))) = _
    rw [if_neg (by omega), hz k hk, show 16 + k - 16 = k by omega]) j hj
  unfold F_X3_tellPermissions
  rw [hio]
  simp only [gLet_p]
  rw [if_neg (by decide)]
  generalize F_X0_openChain 32 432 ky cl mv la Xsecret (F_X5_addAll 432 48 (F_X3_textBehindZeros Xt) Xe4) = u at hc ⊢
  have a0 : F_X5_at 432 u.2.2.2.2.2 16 = _ := (hc.at (k := 16) (by decide) (by decide)).trans (hb 0 (by decide))
  have a1 : F_X5_at 432 u.2.2.2.2.2 17 = _ := (hc.at (k := 17) (by decide) (by decide)).trans (hb 1 (by decide))
  have a2 : F_X5_at 432 u.2.2.2.2.2 18 = _ := (hc.at (k := 18) (by decide) (by decide)).trans (hb 2 (by decide))
  have a3 : F_X5_at 432 u.2.2.2.2.2 19 = _ := (hc.at (k := 19) (by decide) (by decide)).trans (hb 3 (by decide))
  rw [a0, a1, a2, a3]
  exact word_le _ _ _ _
