/-! revision 5: entries opened -/
theorem opens_0_R {Mtries : Nat} {Xtried Xsecret Xe1 Xt Xs q d : gRow} {wd0 st0 ky cl mv la : Nat → Int32} {rd : Int32} {Mtried En Mk msg dg wd hh v rt bx bb rk st ot wk : Nat → Int32} {rds : Nat}
    (hq : rowR 127 Xtried Mtried Mtries) (hw : rowR 48 q (fun k => En (48 + k)) 48) (hd : rowR 48 d (fun k => En (144 + k)) 32) (he1 : rowR 48 Xe1 (fun k => En (48 + k)) 48) (hr : ∀ k : Nat, k < 64 → rt k = gTf 3 k) (hbx : ∀ k : Nat, k < 256 → bx k = gTf 5 k) (hbB : bA 256 bx) (hbb : ∀ k : Nat, k < 256 → bb k = gTf 6 k) (hbbB : bA 256 bb) (hbk : bA 32 Mk) :
    (F_X3_opens_0 Xtried Xsecret wd0 st0 rd ky cl mv la Xt Xs q d).1 = (F_X11_opensLate_u Mtried Mtries En Mk msg dg wd hh v rt bx bb rk rds st ot wk).1 ∧
    (((F_X11_opensLate_u Mtried Mtries En Mk msg dg wd hh v rt bx bb rk rds st ot wk).1 = 0 ∧ (F_X11_opensLate_u Mtried Mtries En Mk msg dg wd hh v rt bx bb rk rds st ot wk).2.1 = Mk) ∨ ((F_X11_opensLate_u Mtried Mtries En Mk msg dg wd hh v rt bx bb rk rds st ot wk).1 = 1 ∧ rowR 32 (F_X3_opens_0 Xtried Xsecret wd0 st0 rd ky cl mv la Xt Xs q d).2.1 (F_X11_opensLate_u Mtried Mtries En Mk msg dg wd hh v rt bx bb rk rds st ot wk).2.1 32)) ∧ bA 32 (F_X11_opensLate_u Mtried Mtries En Mk msg dg wd hh v rt bx bb rk rds st ot wk).2.1 := by
  have a1 := hash0_R hq hw (n4 := 32) (Xt := Xt) (w := Xs) (s := 32) (salt := 80) (En := En) (by decide) (by decide) (by decide) (by decide) (fun k _ => by show En (48 + (32 + k)) = _; congr 1; omega) hr wd0 st0 msg dg wd hh v
  unfold F_X3_opens_0 F_X11_opensLate_u
  simp only [gLet_p]
  generalize F_X11_hashWord_0 En msg dg wd hh v rt Mtried Mtries 80 = u222 at a1 ⊢
  rw [show (32 : Int32) = nI 32 from rfl]
  generalize F_X3_sumSalted_0 48 32 wd0 st0 Xt Xtried q Xs (nI 32) = u37 at a1 ⊢
  have a2 := hash0_R hq hw (n4 := 32) (Xt := u37.2.2.1) (w := u37.2.2.2) (s := 40) (salt := 88) (En := En) (by decide) (by decide) (by decide) (by decide) (fun k _ => by show En (48 + (40 + k)) = _; congr 1; omega) hr u37.1 u37.2.1 u222.2.1 u222.2.2.1 u222.2.2.2.1 u222.2.2.2.2.1 u222.2.2.2.2.2
  rw [show nI 40 = (40 : Int32) from rfl] at a2
  generalize F_X11_hashWord_0 En u222.2.1 u222.2.2.1 u222.2.2.2.1 u222.2.2.2.2.1 u222.2.2.2.2.2 rt Mtried Mtries 88 = u246 at a2 ⊢
  generalize F_X3_sumSalted_0 48 32 u37.1 u37.2.1 u37.2.2.1 Xtried q u37.2.2.2 40 = u42 at a2 ⊢
  by_cases hg : 32 ≤ g_first (fun k => decide (¬ u222.2.2.1 k = En (48 + k))) 32
  · have hall : ∀ k : Nat, k < 32 → u222.2.2.1 k = En (48 + k) := fun k hk => by
      have h3 := g_first_no (fun k => decide (¬ u222.2.2.1 k = En (48 + k))) 32 k (by omega)
      simp only [decide_eq_false_iff_not, Classical.not_not] at h3
      exact h3
    rw [if_pos hg, starts_1 a1 hw (by decide) (by decide) (by decide) hall, if_neg (by decide)]
    have hz : ∀ k : Nat, k < 48 → itr (B_X11_opensLate_u_93_t En) 48 wk k = if 16 ≤ k then En (144 + k - 16) else 0 := itr_split32 (b := B_X11_opensLate_u_93_t En) (g := fun k => En (144 + k - 16)) (fun _ _ => rfl) 48 wk
    generalize itr (B_X11_opensLate_u_93_t En) 48 wk = W at hz ⊢
    have h1 : rowR 432 (F_X3_textBehindZeros u42.2.2.1) W 16 := tbz_R (fun k hk => by rw [hz k (by omega), if_neg (by omega)])
    have h2 := h1.part hd (s := 0) (b := 32) (e := W) (by decide) (by decide) (by decide) (by decide) (fun _ _ => rfl) (fun k hk => by
      show W (16 + k) = En (144 + (0 + k))
      rw [hz (16 + k) (by omega), if_pos (by omega)]
      congr 1
      omega)
    have ec : F_X5_count d = nI 32 := hd.1
    have h3 : rowR 432 (F_X5_addAll 432 48 (F_X3_textBehindZeros u42.2.2.1) d) W (16 * 2 + 16) := by
      unfold F_X5_addAll
      rw [gLet_p, gLet_p, ec]
      exact h2
    have hsp := keys32_R (ky := ky) (la := la) (rk := rk) a2 (by decide) hbx hbB
    have hrkB : bA 240 (F_X11_setKey_32 bx rk u246.2.2.1).1 := L_setKey32_all (fun k h => a2.byt h) hbB
    have hc := openChain_R (n := 14) (n3 := 432) (bl := 2) (cl := cl) (mv := mv) (st := st) (ot := ot) (by decide) hsp hrkB hbb hbbB (by decide) h3
    rw [show (F_X11_setKey_32 bx rk u246.2.2.1).2 = 14 from rfl]
    generalize F_X0_openChain 32 432 ky cl mv la u42.2.2.2 (F_X5_addAll 432 48 (F_X3_textBehindZeros u42.2.2.1) d) = u49 at hc ⊢
    generalize F_X11_chain_1 bb (F_X11_setKey_32 bx rk u246.2.2.1).1 14 st ot W 2 = u297 at hc ⊢
    have hf : ∀ k : Nat, k < 32 → itr (B_X11_opensLate_u_148_t u297) 32 Mk k = u297.2.2 (16 + k) := fun k hk => itr_fill (b := B_X11_opensLate_u_148_t u297) (w := fun i => u297.2.2 (16 + i)) (fun _ _ => rfl) 32 Mk k hk
    have h4 := (rowR.clear (n := 32) (r := Xsecret) (f := Mk) (g := Xsecret.2)).part hc (s := 16) (b := 32) (e := itr (B_X11_opensLate_u_148_t u297) 32 Mk) (by decide) (by decide) (by decide) (by decide) (fun k hk => absurd hk (Nat.not_lt_zero k)) (fun k hk => by rw [Nat.zero_add]; exact hf k hk)
    rw [Nat.zero_add] at h4
    exact ⟨rfl, Or.inr ⟨rfl, h4⟩, fun k hk => h4.byt hk⟩
  · have hle := g_first_le (fun k => decide (¬ u222.2.2.1 k = En (48 + k))) 32
    have hy := g_first_yes (fun k => decide (¬ u222.2.2.1 k = En (48 + k))) 32 (by omega)
    simp only [decide_eq_true_eq] at hy
    rw [if_neg hg, starts_0 a1 hw (by decide) (by decide) (by decide) (k := g_first (fun k => decide (¬ u222.2.2.1 k = En (48 + k))) 32) (by omega) hy, if_pos rfl]
    exact ⟨rfl, Or.inl ⟨rfl, rfl⟩, hbk⟩
theorem opens_1_R {Mtries : Nat} {Xtried Xsecret Xe1 Xt Xs q d : gRow} {wd0 st0 ky cl mv la : Nat → Int32} {rd : Int32} {Mtried En Mk msg dg wd hh v rt bx bb rk st ot wk : Nat → Int32} {rds : Nat}
    (hq : rowR 127 Xtried Mtried Mtries) (hw : rowR 48 q (fun k => En (0 + k)) 48) (hd : rowR 48 d (fun k => En (96 + k)) 32) (he1 : rowR 48 Xe1 (fun k => En (48 + k)) 48) (hr : ∀ k : Nat, k < 64 → rt k = gTf 3 k) (hbx : ∀ k : Nat, k < 256 → bx k = gTf 5 k) (hbB : bA 256 bx) (hbb : ∀ k : Nat, k < 256 → bb k = gTf 6 k) (hbbB : bA 256 bb) (hbk : bA 32 Mk) :
    (F_X3_opens_1 Xtried Xsecret Xe1 wd0 st0 rd ky cl mv la Xt Xs q d).1 = (F_X11_opensLate_o Mtried Mtries En Mk msg dg wd hh v rt bx bb rk rds st ot wk).1 ∧
    (((F_X11_opensLate_o Mtried Mtries En Mk msg dg wd hh v rt bx bb rk rds st ot wk).1 = 0 ∧ (F_X11_opensLate_o Mtried Mtries En Mk msg dg wd hh v rt bx bb rk rds st ot wk).2.1 = Mk) ∨ ((F_X11_opensLate_o Mtried Mtries En Mk msg dg wd hh v rt bx bb rk rds st ot wk).1 = 1 ∧ rowR 32 (F_X3_opens_1 Xtried Xsecret Xe1 wd0 st0 rd ky cl mv la Xt Xs q d).2.1 (F_X11_opensLate_o Mtried Mtries En Mk msg dg wd hh v rt bx bb rk rds st ot wk).2.1 32)) ∧ bA 32 (F_X11_opensLate_o Mtried Mtries En Mk msg dg wd hh v rt bx bb rk rds st ot wk).2.1 := by
  have a1 := hash1_R hq hw he1 (n4 := 32) (Xt := Xt) (w := Xs) (s := 32) (salt := 32) (En := En) (by decide) (by decide) (by decide) (by decide) (fun k _ => by show En (0 + (32 + k)) = _; congr 1; omega) hr wd0 st0 msg dg wd hh v
  unfold F_X3_opens_1 F_X11_opensLate_o
  simp only [gLet_p]
  generalize F_X11_hashWord_1 En msg dg wd hh v rt Mtried Mtries 32 = u222 at a1 ⊢
  rw [show (32 : Int32) = nI 32 from rfl]
  generalize F_X3_sumSalted_1 48 32 Xe1 wd0 st0 Xt Xtried q Xs (nI 32) = u37 at a1 ⊢
  have a2 := hash1_R hq hw he1 (n4 := 32) (Xt := u37.2.2.1) (w := u37.2.2.2) (s := 40) (salt := 40) (En := En) (by decide) (by decide) (by decide) (by decide) (fun k _ => by show En (0 + (40 + k)) = _; congr 1; omega) hr u37.1 u37.2.1 u222.2.1 u222.2.2.1 u222.2.2.2.1 u222.2.2.2.2.1 u222.2.2.2.2.2
  rw [show nI 40 = (40 : Int32) from rfl] at a2
  generalize F_X11_hashWord_1 En u222.2.1 u222.2.2.1 u222.2.2.2.1 u222.2.2.2.2.1 u222.2.2.2.2.2 rt Mtried Mtries 40 = u246 at a2 ⊢
  generalize F_X3_sumSalted_1 48 32 Xe1 u37.1 u37.2.1 u37.2.2.1 Xtried q u37.2.2.2 40 = u42 at a2 ⊢
  by_cases hg : 32 ≤ g_first (fun k => decide (¬ u222.2.2.1 k = En (0 + k))) 32
  · have hall : ∀ k : Nat, k < 32 → u222.2.2.1 k = En (0 + k) := fun k hk => by
      have h3 := g_first_no (fun k => decide (¬ u222.2.2.1 k = En (0 + k))) 32 k (by omega)
      simp only [decide_eq_false_iff_not, Classical.not_not] at h3
      exact h3
    rw [if_pos hg, starts_1 a1 hw (by decide) (by decide) (by decide) hall, if_neg (by decide)]
    have hz : ∀ k : Nat, k < 48 → itr (B_X11_opensLate_o_93_t En) 48 wk k = if 16 ≤ k then En (96 + k - 16) else 0 := itr_split32 (b := B_X11_opensLate_o_93_t En) (g := fun k => En (96 + k - 16)) (fun _ _ => rfl) 48 wk
    generalize itr (B_X11_opensLate_o_93_t En) 48 wk = W at hz ⊢
    have h1 : rowR 432 (F_X3_textBehindZeros u42.2.2.1) W 16 := tbz_R (fun k hk => by rw [hz k (by omega), if_neg (by omega)])
    have h2 := h1.part hd (s := 0) (b := 32) (e := W) (by decide) (by decide) (by decide) (by decide) (fun _ _ => rfl) (fun k hk => by
      show W (16 + k) = En (96 + (0 + k))
      rw [hz (16 + k) (by omega), if_pos (by omega)]
      congr 1
      omega)
    have ec : F_X5_count d = nI 32 := hd.1
    have h3 : rowR 432 (F_X5_addAll 432 48 (F_X3_textBehindZeros u42.2.2.1) d) W (16 * 2 + 16) := by
      unfold F_X5_addAll
      rw [gLet_p, gLet_p, ec]
      exact h2
    have hsp := keys32_R (ky := ky) (la := la) (rk := rk) a2 (by decide) hbx hbB
    have hrkB : bA 240 (F_X11_setKey_32 bx rk u246.2.2.1).1 := L_setKey32_all (fun k h => a2.byt h) hbB
    have hc := openChain_R (n := 14) (n3 := 432) (bl := 2) (cl := cl) (mv := mv) (st := st) (ot := ot) (by decide) hsp hrkB hbb hbbB (by decide) h3
    rw [show (F_X11_setKey_32 bx rk u246.2.2.1).2 = 14 from rfl]
    generalize F_X0_openChain 32 432 ky cl mv la u42.2.2.2 (F_X5_addAll 432 48 (F_X3_textBehindZeros u42.2.2.1) d) = u49 at hc ⊢
    generalize F_X11_chain_1 bb (F_X11_setKey_32 bx rk u246.2.2.1).1 14 st ot W 2 = u297 at hc ⊢
    have hf : ∀ k : Nat, k < 32 → itr (B_X11_opensLate_o_148_t u297) 32 Mk k = u297.2.2 (16 + k) := fun k hk => itr_fill (b := B_X11_opensLate_o_148_t u297) (w := fun i => u297.2.2 (16 + i)) (fun _ _ => rfl) 32 Mk k hk
    have h4 := (rowR.clear (n := 32) (r := Xsecret) (f := Mk) (g := Xsecret.2)).part hc (s := 16) (b := 32) (e := itr (B_X11_opensLate_o_148_t u297) 32 Mk) (by decide) (by decide) (by decide) (by decide) (fun k hk => absurd hk (Nat.not_lt_zero k)) (fun k hk => by rw [Nat.zero_add]; exact hf k hk)
    rw [Nat.zero_add] at h4
    exact ⟨rfl, Or.inr ⟨rfl, h4⟩, fun k hk => h4.byt hk⟩
  · have hle := g_first_le (fun k => decide (¬ u222.2.2.1 k = En (0 + k))) 32
    have hy := g_first_yes (fun k => decide (¬ u222.2.2.1 k = En (0 + k))) 32 (by omega)
    simp only [decide_eq_true_eq] at hy
    rw [if_neg hg, starts_0 a1 hw (by decide) (by decide) (by decide) (k := g_first (fun k => decide (¬ u222.2.2.1 k = En (0 + k))) 32) (by omega) hy, if_pos rfl]
    exact ⟨rfl, Or.inl ⟨rfl, rfl⟩, hbk⟩
