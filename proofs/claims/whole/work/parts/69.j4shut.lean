/-! revision 5: entries made: words, keys -/
theorem shut_u_R {t0 cn : Nat} {Xw ch q1 q2 Xs Xt Xt1 Xt2 : gRow} {wd0 st0 wd1 st1 ky cl mv la : Nat → Int32} {tape En key msg dg wd hh v rt bx rk st ot wk Y : Nat → Int32}
    (hq : rowR 127 Xw Y cn) (hch : rowR 68 ch (fun k => tape (t0 + k)) 68) (hkey : ∀ k : Nat, k < 32 → key k = tape (t0 + k)) (hr : ∀ k : Nat, k < 64 → rt k = gTf 3 k) (hbx : ∀ k : Nat, k < 256 → bx k = gTf 5 k) (hbB : bA 256 bx) :
    (F_X11_shut_u tape (t0 + 32) En key msg dg wd hh v rt bx rk st ot wk Y cn).1 = t0 + 32 + 16 ∧ rowR 48 (F_X5_addPart 48 68 (F_X3_sumSalted_0 68 48 wd0 st0 Xt Xw ch q1 (nI 32)).2.2.2 ch (nI 32) (nI 16)) (fun k => (F_X11_shut_u tape (t0 + 32) En key msg dg wd hh v rt bx rk st ot wk Y cn).2.1 (48 + k)) 48 ∧ rowR 48 (F_X3_wrapKey 48 ky cl mv la Xt2 (F_X3_sumSalted_0 68 32 wd1 st1 Xt1 Xw ch Xs (nI 40)).2.2.2 ch q2).2.2.2.2.2.2 (fun k => (F_X11_shut_u tape (t0 + 32) En key msg dg wd hh v rt bx rk st ot wk Y cn).2.1 (144 + k)) 32 ∧
    ∀ x : Nat, ¬ (48 ≤ x ∧ x < 96) → ¬ (144 ≤ x ∧ x < 176) → (F_X11_shut_u tape (t0 + 32) En key msg dg wd hh v rt bx rk st ot wk Y cn).2.1 x = En x := by
  obtain ⟨z1, z2, z3⟩ := tape_itr (fr := 80) (t := t0 + 32) (n := 16) (s := En) (b := B_X11_shut_u_10 tape) (tape := tape) (fun i z => by
    unfold B_X11_shut_u_10 F_X11_nextByte
    simp only [gLet_p]
    rw [show 48 + (32 + i) = 80 + i by omega, Nat.add_sub_cancel])
  unfold F_X11_shut_u
  simp only [gLet_p]
  generalize itr (B_X11_shut_u_10 tape) 16 (t0 + 32, En) = z332 at z1 z2 z3 ⊢
  have a1 := hash0_R (n4 := 48) (Xt := Xt) (w := q1) (s := 32) (salt := 80) (En := z332.2) hq hch (by decide) (by decide) (by decide) (by decide) (fun k hk => by
    show tape (t0 + (32 + k)) = _
    rw [z2 k (by omega)]
    congr 1
    omega) hr wd0 st0 msg dg wd hh v
  generalize F_X11_hashWord_0 z332.2 msg dg wd hh v rt Y cn 80 = u335 at a1 ⊢
  obtain ⟨y1, y2⟩ := itr_off (b := B_X11_shut_u_53 u335) (fr := 48) (w := u335.2.2.1) (fun _ _ => rfl) 32 z332.2
  generalize itr (B_X11_shut_u_53 u335) 32 z332.2 = z362 at y1 y2 ⊢
  have a2 := hash0_R (n4 := 32) (Xt := Xt1) (w := Xs) (s := 40) (salt := 88) (En := z362) hq hch (by decide) (by decide) (by decide) (by decide) (fun k hk => by
    show tape (t0 + (40 + k)) = _
    rw [y2 _ (by omega), show 88 + k = 80 + (8 + k) by omega, z2 (8 + k) (by omega)]
    congr 1
    omega) hr wd1 st1 u335.2.1 u335.2.2.1 u335.2.2.2.1 u335.2.2.2.2.1 u335.2.2.2.2.2
  generalize F_X11_hashWord_0 z362 u335.2.1 u335.2.2.1 u335.2.2.2.1 u335.2.2.2.2.1 u335.2.2.2.2.2 rt Y cn 88 = u365 at a2 ⊢
  have hz : ∀ k : Nat, k < 48 → itr (B_X11_shut_u_109 key) 48 wk k = if 16 ≤ k then key (k - 16) else 0 := itr_split32 (b := B_X11_shut_u_109 key) (g := fun k => key (k - 16)) (fun _ _ => rfl) 48 wk
  generalize itr (B_X11_shut_u_109 key) 48 wk = z406 at hz ⊢
  have a3 := wrapKey_R (Xt := Xt2) (q := q2) (ky := ky) (cl := cl) (mv := mv) (la := la) (rk := rk) (W := z406) (st := st) (ot := ot) a2 hch hbx hbB (fun k hk => by rw [hz k (by omega), if_neg (by omega)]) (fun k hk => by
    show z406 (16 + k) = tape (t0 + k)
    rw [hz _ (by omega), if_pos (by omega), show 16 + k - 16 = k by omega, hkey k hk])
  rw [show (F_X11_setKey_32 bx rk u365.2.2.1).2 = 14 from rfl]
  generalize F_X11_chain_0 bx (F_X11_setKey_32 bx rk u365.2.2.1).1 14 st ot z406 2 = u408 at a3 ⊢
  obtain ⟨x1, x2⟩ := itr_off (b := B_X11_shut_u_159 u408) (fr := 144) (w := fun i => u408.2.2 (16 + i)) (fun _ _ => rfl) 32 z362
  generalize itr (B_X11_shut_u_159 u408) 32 z362 = z443 at x1 x2 ⊢
  refine ⟨z1, ?_, a3.congr (fun k hk => (x1 k hk).symm), fun x h1 h2 => ?_⟩
  · refine a1.part hch (s := 32) (b := 16) (e := fun k => z443 (48 + k)) (by decide) (by decide) (by decide) (by decide) (fun k hk => ?_) (fun k hk => ?_)
    · show z443 (48 + k) = _
      rw [x2 _ (by omega), y1 k hk]
    · show z443 (48 + (32 + k)) = tape (t0 + (32 + k))
      rw [x2 _ (by omega), y2 _ (by omega), show 48 + (32 + k) = 80 + k by omega, z2 k hk]
      congr 1
      omega
  · rw [x2 x (by omega), y2 x (by omega), z3 x (by omega)]
theorem shut_o_R {t0 cn : Nat} {Xw ch q1 q2 Xs Xt Xt1 Xt2 Xe1 : gRow} {wd0 st0 wd1 st1 ky cl mv la : Nat → Int32} {tape En key msg dg wd hh v rt bx rk st ot wk Y : Nat → Int32}
    (hq : rowR 127 Xw Y cn) (hch : rowR 68 ch (fun k => tape (t0 + k)) 68) (hkey : ∀ k : Nat, k < 32 → key k = tape (t0 + k)) (he1 : rowR 48 Xe1 (fun k => En (48 + k)) 48) (hr : ∀ k : Nat, k < 64 → rt k = gTf 3 k) (hbx : ∀ k : Nat, k < 256 → bx k = gTf 5 k) (hbB : bA 256 bx) :
    (F_X11_shut_o tape (t0 + 48) En key msg dg wd hh v rt bx rk st ot wk Y cn).1 = t0 + 48 + 16 ∧ rowR 48 (F_X5_addPart 48 68 (F_X3_sumSalted_1 68 48 Xe1 wd0 st0 Xt Xw ch q1 (nI 48)).2.2.2 ch (nI 48) (nI 16)) (fun k => (F_X11_shut_o tape (t0 + 48) En key msg dg wd hh v rt bx rk st ot wk Y cn).2.1 (0 + k)) 48 ∧ rowR 48 (F_X3_wrapKey 48 ky cl mv la Xt2 (F_X3_sumSalted_1 68 32 Xe1 wd1 st1 Xt1 Xw ch Xs (nI 56)).2.2.2 ch q2).2.2.2.2.2.2 (fun k => (F_X11_shut_o tape (t0 + 48) En key msg dg wd hh v rt bx rk st ot wk Y cn).2.1 (96 + k)) 32 ∧
    ∀ x : Nat, ¬ (0 ≤ x ∧ x < 48) → ¬ (96 ≤ x ∧ x < 128) → (F_X11_shut_o tape (t0 + 48) En key msg dg wd hh v rt bx rk st ot wk Y cn).2.1 x = En x := by
  obtain ⟨z1, z2, z3⟩ := tape_itr (fr := 32) (t := t0 + 48) (n := 16) (s := En) (b := B_X11_shut_o_10 tape) (tape := tape) (fun i z => by
    unfold B_X11_shut_o_10 F_X11_nextByte
    simp only [gLet_p]
    rw [show 0 + (32 + i) = 32 + i by omega, Nat.add_sub_cancel])
  unfold F_X11_shut_o
  simp only [gLet_p]
  generalize itr (B_X11_shut_o_10 tape) 16 (t0 + 48, En) = z332 at z1 z2 z3 ⊢
  have he2 : rowR 48 Xe1 (fun k => z332.2 (48 + k)) 48 := he1.congr (fun k hk => (z3 _ (by omega)).symm)
  have a1 := hash1_R (n4 := 48) (Xt := Xt) (w := q1) (s := 48) (salt := 32) (En := z332.2) hq hch he2 (by decide) (by decide) (by decide) (by decide) (fun k hk => by
    show tape (t0 + (48 + k)) = _
    rw [z2 k (by omega)]
    congr 1
    omega) hr wd0 st0 msg dg wd hh v
  generalize F_X11_hashWord_1 z332.2 msg dg wd hh v rt Y cn 32 = u335 at a1 ⊢
  obtain ⟨y1, y2⟩ := itr_off (b := B_X11_shut_o_53 u335) (fr := 0) (w := u335.2.2.1) (fun _ _ => rfl) 32 z332.2
  generalize itr (B_X11_shut_o_53 u335) 32 z332.2 = z362 at y1 y2 ⊢
  have he3 : rowR 48 Xe1 (fun k => z362 (48 + k)) 48 := he2.congr (fun k hk => (y2 _ (by omega)).symm)
  have a2 := hash1_R (n4 := 32) (Xt := Xt1) (w := Xs) (s := 56) (salt := 40) (En := z362) hq hch he3 (by decide) (by decide) (by decide) (by decide) (fun k hk => by
    show tape (t0 + (56 + k)) = _
    rw [y2 _ (by omega), show 40 + k = 32 + (8 + k) by omega, z2 (8 + k) (by omega)]
    congr 1
    omega) hr wd1 st1 u335.2.1 u335.2.2.1 u335.2.2.2.1 u335.2.2.2.2.1 u335.2.2.2.2.2
  generalize F_X11_hashWord_1 z362 u335.2.1 u335.2.2.1 u335.2.2.2.1 u335.2.2.2.2.1 u335.2.2.2.2.2 rt Y cn 40 = u365 at a2 ⊢
  have hz : ∀ k : Nat, k < 48 → itr (B_X11_shut_o_109 key) 48 wk k = if 16 ≤ k then key (k - 16) else 0 := itr_split32 (b := B_X11_shut_o_109 key) (g := fun k => key (k - 16)) (fun _ _ => rfl) 48 wk
  generalize itr (B_X11_shut_o_109 key) 48 wk = z406 at hz ⊢
  have a3 := wrapKey_R (Xt := Xt2) (q := q2) (ky := ky) (cl := cl) (mv := mv) (la := la) (rk := rk) (W := z406) (st := st) (ot := ot) a2 hch hbx hbB (fun k hk => by rw [hz k (by omega), if_neg (by omega)]) (fun k hk => by
    show z406 (16 + k) = tape (t0 + k)
    rw [hz _ (by omega), if_pos (by omega), show 16 + k - 16 = k by omega, hkey k hk])
  rw [show (F_X11_setKey_32 bx rk u365.2.2.1).2 = 14 from rfl]
  generalize F_X11_chain_0 bx (F_X11_setKey_32 bx rk u365.2.2.1).1 14 st ot z406 2 = u408 at a3 ⊢
  obtain ⟨x1, x2⟩ := itr_off (b := B_X11_shut_o_159 u408) (fr := 96) (w := fun i => u408.2.2 (16 + i)) (fun _ _ => rfl) 32 z362
  generalize itr (B_X11_shut_o_159 u408) 32 z362 = z443 at x1 x2 ⊢
  refine ⟨z1, ?_, a3.congr (fun k hk => (x1 k hk).symm), fun x h1 h2 => ?_⟩
  · refine a1.part hch (s := 48) (b := 16) (e := fun k => z443 (0 + k)) (by decide) (by decide) (by decide) (by decide) (fun k hk => ?_) (fun k hk => ?_)
    · show z443 (0 + k) = _
      rw [x2 _ (by omega), y1 k hk]
    · show z443 (0 + (32 + k)) = tape (t0 + (48 + k))
      rw [x2 _ (by omega), y2 _ (by omega), show 0 + (32 + k) = 32 + k by omega, z2 k hk]
      congr 1
      omega
  · rw [x2 x (by omega), y2 x (by omega), z3 x (by omega)]
