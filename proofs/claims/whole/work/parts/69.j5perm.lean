/-! revision 5: entries made: the permissions, all of it -/
theorem rowR.add_e {n : Nat} {r : gRow} {e : Nat → Int32} {c : Nat} {b v : Int32} (h : rowR n r e c) (hn : n < 2147483648) (hc : c < n) (he : e c = v) (hv : b &&& 255 = v) : rowR n (F_X5_add n r b) e (c + 1) :=
  (h.add hn hc hv).congr (fun k hk => by
    by_cases hk2 : k = c
    · rw [hk2, upd_s, he]
    · rw [upd_n _ hk2])
theorem block0_out {bx rk st ot E : Nat → Int32} {n p : Nat} (x : Nat) (hx : x < p ∨ p + 16 ≤ x) : (F_X11_block_0 bx rk n st ot E p).2.2 x = E x := by
  unfold F_X11_block_0
  simp only [gLet_p]
  exact (itr_off (b := B_X11_block_0_144 p _) (fr := p) (w := fun i => _) (fun _ _ => rfl) 16 E).2 x hx
/-- the sixteen bytes of the permissions, shut -/
theorem permText_R {Xt : gRow} {ch : gRow} {T E : Nat → Int32} {perm tf : Int32} (hch : rowR 68 ch T 68) (e1 : ∀ k : Nat, k < 4 → E (192 + k) = (perm >>> ((nI (8 * k)) &&& 31)) &&& 255) (e2 : ∀ k : Nat, k < 4 → E (196 + k) = 255) (e3 : E 200 = tf) (htf : tf &&& 255 = tf) (e4 : E 201 = 97) (e5 : E 202 = 100) (e6 : E 203 = 98) (e7 : ∀ k : Nat, k < 4 → E (204 + k) = T (64 + k)) :
    rowR 432 (F_X5_addPart 432 68 (F_X5_add 432 (F_X5_add 432 (F_X5_add 432 (F_X5_add 432 (F_X5_addSame 432 (F_X5_addNumber 432 (F_X3_textBehindZeros Xt) perm 4) 255 4) tf) 97) 100) 98) ch 64 4) (fun k => if k < 16 then 0 else E (192 + (k - 16))) (16 * 1 + 16) := by
  have hW : ∀ k : Nat, (fun k => if k < 16 then (0 : Int32) else E (192 + (k - 16))) (16 + k) = E (192 + k) := fun k => by
    show (if 16 + k < 16 then (0 : Int32) else E (192 + (16 + k - 16))) = _
    rw [if_neg (by omega), show 16 + k - 16 = k by omega]
  have h1 : rowR 432 (F_X3_textBehindZeros Xt) (fun k => if k < 16 then 0 else E (192 + (k - 16))) 16 := tbz_R (fun k hk => if_pos hk)
  generalize (fun k => if k < 16 then (0 : Int32) else E (192 + (k - 16))) = W at hW h1 ⊢
  have h2 := h1.num (w := perm) (e := W) (by decide) (by decide) (fun _ _ => rfl) (fun k hk => by rw [hW, e1 k hk, shr8 perm k hk])
  have h3 := addSame_R (b := 4) (e := W) (x := 255) (v := 255) h2 (by decide) (by decide) (fun _ _ => rfl) (by decide) (fun k hk => by rw [show 16 + 4 + k = 16 + (4 + k) by omega, hW, show 192 + (4 + k) = 196 + k by omega, e2 k hk])
  have h4 := h3.add_e (b := tf) (v := tf) (by decide) (by decide) ((hW 8).trans e3) htf
  have h5 := h4.add_e (b := 97) (v := 97) (by decide) (by decide) ((hW 9).trans e4) (by decide)
  have h6 := h5.add_e (b := 100) (v := 100) (by decide) (by decide) ((hW 10).trans e5) (by decide)
  have h7 := h6.add_e (b := 98) (v := 98) (by decide) (by decide) ((hW 11).trans e6) (by decide)
  exact h7.part hch (s := 64) (b := 4) (e := W) (by decide) (by decide) (by decide) (by decide) (fun _ _ => rfl) (fun k hk => by rw [show 16 + 4 + 4 + 1 + 1 + 1 + 1 + k = 16 + (12 + k) by omega, hW, show 192 + (12 + k) = 204 + k by omega, e7 k hk])
theorem wrapPerm_R {Xt Xs ch q : gRow} {perm plain tf : Int32} {ky cl mv la bx rk T E key st ot : Nat → Int32} (hch : rowR 68 ch T 68) (hkey : ∀ k : Nat, k < 32 → key k = T k) (hbx : ∀ k : Nat, k < 256 → bx k = gTf 5 k) (hbB : bA 256 bx)
    (htf0 : tf = if plain = 0 then 84 else 70) (e1 : ∀ k : Nat, k < 4 → E (192 + k) = (perm >>> ((nI (8 * k)) &&& 31)) &&& 255) (e2 : ∀ k : Nat, k < 4 → E (196 + k) = 255) (e3 : E 200 = tf) (e4 : E 201 = 97) (e5 : E 202 = 100) (e6 : E 203 = 98) (e7 : ∀ k : Nat, k < 4 → E (204 + k) = T (64 + k)) :
    rowR 48 (F_X3_wrapPermissions 48 perm plain ky cl mv la Xt Xs ch q).2.2.2.2.2.2.2 (fun k => (F_X11_block_0 bx (F_X11_setKey_32 bx rk key).1 14 st ot E 192).2.2 (192 + k)) 16 := by
  have hk := (rowR.clear (n := 32) (r := Xs) (f := key) (g := Xs.2)).part hch (s := 0) (b := 32) (e := key) (by decide) (by decide) (by decide) (by decide) (fun k hk => absurd hk (Nat.not_lt_zero k)) (fun k hk => by rw [Nat.zero_add, hkey k hk])
  rw [Nat.zero_add] at hk
  have htf : tf &&& 255 = tf := by rw [htf0]; split <;> decide
  have hx := permText_R (Xt := Xt) hch e1 e2 e3 htf e4 e5 e6 e7
  have hsp := keys32_R (ky := ky) (la := la) (rk := rk) hk (by decide) hbx hbB
  have hrkB : bA 240 (F_X11_setKey_32 bx rk key).1 := L_setKey32_all (fun k h => hk.byt h) hbB
  have hc := shutChain_R (n := 14) (n3 := 432) (bl := 1) (cl := cl) (mv := mv) (st := st) (ot := ot) (by decide) hsp hrkB hbx hbB (by decide) hx
  have h3 := (rowR.clear (n := 48) (r := q) (f := key) (g := q.2)).part hc (s := 16) (b := 16) (e := fun k => (F_X11_block_0 bx (F_X11_setKey_32 bx rk key).1 14 st ot E 192).2.2 (192 + k)) (by decide) (by decide) (by decide) (by decide) (fun k hk => absurd hk (Nat.not_lt_zero k)) (fun k hk => by
    rw [Nat.zero_add]
    exact (block0_at (W := fun k => if k < 16 then 0 else E (192 + (k - 16))) (fun k hk => if_pos hk) (fun k hk => by
      show (if 16 + k < 16 then (0 : Int32) else E (192 + (16 + k - 16))) = _
      rw [if_neg (by omega), show 16 + k - 16 = k by omega]) k hk).symm)
  rw [Nat.zero_add] at h3
  unfold F_X3_wrapPermissions
  simp only [gLet_p]
  by_cases hp : plain = 0
  · rw [if_pos hp] at htf0
    subst htf0
    rw [if_pos hp]
    exact h3
  · rw [if_neg hp] at htf0
    subst htf0
    rw [if_neg hp]
    exact h3
