/-! chains of blocks, backwards -/
theorem putXor_R {n : Nat} {r : gRow} {f u : Nat → Int32} {c fr : Nat} {b : Nat → gRow → gRow} (hb : ∀ j z, b j z = F_X5_put n z (nI (fr + j)) (u j ^^^ F_X5_at n z (nI (fr - 16 + j)))) (h : rowR n r f c) (hn : n < 2147483648) (h16 : 16 ≤ fr) (hfr : fr + 16 ≤ c) (hu : bA 16 u) :
    rowR n (itr b 16 r) (fun t => if fr ≤ t ∧ t < fr + 16 then u (t - fr) ^^^ f (t - 16) else f t) c := by
  have hc := h.2.1
  have key : (fun (i : Nat) (z : gRow) => rowR n z (fun t => if fr ≤ t ∧ t < fr + i then u (t - fr) ^^^ f (t - 16) else f t) c) 16 (itr b 16 r) := by
    refine itr_inv (fun (i : Nat) (z : gRow) => rowR n z (fun t => if fr ≤ t ∧ t < fr + i then u (t - fr) ^^^ f (t - 16) else f t) c) (h.congr (fun k _ => by rw [if_neg (by omega)])) ?_
    intro i z hi hz
    have ha : F_X5_at n z (nI (fr - 16 + i)) = f (fr + i - 16) := by
      rw [hz.at hn (by omega), if_neg (by omega)]
      congr 1
      omega
    rw [hb, ha]
    refine (hz.put hn (k := fr + i) (by omega) (isB_xor (hu i hi) (h.byt (by omega)))).congr (fun k hk => ?_)
    by_cases hki : k = fr + i
    · rw [hki, upd_s, if_pos (by omega), show fr + i - fr = i by omega]
    · rw [upd_n _ hki]
      by_cases h2 : fr ≤ k ∧ k < fr + i
      · rw [if_pos h2, if_pos (by omega)]
      · rw [if_neg h2, if_neg (by omega)]
  exact key
theorem openStep_R {n n3 bl i : Nat} {rk bx : Nat → Int32} {uky : Int32 × (Nat → Int32) × (Nat → Int32)} (hn : n ≤ 14) (hk1 : uky.1 = nI n) (ek : eqA (16 * n + 16) uky.2.1 rk) (hrk : bA (16 * n + 16) rk) (hbx : ∀ k : Nat, k < 256 → bx k = gTf 6 k) (hbB : bA 256 bx) (hn3 : n3 < 2147483648) (hi : i < bl)
    {z : (Nat → Int32) × (Nat → Int32) × gRow} {w : (Nat → Int32) × (Nat → Int32) × (Nat → Int32)} (h : rowR n3 z.2.2 w.2.2 (16 * bl + 16)) :
    rowR n3 (B_X0_openChain_16 n3 uky (bl - 1 - i) z).2.2 (B_X11_chain_1_2 bx rk n bl i w).2.2 (16 * bl + 16) := by
  have hc := h.2.1
  have ep : 16 * (bl - 1 - i + 1) = 16 * (bl - i) := by omega
  have hst := itr_fill (b := B_X11_block_1_3 w.2.2 (16 * (bl - i))) (w := fun j => w.2.2 (16 * (bl - i) + j)) (fun _ _ => rfl) 16 w.1
  have hcl := itr_fill (b := B_X0_openChain_25 n3 z (bl - 1 - i)) (w := fun j => F_X5_at n3 z.2.2 (nI ((16 * (bl - 1 - i + 1)) + j))) (fun _ _ => rfl) 16 z.1
  have e : eqA 16 (itr (B_X0_openChain_25 n3 z (bl - 1 - i)) 16 z.1) (itr (B_X11_block_1_3 w.2.2 (16 * (bl - i))) 16 w.1) := fun j hj => by
    rw [hst j hj, hcl j hj, ep, h.at hn3 (by omega)]
  have hB : bA 16 (itr (B_X11_block_1_3 w.2.2 (16 * (bl - i))) 16 w.1) := fun j hj => by
    rw [hst j hj]
    exact h.byt (by omega)
  have hsb := openBlock_R (mv := z.2.1) (ot := w.2.1) hn ek hrk hbx hbB e hB
  have hob : bA 16 (F_X11_addRound rk (itr (B_X11_block_1_39 rk n bx) n (itr (B_X11_block_1_3 w.2.2 (16 * (bl - i))) 16 w.1, w.2.1)).1 0) := L_addRound_B (L_blk1_B hbB hrk (z0 := (_, _)) hB n (Nat.le_refl n)) (fun k hk => hrk _ (by omega))
  have hcu : bA 16 (F_X0_openBlock (nI n) uky.2.1 (itr (B_X0_openChain_25 n3 z (bl - 1 - i)) 16 z.1) z.2.1).1 := hsb.bA hob
  have hput := putXor_R (b := B_X0_openChain_60 n3 (bl - 1 - i) (F_X0_openBlock (nI n) uky.2.1 (itr (B_X0_openChain_25 n3 z (bl - 1 - i)) 16 z.1) z.2.1)) (fr := 16 * (bl - 1 - i + 1)) (u := (F_X0_openBlock (nI n) uky.2.1 (itr (B_X0_openChain_25 n3 z (bl - 1 - i)) 16 z.1) z.2.1).1) (fun _ _ => rfl) h hn3 (by omega) (by omega) hcu
  obtain ⟨o1, o2⟩ := itr_off (b := B_X11_block_1_144 (16 * (bl - i)) (F_X11_addRound rk (itr (B_X11_block_1_39 rk n bx) n (itr (B_X11_block_1_3 w.2.2 (16 * (bl - i))) 16 w.1, w.2.1)).1 0)) (fr := 16 * (bl - i)) (w := F_X11_addRound rk (itr (B_X11_block_1_39 rk n bx) n (itr (B_X11_block_1_3 w.2.2 (16 * (bl - i))) 16 w.1, w.2.1)).1 0) (fun _ _ => rfl) 16 w.2.2
  have hx := xorAll (s := itr (B_X11_block_1_144 (16 * (bl - i)) (F_X11_addRound rk (itr (B_X11_block_1_39 rk n bx) n (itr (B_X11_block_1_3 w.2.2 (16 * (bl - i))) 16 w.1, w.2.1)).1 0)) 16 w.2.2) (fr := 16 * (bl - i)) (b := B_X11_chain_1_97 bl i) (fun j z => rfl) (by omega)
  have e1 : (B_X0_openChain_16 n3 uky (bl - 1 - i) z).2.2 = itr (B_X0_openChain_60 n3 (bl - 1 - i) (F_X0_openBlock (nI n) uky.2.1 (itr (B_X0_openChain_25 n3 z (bl - 1 - i)) 16 z.1) z.2.1)) 16 z.2.2 := by
    unfold B_X0_openChain_16
    simp only [gLet_p]
    rw [hk1]
  have e2 : (B_X11_chain_1_2 bx rk n bl i w).2.2 = itr (B_X11_chain_1_97 bl i) 16 (itr (B_X11_block_1_144 (16 * (bl - i)) (F_X11_addRound rk (itr (B_X11_block_1_39 rk n bx) n (itr (B_X11_block_1_3 w.2.2 (16 * (bl - i))) 16 w.1, w.2.1)).1 0)) 16 w.2.2) := by
    unfold B_X11_chain_1_2 F_X11_block_1
    simp only [gLet_p]
  rw [e1, e2]
  refine hput.congr (fun t ht => ?_)
  rw [hx, ep]
  by_cases h2 : 16 * (bl - i) ≤ t ∧ t < 16 * (bl - i) + 16
  · rw [if_pos h2, if_pos h2]
    have := o1 (t - 16 * (bl - i)) (by omega)
    rw [show 16 * (bl - i) + (t - 16 * (bl - i)) = t by omega] at this
    rw [this, o2 (t - 16) (by omega), hsb _ (by omega)]
  · rw [if_neg h2, if_neg h2, o2 t (by omega)]
theorem openChain_R {n n2 n3 bl : Nat} {ky la cl mv rk bx W st ot : Nat → Int32} {q d : gRow} (hn : n ≤ 14) (hsp : (F_X0_spreadKey n2 ky la q).1 = nI n ∧ eqA (16 * n + 16) (F_X0_spreadKey n2 ky la q).2.1 rk) (hrk : bA (16 * n + 16) rk) (hbx : ∀ k : Nat, k < 256 → bx k = gTf 6 k) (hbB : bA 256 bx) (hn3 : n3 < 2147483648) (h : rowR n3 d W (16 * bl + 16)) :
    rowR n3 (F_X0_openChain n2 n3 ky cl mv la q d).2.2.2.2.2 (F_X11_chain_1 bx rk n st ot W bl).2.2 (16 * bl + 16) := by
  have hc := h.2.1
  unfold F_X0_openChain F_X11_chain_1
  simp only [gLet_p]
  rw [h.1, nI_clamp (by omega), show (16 * bl + 16) / 16 - 1 = bl by omega, itd_itr]
  exact itr_rel (fun (_ : Nat) (z : (Nat → Int32) × (Nat → Int32) × gRow) (w : (Nat → Int32) × (Nat → Int32) × (Nat → Int32)) => rowR n3 z.2.2 w.2.2 (16 * bl + 16)) h (fun i z w hi hz => openStep_R hn hsp.1 hsp.2 hrk hbx hbB hn3 hi hz)
