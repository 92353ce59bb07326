/-! chains of blocks -/
theorem putAll_R {n : Nat} {r : gRow} {f u : Nat → Int32} {c fr : Nat} {b : Nat → gRow → gRow} (hb : ∀ j z, b j z = F_X5_put n z (nI (fr + j)) (u j)) (h : rowR n r f c) (hn : n < 2147483648) (hfr : fr + 16 ≤ c) (hu : bA 16 u) :
    rowR n (itr b 16 r) (fun t => if fr ≤ t ∧ t < fr + 16 then u (t - fr) else f t) c := by
  have hc := h.2.1
  have key : (fun (i : Nat) (z : gRow) => rowR n z (fun t => if fr ≤ t ∧ t < fr + i then u (t - fr) else f t) c) 16 (itr b 16 r) := by
    refine itr_inv (fun (i : Nat) (z : gRow) => rowR n z (fun t => if fr ≤ t ∧ t < fr + i then u (t - fr) else f t) c) (h.congr (fun k _ => by rw [if_neg (by omega)])) ?_
    intro i z hi hz
    rw [hb]
    refine (hz.put hn (k := fr + i) (by omega) (hu i hi)).congr (fun k hk => ?_)
    by_cases hki : k = fr + i
    · rw [hki, upd_s, if_pos (by omega)]
      congr 1
      omega
    · rw [upd_n _ hki]
      by_cases h2 : fr ≤ k ∧ k < fr + i
      · rw [if_pos h2, if_pos (by omega)]
      · rw [if_neg h2, if_neg (by omega)]
  exact key
theorem xorAll {fr : Nat} {b : Nat → (Nat → Int32) → (Nat → Int32)} {s : Nat → Int32} (hb : ∀ j z, b j z = upd z (fr + j) (z (fr + j) ^^^ z (fr + j - 16))) (h16 : 16 ≤ fr) : ∀ t : Nat, itr b 16 s t = if fr ≤ t ∧ t < fr + 16 then s t ^^^ s (t - 16) else s t := by
  have key : (fun (i : Nat) (z : Nat → Int32) => ∀ t : Nat, z t = if fr ≤ t ∧ t < fr + i then s t ^^^ s (t - 16) else s t) 16 (itr b 16 s) := by
    refine itr_inv (fun (i : Nat) (z : Nat → Int32) => ∀ t : Nat, z t = if fr ≤ t ∧ t < fr + i then s t ^^^ s (t - 16) else s t) (fun t => by rw [if_neg (by omega)]) ?_
    intro i z hi hz t
    rw [hb]
    by_cases ht : t = fr + i
    · rw [ht, upd_s, if_pos (by omega), hz (fr + i), if_neg (by omega), hz (fr + i - 16), if_neg (by omega)]
    · rw [upd_n _ ht, hz t]
      by_cases h2 : fr ≤ t ∧ t < fr + i
      · rw [if_pos h2, if_pos (by omega)]
      · rw [if_neg h2, if_neg (by omega)]
  exact key
theorem rowR.xor {n : Nat} {r : gRow} {f : Nat → Int32} {c : Nat} (h : rowR n r f c) {k : Nat} (hk : k < c) {j : Nat} (hj : j < c) : isB (f k ^^^ f j) := isB_xor (h.byt hk) (h.byt hj)
theorem shutStep_R {n n3 bl i : Nat} {ky rk bx : Nat → Int32} {uky : Int32 × (Nat → Int32) × (Nat → Int32)} (hn : n ≤ 14) (hk1 : uky.1 = nI n) (ek : eqA (16 * n + 16) uky.2.1 rk) (hrk : bA (16 * n + 16) rk) (hbx : ∀ k : Nat, k < 256 → bx k = gTf 5 k) (hbB : bA 256 bx) (hn3 : n3 < 2147483648) (hi : i < bl)
    {z : (Nat → Int32) × (Nat → Int32) × gRow} {w : (Nat → Int32) × (Nat → Int32) × (Nat → Int32)} (h : rowR n3 z.2.2 w.2.2 (16 * bl + 16)) :
    rowR n3 (B_X0_shutChain_8 n3 uky i z).2.2 (B_X11_chain_0_2 bx rk n i w).2.2 (16 * bl + 16) := by
  have hc := h.2.1
  have hx := xorAll (s := w.2.2) (fr := 16 * i + 16) (b := B_X11_chain_0_32 i) (fun j z => rfl) (by omega)
  have hst := itr_fill (b := B_X11_block_0_3 (itr (B_X11_chain_0_32 i) 16 w.2.2) (16 * i + 16)) (w := fun j => itr (B_X11_chain_0_32 i) 16 w.2.2 (16 * i + 16 + j)) (fun _ _ => rfl) 16 w.1
  have hcl := itr_fill (b := B_X0_shutChain_22 n3 z i) (w := fun j => F_X5_at n3 z.2.2 (nI ((16 + 16 * i) + j)) ^^^ F_X5_at n3 z.2.2 (nI (((16 + 16 * i) - 16) + j))) (fun _ _ => rfl) 16 z.1
  have e : eqA 16 (itr (B_X0_shutChain_22 n3 z i) 16 z.1) (itr (B_X11_block_0_3 (itr (B_X11_chain_0_32 i) 16 w.2.2) (16 * i + 16)) 16 w.1) := fun j hj => by
    rw [hst j hj, hcl j hj, hx, if_pos (by omega), h.at hn3 (by omega), h.at hn3 (by omega), show 16 + 16 * i + j = 16 * i + 16 + j by omega, show 16 + 16 * i - 16 + j = 16 * i + 16 + j - 16 by omega]
  have hB : bA 16 (itr (B_X11_block_0_3 (itr (B_X11_chain_0_32 i) 16 w.2.2) (16 * i + 16)) 16 w.1) := fun j hj => by
    rw [hst j hj, hx, if_pos (by omega)]
    exact h.xor (by omega) (by omega)
  have hsb := shutBlock_R (mv := z.2.1) (ot := w.2.1) hn ek hrk hbx hbB e hB
  have hob : bA 16 (itr (B_X11_block_0_98 bx n rk) n (F_X11_addRound rk (itr (B_X11_block_0_3 (itr (B_X11_chain_0_32 i) 16 w.2.2) (16 * i + 16)) 16 w.1) 0, w.2.1)).1 := L_blk0_B hbB hrk (z0 := (_, _)) (L_addRound_B hB (fun k hk => hrk _ (by omega))) n (Nat.le_refl n)
  have hcu : bA 16 (F_X0_shutBlock (nI n) uky.2.1 (itr (B_X0_shutChain_22 n3 z i) 16 z.1) z.2.1).1 := hsb.bA hob
  have hput := putAll_R (b := B_X0_shutChain_69 n3 i (F_X0_shutBlock (nI n) uky.2.1 (itr (B_X0_shutChain_22 n3 z i) 16 z.1) z.2.1)) (fr := 16 + 16 * i) (u := (F_X0_shutBlock (nI n) uky.2.1 (itr (B_X0_shutChain_22 n3 z i) 16 z.1) z.2.1).1) (fun _ _ => rfl) h hn3 (by omega) hcu
  obtain ⟨o1, o2⟩ := itr_off (b := B_X11_block_0_144 (16 * i + 16) (itr (B_X11_block_0_98 bx n rk) n (F_X11_addRound rk (itr (B_X11_block_0_3 (itr (B_X11_chain_0_32 i) 16 w.2.2) (16 * i + 16)) 16 w.1) 0, w.2.1))) (fr := 16 * i + 16) (w := (itr (B_X11_block_0_98 bx n rk) n (F_X11_addRound rk (itr (B_X11_block_0_3 (itr (B_X11_chain_0_32 i) 16 w.2.2) (16 * i + 16)) 16 w.1) 0, w.2.1)).1) (fun _ _ => rfl) 16 (itr (B_X11_chain_0_32 i) 16 w.2.2)
  have e1 : (B_X0_shutChain_8 n3 uky i z).2.2 = itr (B_X0_shutChain_69 n3 i (F_X0_shutBlock (nI n) uky.2.1 (itr (B_X0_shutChain_22 n3 z i) 16 z.1) z.2.1)) 16 z.2.2 := by
    unfold B_X0_shutChain_8
    simp only [gLet_p]
    rw [hk1]
  have e2 : (B_X11_chain_0_2 bx rk n i w).2.2 = itr (B_X11_block_0_144 (16 * i + 16) (itr (B_X11_block_0_98 bx n rk) n (F_X11_addRound rk (itr (B_X11_block_0_3 (itr (B_X11_chain_0_32 i) 16 w.2.2) (16 * i + 16)) 16 w.1) 0, w.2.1))) 16 (itr (B_X11_chain_0_32 i) 16 w.2.2) := by
    unfold B_X11_chain_0_2 F_X11_block_0
    simp only [gLet_p]
  rw [e1, e2]
  refine hput.congr (fun t ht => ?_)
  by_cases h2 : 16 + 16 * i ≤ t ∧ t < 16 + 16 * i + 16
  · rw [if_pos h2]
    have := o1 (t - (16 * i + 16)) (by omega)
    rw [show 16 * i + 16 + (t - (16 * i + 16)) = t by omega] at this
    rw [this, hsb _ (by omega), show t - (16 + 16 * i) = t - (16 * i + 16) by omega]
  · rw [if_neg h2, o2 t (by omega), hx, if_neg (by omega)]
theorem shutChain_R {n n2 n3 bl : Nat} {ky la cl mv rk bx W st ot : Nat → Int32} {q d : gRow} (hn : n ≤ 14) (hsp : (F_X0_spreadKey n2 ky la q).1 = nI n ∧ eqA (16 * n + 16) (F_X0_spreadKey n2 ky la q).2.1 rk) (hrk : bA (16 * n + 16) rk) (hbx : ∀ k : Nat, k < 256 → bx k = gTf 5 k) (hbB : bA 256 bx) (hn3 : n3 < 2147483648) (h : rowR n3 d W (16 * bl + 16)) :
    rowR n3 (F_X0_shutChain n2 n3 ky cl mv la q d).2.2.2.2.2 (F_X11_chain_0 bx rk n st ot W bl).2.2 (16 * bl + 16) := by
  have hc := h.2.1
  unfold F_X0_shutChain F_X11_chain_0
  simp only [gLet_p]
  rw [h.1, nI_clamp (by omega), show (16 * bl + 16 - 16) / 16 = bl by omega]
  exact itr_rel (fun (_ : Nat) (z : (Nat → Int32) × (Nat → Int32) × gRow) (w : (Nat → Int32) × (Nat → Int32) × (Nat → Int32)) => rowR n3 z.2.2 w.2.2 (16 * bl + 16)) h (fun i z w hi hz => shutStep_R (ky := ky) hn hsp.1 hsp.2 hrk hbx hbB hn3 hi hz)
