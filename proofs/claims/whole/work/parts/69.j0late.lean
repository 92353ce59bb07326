/-! revision 5: salted sums, keys behind zeros, single blocks -/
theorem sayRow_eq {said s salt b : Nat} {msg g En : Nat → Int32} (h : ∀ k : Nat, k < b → g (s + k) = En (salt + k)) : F_X11_sayRow said msg g s b = F_X11_sayRow said msg En salt b := by
  unfold F_X11_sayRow
  have e : itr (B_X11_sayRow_3 g s) b (said, msg) = itr (B_X11_sayRow_3 En salt) b (said, msg) := itr_congr (fun i z hi => by
    unfold B_X11_sayRow_3
    rw [h i hi]) _
  rw [e]
theorem tbz_R {Xt : gRow} {e : Nat → Int32} (h0 : ∀ k : Nat, k < 16 → e k = 0) : rowR 432 (F_X3_textBehindZeros Xt) e 16 := by
  have h := addSame_R (n := 432) (r := ((F_X5_clear Xt).1, Xt.2)) (f := e) (c := 0) (b := 16) (x := 0) (v := 0) (e := e) rowR.clear (by decide) (by decide) (fun _ _ => rfl) (by decide) (fun k hk => by rw [Nat.zero_add]; exact h0 k hk)
  rw [Nat.zero_add] at h
  unfold F_X3_textBehindZeros
  rw [gLet_p, gLet_p]
  exact h
theorem hash0_R {n3 n4 cn c s salt : Nat} {Xt q d w : gRow} {Y g En rt : Nat → Int32} (hq : rowR 127 q Y cn) (hd : rowR n3 d g c) (hn3 : n3 < 2147483648) (hn4 : n4 < 2147483648) (h32 : 32 ≤ n4) (hs : s + 8 ≤ c) (hg : ∀ k : Nat, k < 8 → g (s + k) = En (salt + k)) (hr : ∀ k : Nat, k < 64 → rt k = gTf 3 k) (wd0 st msg dg wd hh v : Nat → Int32) :
    rowR n4 (F_X3_sumSalted_0 n3 n4 wd0 st Xt q d w (nI s)).2.2.2 (F_X11_hashWord_0 En msg dg wd hh v rt Y cn salt).2.2.1 32 := by
  have hqc := hq.2.1
  obtain ⟨a1, b1⟩ := copySay (n := 432) (r := Xt) (msg := msg) hq (by decide) (by decide) (by omega)
  obtain ⟨a2, b2⟩ := a1.sayRow hd (s := s) (b := 8) (by decide) hn3 hs (by omega)
  rw [sayRow_eq hg] at a2 b2
  have h6 := great_R (d := w) (n3 := n4) a2 (by decide) hn4 h32 (by omega) hr wd0 st dg wd hh v
  unfold F_X3_sumSalted_0 F_X11_hashWord_0
  simp only [gLet_p]
  exact h6
theorem hash1_R {n3 n4 cn c s salt : Nat} {Xt q d w Xe1 : gRow} {Y g En rt : Nat → Int32} (hq : rowR 127 q Y cn) (hd : rowR n3 d g c) (he1 : rowR 48 Xe1 (fun k => En (48 + k)) 48) (hn3 : n3 < 2147483648) (hn4 : n4 < 2147483648) (h32 : 32 ≤ n4) (hs : s + 8 ≤ c) (hg : ∀ k : Nat, k < 8 → g (s + k) = En (salt + k)) (hr : ∀ k : Nat, k < 64 → rt k = gTf 3 k) (wd0 st msg dg wd hh v : Nat → Int32) :
    rowR n4 (F_X3_sumSalted_1 n3 n4 Xe1 wd0 st Xt q d w (nI s)).2.2.2 (F_X11_hashWord_1 En msg dg wd hh v rt Y cn salt).2.2.1 32 := by
  have hqc := hq.2.1
  obtain ⟨a1, b1⟩ := copySay (n := 432) (r := Xt) (msg := msg) hq (by decide) (by decide) (by omega)
  obtain ⟨a2, b2⟩ := a1.sayRow hd (s := s) (b := 8) (by decide) hn3 hs (by omega)
  rw [sayRow_eq hg] at a2 b2
  obtain ⟨a3, b3⟩ := a2.sayAll he1 (by decide) (by decide) (by omega)
  rw [sayRow_eq (En := En) (salt := 48) (fun k _ => by rw [Nat.zero_add])] at a3 b3
  have h6 := great_R (d := w) (n3 := n4) a3 (by decide) hn4 h32 (by omega) hr wd0 st dg wd hh v
  unfold F_X3_sumSalted_1 F_X11_hashWord_1
  simp only [gLet_p]
  exact h6
theorem itr_split32 {b : Nat → (Nat → Int32) → (Nat → Int32)} {g : Nat → Int32} (hb : ∀ i z, b i z = if 16 ≤ i then upd z i (g i) else upd z i 0) (n : Nat) (s : Nat → Int32) (k : Nat) (hk : k < n) : itr b n s k = if 16 ≤ k then g k else 0 :=
  itr_fill (b := b) (w := fun i => if 16 ≤ i then g i else 0) (fun i z => by
    rw [hb]
    by_cases h : 16 ≤ i
    · rw [if_pos h, if_pos h]
    · rw [if_neg h, if_neg h]) n s k hk
/-- a key, shut behind zeros -/
theorem wrapKey_R {Xt Xs ch q : gRow} {ky cl mv la bx rk Y T W st ot : Nat → Int32} (hk : rowR 32 Xs Y 32) (hch : rowR 68 ch T 68) (hbx : ∀ k : Nat, k < 256 → bx k = gTf 5 k) (hbB : bA 256 bx) (h0 : ∀ k : Nat, k < 16 → W k = 0) (hW : ∀ k : Nat, k < 32 → W (16 + k) = T k) :
    rowR 48 (F_X3_wrapKey 48 ky cl mv la Xt Xs ch q).2.2.2.2.2.2 (fun k => (F_X11_chain_0 bx (F_X11_setKey_32 bx rk Y).1 14 st ot W 2).2.2 (16 + k)) 32 := by
  have h1 : rowR 432 (F_X3_textBehindZeros Xt) W 16 := tbz_R h0
  have h2 := h1.part hch (s := 0) (b := 32) (e := W) (by decide) (by decide) (by decide) (by decide) (fun _ _ => rfl) (fun k hk => by rw [Nat.zero_add]; exact hW k hk)
  have hsp := keys32_R (ky := ky) (la := la) (rk := rk) hk (by decide) hbx hbB
  have hrkB : bA 240 (F_X11_setKey_32 bx rk Y).1 := L_setKey32_all (fun k h => hk.byt h) hbB
  have hc := shutChain_R (n := 14) (n3 := 432) (bl := 2) (cl := cl) (mv := mv) (st := st) (ot := ot) (by decide) hsp hrkB hbx hbB (by decide) h2
  have h3 := (rowR.clear (n := 48) (r := q) (f := Y) (g := q.2)).part hc (s := 16) (b := 32) (e := fun k => (F_X11_chain_0 bx (F_X11_setKey_32 bx rk Y).1 14 st ot W 2).2.2 (16 + k)) (by decide) (by decide) (by decide) (by decide) (fun k hk => absurd hk (Nat.not_lt_zero k)) (fun k hk => by rw [Nat.zero_add])
  rw [Nat.zero_add] at h3
  unfold F_X3_wrapKey
  simp only [gLet_p]
  exact h3
theorem block0_at {bx rk st ot W E : Nat → Int32} {n p : Nat} (h0 : ∀ k : Nat, k < 16 → W k = 0) (hW : ∀ k : Nat, k < 16 → W (16 + k) = E (p + k)) (j : Nat) (hj : j < 16) :
    (F_X11_chain_0 bx rk n st ot W 1).2.2 (16 + j) = (F_X11_block_0 bx rk n st ot E p).2.2 (p + j) := by
  unfold F_X11_chain_0
  rw [gLet_p, itr_s, itr_0]
  show (B_X11_chain_0_2 bx rk n 0 (st, ot, W)).2.2 (16 + j) = _
  unfold B_X11_chain_0_2 F_X11_block_0
  simp only [gLet_p]
  have hx := xorAll (s := W) (fr := 16 * 0 + 16) (b := B_X11_chain_0_32 0) (fun j z => rfl) (by decide)
  have e : itr (B_X11_block_0_3 (itr (B_X11_chain_0_32 0) 16 W) (16 * 0 + 16)) 16 st = itr (B_X11_block_0_3 E p) 16 st := itr_congr (fun i z hi => by
    unfold B_X11_block_0_3
    rw [hx, if_pos (by omega), show 16 * 0 + 16 + i - 16 = i by omega, h0 i hi, Int32.xor_zero, show 16 * 0 + 16 + i = 16 + i by omega, hW i hi]) st
  rw [e]
  have o1 := (itr_off (b := B_X11_block_0_144 (16 * 0 + 16) (itr (B_X11_block_0_98 bx n rk) n (F_X11_addRound rk (itr (B_X11_block_0_3 E p) 16 st) 0, ot))) (fr := 16 * 0 + 16) (w := (itr (B_X11_block_0_98 bx n rk) n (F_X11_addRound rk (itr (B_X11_block_0_3 E p) 16 st) 0, ot)).1) (fun _ _ => rfl) 16 (itr (B_X11_chain_0_32 0) 16 W)).1 j hj
  have o2 := (itr_off (b := B_X11_block_0_144 p (itr (B_X11_block_0_98 bx n rk) n (F_X11_addRound rk (itr (B_X11_block_0_3 E p) 16 st) 0, ot))) (fr := p) (w := (itr (B_X11_block_0_98 bx n rk) n (F_X11_addRound rk (itr (B_X11_block_0_3 E p) 16 st) 0, ot)).1) (fun _ _ => rfl) 16 E).1 j hj
  rw [o2]
  exact o1
theorem block1_at {bb rk st ot W Z : Nat → Int32} {n : Nat} (h0 : ∀ k : Nat, k < 16 → W k = 0) (hW : ∀ k : Nat, k < 16 → W (16 + k) = Z k) (j : Nat) (hj : j < 16) :
    (F_X11_chain_1 bb rk n st ot W 1).2.2 (16 + j) = (F_X11_block_1 bb rk n st ot Z 0).2.2 j := by
  unfold F_X11_chain_1
  rw [gLet_p, itr_s, itr_0]
  show (B_X11_chain_1_2 bb rk n 1 0 (st, ot, W)).2.2 (16 + j) = _
  unfold B_X11_chain_1_2 F_X11_block_1
  simp only [gLet_p]
  have e : itr (B_X11_block_1_3 W (16 * (1 - 0))) 16 st = itr (B_X11_block_1_3 Z 0) 16 st := itr_congr (fun i z hi => by
    unfold B_X11_block_1_3
    rw [show 16 * (1 - 0) + i = 16 + i by omega, hW i hi, Nat.zero_add]) st
  rw [e]
  generalize F_X11_addRound rk (itr (B_X11_block_1_39 rk n bb) n (itr (B_X11_block_1_3 Z 0) 16 st, ot)).1 0 = u
  obtain ⟨o1, o3⟩ := itr_off (b := B_X11_block_1_144 (16 * (1 - 0)) u) (fr := 16 * (1 - 0)) (w := u) (fun _ _ => rfl) 16 W
  have o2 := (itr_off (b := B_X11_block_1_144 0 u) (fr := 0) (w := u) (fun _ _ => rfl) 16 Z).1 j hj
  have hx := xorAll (s := itr (B_X11_block_1_144 (16 * (1 - 0)) u) 16 W) (fr := 16 * (1 - 0)) (b := B_X11_chain_1_97 1 0) (fun j z => rfl) (by decide)
  rw [Nat.zero_add] at o2
  rw [o2, hx, if_pos (by omega), show 16 + j - 16 = j by omega, o3 j (by omega), h0 j hj, Int32.xor_zero]
  exact o1 j hj
