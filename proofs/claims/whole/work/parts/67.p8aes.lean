/-! AES: blocks -/
theorem upd_n' (f : Nat → Int32) (m k : Nat) (x : Int32) (h : k ≠ m) : upd f m x k = f k := pk_un h
theorem addKey_R {ky rk cl st : Nat → Int32} {r n : Nat} (hr : r ≤ 14) (ek : eqA n ky rk) (hn : 16 * r + 16 ≤ n) (e : eqA 16 cl st) : eqA 16 (F_X0_addKey ky cl (nI r)) (F_X11_addRound rk st r) := by
  have key : eqA 16 (itr (B_X0_addKey_2 (nI r) ky) 16 cl) (itr (B_X11_addRound_2 rk r) 16 st) := by
    refine itr_rel (fun _ z v => eqA 16 z v) e ?_
    intro i z v hi hz
    have ei : (16 * nI r) + nI i = nI (16 * r + i) := by rw [show (16 : Int32) = nI 16 from rfl, pk_mul, nI_add]
    have e1 : B_X0_addKey_2 (nI r) ky i z = upd z i ((z i) ^^^ (ky (16 * r + i))) := by
      unfold B_X0_addKey_2
      dsimp only [gLet]
      rw [ei, if_neg (nI_pos (by omega)), if_neg (show ¬ (240 : Int32) ≤ nI (16 * r + i) from nI_ge (b := 240) (by omega) (by decide)), nI_clamp (by omega)]
    rw [e1]
    show eqA 16 _ (upd v i ((v i) ^^^ (rk (16 * r + i))))
    exact eqA_upd hz i (by rw [hz i hi, ek _ (by omega)])
  exact key
def sr (k : Nat) : Nat := (k + 4 * (k % 4)) % 16
def sl (k : Nat) : Nat := (k + 12 * (k % 4)) % 16
theorem sub0_at (bx st ot : Nat → Int32) (k : Nat) (hk : k < 16) : (F_X11_substitute_0 bx st ot).1 k = bx (st (sr k)).toNatClampNeg := by
  have e1 : (F_X11_substitute_0 bx st ot).1 k = (F_X11_substitute_0 bx st ot).2 k := itr_fill (b := B_X11_substitute_0_98 ot bx st) (w := fun i => (F_X11_substitute_0 bx st ot).2 i) (fun _ _ => rfl) 16 st k hk
  rw [e1]
  unfold F_X11_substitute_0
  dsimp only [gLet]
  match k, hk with
  | 0, _ => simp [upd, sr]
  | 1, _ => simp [upd, sr]
  | 2, _ => simp [upd, sr]
  | 3, _ => simp [upd, sr]
  | 4, _ => simp [upd, sr]
  | 5, _ => simp [upd, sr]
  | 6, _ => simp [upd, sr]
  | 7, _ => simp [upd, sr]
  | 8, _ => simp [upd, sr]
  | 9, _ => simp [upd, sr]
  | 10, _ => simp [upd, sr]
  | 11, _ => simp [upd, sr]
  | 12, _ => simp [upd, sr]
  | 13, _ => simp [upd, sr]
  | 14, _ => simp [upd, sr]
  | 15, _ => simp [upd, sr]
  | k + 16, h => exact absurd h (by omega)
theorem sub1_at (bx st ot : Nat → Int32) (k : Nat) (hk : k < 16) : (F_X11_substitute_1 bx st ot).1 k = bx (st (sl k)).toNatClampNeg := by
  have e1 : (F_X11_substitute_1 bx st ot).1 k = (F_X11_substitute_1 bx st ot).2 k := itr_fill (b := B_X11_substitute_1_98 ot bx st) (w := fun i => (F_X11_substitute_1 bx st ot).2 i) (fun _ _ => rfl) 16 st k hk
  rw [e1]
  unfold F_X11_substitute_1
  dsimp only [gLet]
  match k, hk with
  | 0, _ => simp [upd, sl]
  | 1, _ => simp [upd, sl]
  | 2, _ => simp [upd, sl]
  | 3, _ => simp [upd, sl]
  | 4, _ => simp [upd, sl]
  | 5, _ => simp [upd, sl]
  | 6, _ => simp [upd, sl]
  | 7, _ => simp [upd, sl]
  | 8, _ => simp [upd, sl]
  | 9, _ => simp [upd, sl]
  | 10, _ => simp [upd, sl]
  | 11, _ => simp [upd, sl]
  | 12, _ => simp [upd, sl]
  | 13, _ => simp [upd, sl]
  | 14, _ => simp [upd, sl]
  | 15, _ => simp [upd, sl]
  | k + 16, h => exact absurd h (by omega)
theorem shift_R {z : (Nat → Int32) × (Nat → Int32)} {mv bx st ot : Nat → Int32} (hbx : ∀ k : Nat, k < 256 → bx k = gTf 5 k) (e : eqA 16 z.1 st) (hB : bA 16 st) : eqA 16 (itr (B_X0_shutBlock_17 z) 16 mv) (F_X11_substitute_0 bx st ot).1 := by
  intro k hk
  have hs : sr k < 16 := Nat.mod_lt _ (by decide)
  rw [itr_fill (b := B_X0_shutBlock_17 z) (w := fun i => gTf 5 ((z.1 ((i + (4 * (i % 4))) % 16)) &&& 255).toNatClampNeg) (fun _ _ => rfl) 16 mv k hk, sub0_at bx st ot k hk]
  show gTf 5 ((z.1 (sr k)) &&& 255).toNatClampNeg = _
  rw [e _ hs, and255_of (hB _ hs), hbx _ (isB_cl (hB _ hs))]
theorem sl_ix (k : Nat) (hk : k < 16) : (((nI k) - (nI (4 * (k % 4)))) &&& 15).toNatClampNeg = sl k := by
  have h : ∀ j : Fin 16, (((nI j.val) - (nI (4 * (j.val % 4)))) &&& 15).toNatClampNeg = sl j.val := by decide +kernel
  exact h ⟨k, hk⟩
theorem back_R_t {mv cl bx st ot : Nat → Int32} (hbx : ∀ k : Nat, k < 256 → bx k = gTf 6 k) (e : eqA 16 mv st) (hB : bA 16 st) : eqA 16 (itr (B_X0_openBlock_48_t mv) 16 cl) (F_X11_substitute_1 bx st ot).1 := by
  intro k hk
  have hs : sl k < 16 := Nat.mod_lt _ (by decide)
  rw [itr_fill (b := B_X0_openBlock_48_t mv) (w := fun i => gTf 6 ((mv (((nI i) - (nI (4 * (i % 4)))) &&& 15).toNatClampNeg) &&& 255).toNatClampNeg) (fun _ _ => rfl) 16 cl k hk, sub1_at bx st ot k hk]
  rw [sl_ix k hk, e _ hs, and255_of (hB _ hs), hbx _ (isB_cl (hB _ hs))]
theorem back_R_f {mv cl bx st ot : Nat → Int32} (hbx : ∀ k : Nat, k < 256 → bx k = gTf 6 k) (e : eqA 16 mv st) (hB : bA 16 st) : eqA 16 (itr (B_X0_openBlock_48_f mv) 16 cl) (F_X11_substitute_1 bx st ot).1 := back_R_t hbx e hB
theorem eqA.bA {n : Nat} {f g : Nat → Int32} (e : eqA n f g) (h : bA n g) : bA n f := fun k hk => by rw [e k hk]; exact h k hk
theorem shutBlock_R {ky rk cl mv st ot bx : Nat → Int32} {n : Nat} (hn : n ≤ 14) (ek : eqA (16 * n + 16) ky rk) (hrk : bA (16 * n + 16) rk) (hbx : ∀ k : Nat, k < 256 → bx k = gTf 5 k) (hbB : bA 256 bx) (e : eqA 16 cl st) (hB : bA 16 st) :
    eqA 16 (F_X0_shutBlock (nI n) ky cl mv).1 (itr (B_X11_block_0_98 bx n rk) n (F_X11_addRound rk st 0, ot)).1 := by
  have h0 : eqA 16 (F_X0_addKey ky cl (nI 0)) (F_X11_addRound rk st 0) := addKey_R (by omega) ek (by omega) e
  have b0 : bA 16 (F_X11_addRound rk st 0) := L_addRound_B hB (fun k hk => hrk _ (by omega))
  have key : (fun (_ : Nat) (z w : (Nat → Int32) × (Nat → Int32)) => eqA 16 z.1 w.1 ∧ bA 16 w.1) n (itr (B_X0_shutBlock_7 (nI n) ky) n (F_X0_addKey ky cl 0, mv)) (itr (B_X11_block_0_98 bx n rk) n (F_X11_addRound rk st 0, ot)) := by
    refine itr_rel (fun (_ : Nat) (z w : (Nat → Int32) × (Nat → Int32)) => eqA 16 z.1 w.1 ∧ bA 16 w.1) ⟨h0, b0⟩ ?_
    intro i z w hi hz
    obtain ⟨h1, h2⟩ := hz
    have hs := shift_R (mv := z.2) (ot := w.2) hbx h1 h2
    have hsB := L_sub0_B (ot := w.2) hbB h2
    unfold B_X0_shutBlock_7 B_X11_block_0_98
    dsimp only [gLet]
    by_cases hl : n ≤ 1 + i
    · rw [if_pos (show nI n ≤ nI (1 + i) from nI_le hl (by omega)), if_pos hl]
      exact ⟨addKey_R (by omega) ek (by omega) (fun k hk => (mixAll0 _ _ k hk).trans (hs k hk)), L_addRound_B hsB (fun k hk => hrk _ (by omega))⟩
    · rw [if_neg (show ¬ nI n ≤ nI (1 + i) from nI_ge (by omega) (by omega)), if_neg hl]
      exact ⟨addKey_R (by omega) ek (by omega) (mix_R hs hsB), L_addRound_B (L_mix_B ⟨(by decide), (by decide)⟩ ⟨(by decide), (by decide)⟩ ⟨(by decide), (by decide)⟩ ⟨(by decide), (by decide)⟩ hsB) (fun k hk => hrk _ (by omega))⟩
  have e1 : (F_X0_shutBlock (nI n) ky cl mv).1 = (itr (B_X0_shutBlock_7 (nI n) ky) (nI n).toNatClampNeg (F_X0_addKey ky cl 0, mv)).1 := rfl
  rw [e1, nI_clamp (by omega)]
  exact key.1
theorem openBlock_R {ky rk cl mv st ot bx : Nat → Int32} {n : Nat} (hn : n ≤ 14) (ek : eqA (16 * n + 16) ky rk) (hrk : bA (16 * n + 16) rk) (hbx : ∀ k : Nat, k < 256 → bx k = gTf 6 k) (hbB : bA 256 bx) (e : eqA 16 cl st) (hB : bA 16 st) :
    eqA 16 (F_X0_openBlock (nI n) ky cl mv).1 (F_X11_addRound rk (itr (B_X11_block_1_39 rk n bx) n (st, ot)).1 0) := by
  have key : (fun (_ : Nat) (z w : (Nat → Int32) × (Nat → Int32)) => eqA 16 z.1 w.1 ∧ bA 16 w.1) n (itr (fun i z => B_X0_openBlock_5 ky (nI n) (n - 1 - i) z) n (cl, mv)) (itr (B_X11_block_1_39 rk n bx) n (st, ot)) := by
    refine itr_rel (fun (_ : Nat) (z w : (Nat → Int32) × (Nat → Int32)) => eqA 16 z.1 w.1 ∧ bA 16 w.1) ⟨e, hB⟩ ?_
    intro i z w hi hz
    obtain ⟨h1, h2⟩ := hz
    have er : n - 1 - i + 1 = n - i := by omega
    unfold B_X0_openBlock_5 B_X11_block_1_39
    dsimp only [gLet]
    rw [er]
    have ha : eqA 16 (F_X0_addKey ky z.1 (nI (n - i))) (F_X11_addRound rk w.1 (n - i)) := addKey_R (by omega) ek (by omega) h1
    have haB : bA 16 (F_X11_addRound rk w.1 (n - i)) := L_addRound_B h2 (fun k hk => hrk _ (by omega))
    by_cases hl : n ≤ n - i
    · rw [if_pos (show nI n ≤ nI (n - i) from nI_le hl (by omega)), if_pos hl]
      exact ⟨back_R_t hbx (fun k hk => (unmixAll0 _ _ k hk).trans (ha k hk)) haB, L_sub1_B hbB haB⟩
    · rw [if_neg (show ¬ nI n ≤ nI (n - i) from nI_ge (by omega) (by omega)), if_neg hl]
      have hm : bA 16 (F_X11_mix (F_X11_addRound rk w.1 (n - i)) w.2 14 11 13 9).1 := L_mix_B ⟨(by decide), (by decide)⟩ ⟨(by decide), (by decide)⟩ ⟨(by decide), (by decide)⟩ ⟨(by decide), (by decide)⟩ haB
      exact ⟨back_R_f hbx (unmix_R ha haB) hm, L_sub1_B hbB hm⟩
  have e1 : (F_X0_openBlock (nI n) ky cl mv).1 = F_X0_addKey ky (itd (B_X0_openBlock_5 ky (nI n)) (nI n).toNatClampNeg (cl, mv)).1 (nI 0) := rfl
  rw [e1, nI_clamp (by omega), itd_itr]
  exact addKey_R (by omega) ek (by omega) key.1
/-! AES: the keys of all rounds -/
def kX (bx : Nat → Int32) (mo : Int32) (rk : Nat → Int32) (sz w j : Nat) : Int32 :=
  rk (4 * w + j - sz) ^^^ (if (4 * w) % sz = 0 then (if j = 0 then bx (rk (4 * w - 4 + (j + 1) % 4)).toNatClampNeg ^^^ mo else bx (rk (4 * w - 4 + (j + 1) % 4)).toNatClampNeg) else if sz = 32 ∧ w % 8 = 4 then bx (rk (4 * w - 4 + j)).toNatClampNeg else rk (4 * w - 4 + j))
theorem in16 {w : Nat} {bx Y z0 : Nat → Int32} {zo : Int32 × (Nat → Int32)} (hw : 16 ≤ 4 * w) : (∀ k : Nat, k < 4 * w → itr (B_X11_setKey_16_31 w bx zo Y) 4 z0 k = z0 k) ∧ ∀ j : Nat, j < 4 → itr (B_X11_setKey_16_31 w bx zo Y) 4 z0 (4 * w + j) = kX bx zo.1 z0 16 w j := by
  refine itr_inv (fun (i : Nat) (z : Nat → Int32) => (∀ k : Nat, k < 4 * w → z k = z0 k) ∧ ∀ j : Nat, j < i → z (4 * w + j) = kX bx zo.1 z0 16 w j) ⟨fun k _ => rfl, fun j hj => absurd hj (Nat.not_lt_zero j)⟩ ?_
  intro i z hi h
  obtain ⟨h1, h2⟩ := h
  have e : B_X11_setKey_16_31 w bx zo Y i z = upd z (4 * w + i) (kX bx zo.1 z0 16 w i) := by
    unfold B_X11_setKey_16_31 kX
    dsimp only [gLet]
    rw [if_pos (show 16 ≤ 4 * w + i by omega), h1 (4 * w + i - 16) (by omega), h1 (4 * w - 4 + (i + 1) % 4) (by omega), h1 (4 * w - 4 + i) (by omega)]
    by_cases a : (4 * w) % 16 = 0
    · rw [if_pos a, if_pos a]
      by_cases b : i = 0
      · rw [if_pos b, if_pos b]
      · rw [if_neg b, if_neg b]
    · rw [if_neg a, if_neg a]
      rw [if_neg (fun q => absurd q.1 (by decide))]
  rw [e]
  refine ⟨fun k hk => by rw [upd_n _ (by omega)]; exact h1 k hk, fun j hj => ?_⟩
  by_cases ej : j = i
  · subst ej; rw [upd_s]
  · rw [upd_n _ (by omega)]; exact h2 j (by omega)
theorem in32 {w : Nat} {bx Y z0 : Nat → Int32} {zo : Int32 × (Nat → Int32)} (hw : 32 ≤ 4 * w) : (∀ k : Nat, k < 4 * w → itr (B_X11_setKey_32_31 w bx zo Y) 4 z0 k = z0 k) ∧ ∀ j : Nat, j < 4 → itr (B_X11_setKey_32_31 w bx zo Y) 4 z0 (4 * w + j) = kX bx zo.1 z0 32 w j := by
  refine itr_inv (fun (i : Nat) (z : Nat → Int32) => (∀ k : Nat, k < 4 * w → z k = z0 k) ∧ ∀ j : Nat, j < i → z (4 * w + j) = kX bx zo.1 z0 32 w j) ⟨fun k _ => rfl, fun j hj => absurd hj (Nat.not_lt_zero j)⟩ ?_
  intro i z hi h
  obtain ⟨h1, h2⟩ := h
  have e : B_X11_setKey_32_31 w bx zo Y i z = upd z (4 * w + i) (kX bx zo.1 z0 32 w i) := by
    unfold B_X11_setKey_32_31 kX
    dsimp only [gLet]
    rw [if_pos (show 32 ≤ 4 * w + i by omega), h1 (4 * w + i - 32) (by omega), h1 (4 * w - 4 + (i + 1) % 4) (by omega), h1 (4 * w - 4 + i) (by omega)]
    by_cases a : (4 * w) % 32 = 0
    · rw [if_pos a, if_pos a]
      by_cases b : i = 0
      · rw [if_pos b, if_pos b]
      · rw [if_neg b, if_neg b]
    · rw [if_neg a, if_neg a]
      by_cases b : w % 8 = 4
      · rw [if_pos b, if_pos ⟨rfl, b⟩]
      · rw [if_neg b, if_neg (fun q => b q.2)]
  rw [e]
  refine ⟨fun k hk => by rw [upd_n _ (by omega)]; exact h1 k hk, fun j hj => ?_⟩
  by_cases ej : j = i
  · subst ej; rw [upd_s]
  · rw [upd_n _ (by omega)]; exact h2 j (by omega)
theorem subLast_at (la : Nat → Int32) : F_X0_substituteLast la 0 = gTf 5 ((la 0) &&& 255).toNatClampNeg ∧ F_X0_substituteLast la 1 = gTf 5 ((la 1) &&& 255).toNatClampNeg ∧ F_X0_substituteLast la 2 = gTf 5 ((la 2) &&& 255).toNatClampNeg ∧ F_X0_substituteLast la 3 = gTf 5 ((la 3) &&& 255).toNatClampNeg := by
  unfold F_X0_substituteLast
  dsimp only [gLet]
  refine ⟨?_, ?_, ?_, ?_⟩ <;> simp [upd]
theorem turnLast_at (la : Nat → Int32) (p : Int32) : F_X0_turnLast la p 0 = gTf 5 ((la 1) &&& 255).toNatClampNeg ^^^ p ∧ F_X0_turnLast la p 1 = gTf 5 ((la 2) &&& 255).toNatClampNeg ∧ F_X0_turnLast la p 2 = gTf 5 ((la 3) &&& 255).toNatClampNeg ∧ F_X0_turnLast la p 3 = gTf 5 ((la 0) &&& 255).toNatClampNeg := by
  obtain ⟨L0, hL0⟩ : ∃ L : Nat → Int32, L = upd (upd (upd (upd la 0 (la 1)) 1 ((upd la 0 (la 1)) 2)) 2 ((upd (upd la 0 (la 1)) 1 ((upd la 0 (la 1)) 2)) 3)) 3 (la 0) := ⟨_, rfl⟩
  have e : F_X0_turnLast la p = upd (F_X0_substituteLast L0) 0 (F_X0_substituteLast L0 0 ^^^ p) := by rw [hL0]; unfold F_X0_turnLast gLet; rfl
  obtain ⟨h0, h1, h2, h3⟩ := subLast_at L0
  rw [show L0 0 = la 1 by rw [hL0]; simp [upd]] at h0
  rw [show L0 1 = la 2 by rw [hL0]; simp [upd]] at h1
  rw [show L0 2 = la 3 by rw [hL0]; simp [upd]] at h2
  rw [show L0 3 = la 0 by rw [hL0]; simp [upd]] at h3
  rw [e]
  generalize F_X0_substituteLast L0 = S at h0 h1 h2 h3 ⊢
  refine ⟨?_, ?_, ?_, ?_⟩
  · rw [upd_s, h0]
  · rw [upd_n _ (by decide), h1]
  · rw [upd_n _ (by decide), h2]
  · rw [upd_n _ (by decide), h3]
/-- the last four bytes -/
def la4 (la ky : Nat → Int32) (p : Nat) : Nat → Int32 := upd (upd (upd (upd la 0 (ky (p + 0))) 1 (ky (p + 1))) 2 (ky (p + 2))) 3 (ky (p + 3))
theorem la4_at (la ky : Nat → Int32) (p : Nat) : la4 la ky p 0 = ky p ∧ la4 la ky p 1 = ky (p + 1) ∧ la4 la ky p 2 = ky (p + 2) ∧ la4 la ky p 3 = ky (p + 3) := by
  unfold la4
  refine ⟨?_, ?_, ?_, ?_⟩ <;> simp [upd]
/-- four bytes behind one another, each xor-ed with one far before -/
def k4 (ky : Nat → Int32) (s sz : Nat) (u : Nat → Int32) : Nat → Int32 := upd (upd (upd (upd ky (s + 0) (ky (s - sz + 0) ^^^ u 0)) (s + 1) (ky (s - sz + 1) ^^^ u 1)) (s + 2) (ky (s - sz + 2) ^^^ u 2)) (s + 3) (ky (s - sz + 3) ^^^ u 3)
theorem k4_lt {ky u : Nat → Int32} {s sz k : Nat} (h : k < s) : k4 ky s sz u k = ky k := by
  unfold k4
  rw [upd_n _ (by omega), upd_n _ (by omega), upd_n _ (by omega), upd_n _ (by omega)]
theorem k4_at {ky u : Nat → Int32} {s sz : Nat} (j : Nat) (hj : j < 4) : k4 ky s sz u (s + j) = ky (s - sz + j) ^^^ u j := by
  unfold k4
  match j, hj with
  | 0, _ => rw [upd_n _ (by omega), upd_n _ (by omega), upd_n _ (by omega), upd_s]
  | 1, _ => rw [upd_n _ (by omega), upd_n _ (by omega), upd_s]
  | 2, _ => rw [upd_n _ (by omega), upd_s]
  | 3, _ => rw [upd_s]
theorem spread16_step (i : Nat) (z : Int32 × (Nat → Int32) × (Nat → Int32)) : B_X0_spreadKey_63_t i z = (if (16 + 4 * i) % 16 = 0 then (F_X0_twice z.1, k4 z.2.1 (16 + 4 * i) 16 (F_X0_turnLast (la4 z.2.2 z.2.1 (16 + 4 * i - 4)) z.1), F_X0_turnLast (la4 z.2.2 z.2.1 (16 + 4 * i - 4)) z.1) else if (16 + 4 * i) % 16 = 16 then (z.1, k4 z.2.1 (16 + 4 * i) 16 (F_X0_substituteLast (la4 z.2.2 z.2.1 (16 + 4 * i - 4))), F_X0_substituteLast (la4 z.2.2 z.2.1 (16 + 4 * i - 4))) else (z.1, k4 z.2.1 (16 + 4 * i) 16 (la4 z.2.2 z.2.1 (16 + 4 * i - 4)), la4 z.2.2 z.2.1 (16 + 4 * i - 4))) := by
  unfold B_X0_spreadKey_63_t k4
  dsimp only [gLet]
  split
  · simp (disch := omega) only [upd_n']
    rfl
  · split
    · simp (disch := omega) only [upd_n']
      rfl
    · simp (disch := omega) only [upd_n']
      rfl
theorem spread32_step (i : Nat) (z : Int32 × (Nat → Int32) × (Nat → Int32)) : B_X0_spreadKey_63_f i z = (if (32 + 4 * i) % 32 = 0 then (F_X0_twice z.1, k4 z.2.1 (32 + 4 * i) 32 (F_X0_turnLast (la4 z.2.2 z.2.1 (32 + 4 * i - 4)) z.1), F_X0_turnLast (la4 z.2.2 z.2.1 (32 + 4 * i - 4)) z.1) else if (32 + 4 * i) % 32 = 16 then (z.1, k4 z.2.1 (32 + 4 * i) 32 (F_X0_substituteLast (la4 z.2.2 z.2.1 (32 + 4 * i - 4))), F_X0_substituteLast (la4 z.2.2 z.2.1 (32 + 4 * i - 4))) else (z.1, k4 z.2.1 (32 + 4 * i) 32 (la4 z.2.2 z.2.1 (32 + 4 * i - 4)), la4 z.2.2 z.2.1 (32 + 4 * i - 4))) := by
  unfold B_X0_spreadKey_63_f k4
  dsimp only [gLet]
  split
  · simp (disch := omega) only [upd_n']
    rfl
  · split
    · simp (disch := omega) only [upd_n']
      rfl
    · simp (disch := omega) only [upd_n']
      rfl
theorem itr_split {σ : Type} (b : Nat → σ → σ) (a n : Nat) (s : σ) : itr b (a + n) s = itr (fun i z => b (a + i) z) n (itr b a s) := by
  induction n with
  | zero => rw [itr_0]; rfl
  | succ n ih => rw [itr_s, ← ih, ← Nat.add_assoc, itr_s]
theorem first16 {bx Y rk : Nat → Int32} : (itr (B_X11_setKey_16_15 bx Y) 4 (1, rk)).1 = 1 ∧ ∀ k : Nat, k < 16 → (itr (B_X11_setKey_16_15 bx Y) 4 (1, rk)).2 k = Y k := by
  have key : (itr (B_X11_setKey_16_15 bx Y) 4 (1, rk)).1 = 1 ∧ ∀ k : Nat, k < 4 * 4 → (itr (B_X11_setKey_16_15 bx Y) 4 (1, rk)).2 k = Y k := by
    refine itr_inv (fun (i : Nat) (z : Int32 × (Nat → Int32)) => z.1 = 1 ∧ ∀ k : Nat, k < 4 * i → z.2 k = Y k) ⟨rfl, fun k hk => absurd hk (by omega)⟩ ?_
    intro i z hi h
    obtain ⟨h1, h2⟩ := h
    have hin : (∀ k : Nat, k < 4 * i → itr (B_X11_setKey_16_31 i bx z Y) 4 z.2 k = z.2 k) ∧ ∀ j : Nat, j < 4 → itr (B_X11_setKey_16_31 i bx z Y) 4 z.2 (4 * i + j) = Y (4 * i + j) := by
      refine itr_inv (fun (j : Nat) (y : Nat → Int32) => (∀ k : Nat, k < 4 * i → y k = z.2 k) ∧ ∀ t : Nat, t < j → y (4 * i + t) = Y (4 * i + t)) ⟨fun k _ => rfl, fun t ht => absurd ht (Nat.not_lt_zero t)⟩ ?_
      intro j y hj hy
      have e : B_X11_setKey_16_31 i bx z Y j y = upd y (4 * i + j) (Y (4 * i + j)) := by
        unfold B_X11_setKey_16_31
        dsimp only [gLet]
        rw [if_neg (show ¬ 16 ≤ 4 * i + j by omega)]
      rw [e]
      refine ⟨fun k hk => by rw [upd_n _ (by omega)]; exact hy.1 k hk, fun t ht => ?_⟩
      by_cases et : t = j
      · subst et; rw [upd_s]
      · rw [upd_n _ (by omega)]; exact hy.2 t (by omega)
    unfold B_X11_setKey_16_15
    dsimp only [gLet]
    rw [if_pos (show 4 * i < 16 by omega)]
    refine ⟨h1, fun k hk => ?_⟩
    dsimp only
    by_cases hk4 : k < 4 * i
    · rw [hin.1 k hk4, h2 k hk4]
    · have := hin.2 (k - 4 * i) (by omega)
      rw [show 4 * i + (k - 4 * i) = k by omega] at this
      exact this
  exact key
theorem keys16_R {n2 : Nat} {q : gRow} {ky la bx Y rk : Nat → Int32} (h : rowR n2 q Y 16) (hn : n2 < 2147483648) (hbx : ∀ k : Nat, k < 256 → bx k = gTf 5 k) (hbB : bA 256 bx) :
    (F_X0_spreadKey n2 ky la q).1 = 10 ∧ eqA 176 (F_X0_spreadKey n2 ky la q).2.1 (F_X11_setKey_16 bx rk Y).1 := by
  have hY : ∀ k : Nat, k < 16 → isB (Y k) := fun k hk => h.byt hk
  have h36 : ∀ k : Nat, k < 16 → itr (B_X0_spreadKey_36_t n2 q) 16 ky k = Y k := fun k hk => by
    rw [itr_fill (b := B_X0_spreadKey_36_t n2 q) (w := fun i => F_X5_at n2 q (nI i)) (fun _ _ => rfl) 16 ky k hk]
    exact h.at hn hk
  obtain ⟨f1, f2⟩ := first16 (bx := bx) (Y := Y) (rk := rk)
  have key : (fun (i : Nat) (z : Int32 × (Nat → Int32) × (Nat → Int32)) (w : Int32 × (Nat → Int32)) => z.1 = w.1 ∧ isB w.1 ∧ eqA (16 + 4 * i) z.2.1 w.2 ∧ bA (16 + 4 * i) w.2) 40 (itr B_X0_spreadKey_63_t 40 (1, itr (B_X0_spreadKey_36_t n2 q) 16 ky, la)) (itr (fun i z => B_X11_setKey_16_15 bx Y (4 + i) z) 40 (itr (B_X11_setKey_16_15 bx Y) 4 (1, rk))) := by
    refine itr_rel (fun (i : Nat) (z : Int32 × (Nat → Int32) × (Nat → Int32)) (w : Int32 × (Nat → Int32)) => z.1 = w.1 ∧ isB w.1 ∧ eqA (16 + 4 * i) z.2.1 w.2 ∧ bA (16 + 4 * i) w.2) ⟨f1.symm, by rw [f1]; exact isB_of (n := 1) (by decide), fun k hk => by rw [f2 k (by omega)]; exact h36 k (by omega), fun k hk => by rw [f2 k (by omega)]; exact hY k (by omega)⟩ ?_
    intro i z w hi hz
    obtain ⟨h1, h2, h3, h4⟩ := hz
    have hin := in16 (w := 4 + i) (bx := bx) (Y := Y) (z0 := w.2) (zo := w) (by omega)
    have hfin : (B_X11_setKey_16_15 bx Y (4 + i) w).2 = itr (B_X11_setKey_16_31 (4 + i) bx w Y) 4 w.2 ∧ (B_X11_setKey_16_15 bx Y (4 + i) w).1 = (if (4 * (4 + i)) % 16 = 0 then F_X11_times w.1 2 else w.1) := by
      unfold B_X11_setKey_16_15
      dsimp only [gLet]
      rw [if_neg (show ¬ 4 * (4 + i) < 16 by omega)]
      split
      · exact ⟨rfl, rfl⟩
      · exact ⟨rfl, rfl⟩
    have hB4 := L_setKey16_in (w := 4 + i) (Y := Y) hY hbB h2 (z0 := w.2) (fun k hk => h4 k (by omega)) (by omega) 4 (Nat.le_refl _)
    have es : 16 + 4 * i = 4 * (4 + i) := by omega
    -- the value at a new byte
    have val : ∀ (u : Nat → Int32) (x : Int32) (l : Nat → Int32), (∀ j : Nat, j < 4 → z.2.1 (4 * (4 + i) - 16 + j) ^^^ u j = kX bx w.1 w.2 16 (4 + i) j) → x = (if (4 * (4 + i)) % 16 = 0 then F_X11_times w.1 2 else w.1) → isB x → (fun (z : Int32 × (Nat → Int32) × (Nat → Int32)) (w : Int32 × (Nat → Int32)) => z.1 = w.1 ∧ isB w.1 ∧ eqA (16 + 4 * (i + 1)) z.2.1 w.2 ∧ bA (16 + 4 * (i + 1)) w.2) (x, k4 z.2.1 (16 + 4 * i) 16 u, l) (B_X11_setKey_16_15 bx Y (4 + i) w) := by
      intro u x l hu hx hxB
      refine ⟨hx.trans hfin.2.symm, by rw [hfin.2, ← hx]; exact hxB, fun k hk => ?_, fun k hk => ?_⟩
      · rw [hfin.1]
        dsimp only
        by_cases hk4 : k < 4 * (4 + i)
        · rw [k4_lt (by omega), hin.1 k hk4]
          exact h3 k (by omega)
        · have e1 := k4_at (ky := z.2.1) (u := u) (s := 16 + 4 * i) (sz := 16) (k - 4 * (4 + i)) (by omega)
          have e2 := hin.2 (k - 4 * (4 + i)) (by omega)
          rw [show 16 + 4 * i + (k - 4 * (4 + i)) = k by omega, es] at e1
          rw [show 4 * (4 + i) + (k - 4 * (4 + i)) = k by omega] at e2
          rw [es, e1, e2]
          exact hu _ (by omega)
      · rw [hfin.1]
        exact hB4 k (by omega)
    have hz1 : ∀ k : Nat, k < 4 * (4 + i) → z.2.1 k = w.2 k := fun k hk => h3 k (by omega)
    have hwB : ∀ k : Nat, k < 4 * (4 + i) → isB (w.2 k) := fun k hk => h4 k (by omega)
    obtain ⟨l0, l1, l2, l3⟩ := la4_at z.2.2 z.2.1 (4 * (4 + i) - 4)
    have sb : ∀ p : Nat, p < 4 * (4 + i) → gTf 5 ((z.2.1 p) &&& 255).toNatClampNeg = bx (w.2 p).toNatClampNeg := fun p hp => by rw [hz1 p hp, and255_of (hwB p hp), hbx _ (isB_cl (hwB p hp))]
    rw [spread16_step, es]
    by_cases a : (4 * (4 + i)) % 16 = 0
    · rw [if_pos a]
      obtain ⟨t0, t1, t2, t3⟩ := turnLast_at (la4 z.2.2 z.2.1 (4 * (4 + i) - 4)) z.1
      rw [← es]
      refine val _ _ _ (fun j hj => ?_) (by rw [if_pos a, h1, ti2' h2]) (by rw [h1]; exact isB_tw h2)
      rw [es]
      unfold kX
      rw [if_pos a, hz1 _ (by omega)]
      match j, hj with
      | 0, _ => rw [t0, l1, sb _ (by omega), h1, if_pos rfl]; rfl
      | 1, _ => rw [t1, l2, sb _ (by omega), if_neg (by decide), show 4 * (4 + i) - 16 + 1 = 4 * (4 + i) + 1 - 16 by omega]
      | 2, _ => rw [t2, l3, sb _ (by omega), if_neg (by decide), show 4 * (4 + i) - 16 + 2 = 4 * (4 + i) + 2 - 16 by omega]
      | 3, _ => rw [t3, l0, sb _ (by omega), if_neg (by decide), show 4 * (4 + i) - 16 + 3 = 4 * (4 + i) + 3 - 16 by omega]; rfl
    · rw [if_neg a]
      rw [if_neg (show ¬ (4 * (4 + i)) % 16 = 16 by omega), ← es]
      refine val _ _ _ (fun j hj => ?_) (by rw [if_neg a, h1]) (by rw [h1]; exact h2)
      rw [es]
      unfold kX
      rw [if_neg a, if_neg (fun q => absurd q.1 (by decide)), hz1 _ (by omega)]
      match j, hj with
      | 0, _ => rw [l0, hz1 _ (by omega)]; rfl
      | 1, _ => rw [l1, hz1 _ (by omega), show 4 * (4 + i) - 16 + 1 = 4 * (4 + i) + 1 - 16 by omega]
      | 2, _ => rw [l2, hz1 _ (by omega), show 4 * (4 + i) - 16 + 2 = 4 * (4 + i) + 2 - 16 by omega]
      | 3, _ => rw [l3, hz1 _ (by omega), show 4 * (4 + i) - 16 + 3 = 4 * (4 + i) + 3 - 16 by omega]
  have e1 : F_X0_spreadKey n2 ky la q = (10, (itr B_X0_spreadKey_63_t 40 (1, itr (B_X0_spreadKey_36_t n2 q) 16 ky, la)).2.1, (itr B_X0_spreadKey_63_t 40 (1, itr (B_X0_spreadKey_36_t n2 q) 16 ky, la)).2.2) := by
    unfold F_X0_spreadKey
    dsimp only [gLet]
    rw [if_pos (show F_X5_count q ≤ 16 by rw [show F_X5_count q = nI 16 from h.1]; decide)]
  have e2 : (F_X11_setKey_16 bx rk Y).1 = (itr (B_X11_setKey_16_15 bx Y) (4 + 40) (1, rk)).2 := rfl
  rw [e1, e2, itr_split]
  exact ⟨rfl, key.2.2.1⟩
theorem first32 {bx Y rk : Nat → Int32} : (itr (B_X11_setKey_32_15 bx Y) 8 (1, rk)).1 = 1 ∧ ∀ k : Nat, k < 32 → (itr (B_X11_setKey_32_15 bx Y) 8 (1, rk)).2 k = Y k := by
  have key : (itr (B_X11_setKey_32_15 bx Y) 8 (1, rk)).1 = 1 ∧ ∀ k : Nat, k < 4 * 8 → (itr (B_X11_setKey_32_15 bx Y) 8 (1, rk)).2 k = Y k := by
    refine itr_inv (fun (i : Nat) (z : Int32 × (Nat → Int32)) => z.1 = 1 ∧ ∀ k : Nat, k < 4 * i → z.2 k = Y k) ⟨rfl, fun k hk => absurd hk (by omega)⟩ ?_
    intro i z hi h
    obtain ⟨h1, h2⟩ := h
    have hin : (∀ k : Nat, k < 4 * i → itr (B_X11_setKey_32_31 i bx z Y) 4 z.2 k = z.2 k) ∧ ∀ j : Nat, j < 4 → itr (B_X11_setKey_32_31 i bx z Y) 4 z.2 (4 * i + j) = Y (4 * i + j) := by
      refine itr_inv (fun (j : Nat) (y : Nat → Int32) => (∀ k : Nat, k < 4 * i → y k = z.2 k) ∧ ∀ t : Nat, t < j → y (4 * i + t) = Y (4 * i + t)) ⟨fun k _ => rfl, fun t ht => absurd ht (Nat.not_lt_zero t)⟩ ?_
      intro j y hj hy
      have e : B_X11_setKey_32_31 i bx z Y j y = upd y (4 * i + j) (Y (4 * i + j)) := by
        unfold B_X11_setKey_32_31
        dsimp only [gLet]
        rw [if_neg (show ¬ 32 ≤ 4 * i + j by omega)]
      rw [e]
      refine ⟨fun k hk => by rw [upd_n _ (by omega)]; exact hy.1 k hk, fun t ht => ?_⟩
      by_cases et : t = j
      · subst et; rw [upd_s]
      · rw [upd_n _ (by omega)]; exact hy.2 t (by omega)
    unfold B_X11_setKey_32_15
    dsimp only [gLet]
    rw [if_pos (show 4 * i < 32 by omega)]
    refine ⟨h1, fun k hk => ?_⟩
    dsimp only
    by_cases hk4 : k < 4 * i
    · rw [hin.1 k hk4, h2 k hk4]
    · have := hin.2 (k - 4 * i) (by omega)
      rw [show 4 * i + (k - 4 * i) = k by omega] at this
      exact this
  exact key
theorem keys32_R {n2 : Nat} {q : gRow} {ky la bx Y rk : Nat → Int32} (h : rowR n2 q Y 32) (hn : n2 < 2147483648) (hbx : ∀ k : Nat, k < 256 → bx k = gTf 5 k) (hbB : bA 256 bx) :
    (F_X0_spreadKey n2 ky la q).1 = 14 ∧ eqA 240 (F_X0_spreadKey n2 ky la q).2.1 (F_X11_setKey_32 bx rk Y).1 := by
  have hY : ∀ k : Nat, k < 32 → isB (Y k) := fun k hk => h.byt hk
  have h36 : ∀ k : Nat, k < 32 → itr (B_X0_spreadKey_36_f n2 q) 32 ky k = Y k := fun k hk => by
    rw [itr_fill (b := B_X0_spreadKey_36_f n2 q) (w := fun i => F_X5_at n2 q (nI i)) (fun _ _ => rfl) 32 ky k hk]
    exact h.at hn hk
  obtain ⟨f1, f2⟩ := first32 (bx := bx) (Y := Y) (rk := rk)
  have key : (fun (i : Nat) (z : Int32 × (Nat → Int32) × (Nat → Int32)) (w : Int32 × (Nat → Int32)) => z.1 = w.1 ∧ isB w.1 ∧ eqA (32 + 4 * i) z.2.1 w.2 ∧ bA (32 + 4 * i) w.2) 52 (itr B_X0_spreadKey_63_f 52 (1, itr (B_X0_spreadKey_36_f n2 q) 32 ky, la)) (itr (fun i z => B_X11_setKey_32_15 bx Y (8 + i) z) 52 (itr (B_X11_setKey_32_15 bx Y) 8 (1, rk))) := by
    refine itr_rel (fun (i : Nat) (z : Int32 × (Nat → Int32) × (Nat → Int32)) (w : Int32 × (Nat → Int32)) => z.1 = w.1 ∧ isB w.1 ∧ eqA (32 + 4 * i) z.2.1 w.2 ∧ bA (32 + 4 * i) w.2) ⟨f1.symm, by rw [f1]; exact isB_of (n := 1) (by decide), fun k hk => by rw [f2 k (by omega)]; exact h36 k (by omega), fun k hk => by rw [f2 k (by omega)]; exact hY k (by omega)⟩ ?_
    intro i z w hi hz
    obtain ⟨h1, h2, h3, h4⟩ := hz
    have hin := in32 (w := 8 + i) (bx := bx) (Y := Y) (z0 := w.2) (zo := w) (by omega)
    have hfin : (B_X11_setKey_32_15 bx Y (8 + i) w).2 = itr (B_X11_setKey_32_31 (8 + i) bx w Y) 4 w.2 ∧ (B_X11_setKey_32_15 bx Y (8 + i) w).1 = (if (4 * (8 + i)) % 32 = 0 then F_X11_times w.1 2 else w.1) := by
      unfold B_X11_setKey_32_15
      dsimp only [gLet]
      rw [if_neg (show ¬ 4 * (8 + i) < 32 by omega)]
      split
      · exact ⟨rfl, rfl⟩
      · exact ⟨rfl, rfl⟩
    have hB4 := L_setKey32_in (w := 8 + i) (Y := Y) hY hbB h2 (z0 := w.2) (fun k hk => h4 k (by omega)) (by omega) 4 (Nat.le_refl _)
    have es : 32 + 4 * i = 4 * (8 + i) := by omega
    -- the value at a new byte
    have val : ∀ (u : Nat → Int32) (x : Int32) (l : Nat → Int32), (∀ j : Nat, j < 4 → z.2.1 (4 * (8 + i) - 32 + j) ^^^ u j = kX bx w.1 w.2 32 (8 + i) j) → x = (if (4 * (8 + i)) % 32 = 0 then F_X11_times w.1 2 else w.1) → isB x → (fun (z : Int32 × (Nat → Int32) × (Nat → Int32)) (w : Int32 × (Nat → Int32)) => z.1 = w.1 ∧ isB w.1 ∧ eqA (32 + 4 * (i + 1)) z.2.1 w.2 ∧ bA (32 + 4 * (i + 1)) w.2) (x, k4 z.2.1 (32 + 4 * i) 32 u, l) (B_X11_setKey_32_15 bx Y (8 + i) w) := by
      intro u x l hu hx hxB
      refine ⟨hx.trans hfin.2.symm, by rw [hfin.2, ← hx]; exact hxB, fun k hk => ?_, fun k hk => ?_⟩
      · rw [hfin.1]
        dsimp only
        by_cases hk4 : k < 4 * (8 + i)
        · rw [k4_lt (by omega), hin.1 k hk4]
          exact h3 k (by omega)
        · have e1 := k4_at (ky := z.2.1) (u := u) (s := 32 + 4 * i) (sz := 32) (k - 4 * (8 + i)) (by omega)
          have e2 := hin.2 (k - 4 * (8 + i)) (by omega)
          rw [show 32 + 4 * i + (k - 4 * (8 + i)) = k by omega, es] at e1
          rw [show 4 * (8 + i) + (k - 4 * (8 + i)) = k by omega] at e2
          rw [es, e1, e2]
          exact hu _ (by omega)
      · rw [hfin.1]
        exact hB4 k (by omega)
    have hz1 : ∀ k : Nat, k < 4 * (8 + i) → z.2.1 k = w.2 k := fun k hk => h3 k (by omega)
    have hwB : ∀ k : Nat, k < 4 * (8 + i) → isB (w.2 k) := fun k hk => h4 k (by omega)
    obtain ⟨l0, l1, l2, l3⟩ := la4_at z.2.2 z.2.1 (4 * (8 + i) - 4)
    have sb : ∀ p : Nat, p < 4 * (8 + i) → gTf 5 ((z.2.1 p) &&& 255).toNatClampNeg = bx (w.2 p).toNatClampNeg := fun p hp => by rw [hz1 p hp, and255_of (hwB p hp), hbx _ (isB_cl (hwB p hp))]
    rw [spread32_step, es]
    by_cases a : (4 * (8 + i)) % 32 = 0
    · rw [if_pos a]
      obtain ⟨t0, t1, t2, t3⟩ := turnLast_at (la4 z.2.2 z.2.1 (4 * (8 + i) - 4)) z.1
      rw [← es]
      refine val _ _ _ (fun j hj => ?_) (by rw [if_pos a, h1, ti2' h2]) (by rw [h1]; exact isB_tw h2)
      rw [es]
      unfold kX
      rw [if_pos a, hz1 _ (by omega)]
      match j, hj with
      | 0, _ => rw [t0, l1, sb _ (by omega), h1, if_pos rfl]; rfl
      | 1, _ => rw [t1, l2, sb _ (by omega), if_neg (by decide), show 4 * (8 + i) - 32 + 1 = 4 * (8 + i) + 1 - 32 by omega]
      | 2, _ => rw [t2, l3, sb _ (by omega), if_neg (by decide), show 4 * (8 + i) - 32 + 2 = 4 * (8 + i) + 2 - 32 by omega]
      | 3, _ => rw [t3, l0, sb _ (by omega), if_neg (by decide), show 4 * (8 + i) - 32 + 3 = 4 * (8 + i) + 3 - 32 by omega]; rfl
    · rw [if_neg a]
      by_cases b : (4 * (8 + i)) % 32 = 16
      · rw [if_pos b, ← es]
        obtain ⟨t0, t1, t2, t3⟩ := subLast_at (la4 z.2.2 z.2.1 (4 * (8 + i) - 4))
        refine val _ _ _ (fun j hj => ?_) (by rw [if_neg a, h1]) (by rw [h1]; exact h2)
        rw [es]
        unfold kX
        rw [if_neg a, if_pos ⟨rfl, by omega⟩, hz1 _ (by omega)]
        match j, hj with
        | 0, _ => rw [t0, l0, sb _ (by omega)]; rfl
        | 1, _ => rw [t1, l1, sb _ (by omega), show 4 * (8 + i) - 32 + 1 = 4 * (8 + i) + 1 - 32 by omega]
        | 2, _ => rw [t2, l2, sb _ (by omega), show 4 * (8 + i) - 32 + 2 = 4 * (8 + i) + 2 - 32 by omega]
        | 3, _ => rw [t3, l3, sb _ (by omega), show 4 * (8 + i) - 32 + 3 = 4 * (8 + i) + 3 - 32 by omega]
      · rw [if_neg b, ← es]
        refine val _ _ _ (fun j hj => ?_) (by rw [if_neg a, h1]) (by rw [h1]; exact h2)
        rw [es]
        unfold kX
        rw [if_neg a, if_neg (fun q => b (by omega)), hz1 _ (by omega)]
        match j, hj with
        | 0, _ => rw [l0, hz1 _ (by omega)]; rfl
        | 1, _ => rw [l1, hz1 _ (by omega), show 4 * (8 + i) - 32 + 1 = 4 * (8 + i) + 1 - 32 by omega]
        | 2, _ => rw [l2, hz1 _ (by omega), show 4 * (8 + i) - 32 + 2 = 4 * (8 + i) + 2 - 32 by omega]
        | 3, _ => rw [l3, hz1 _ (by omega), show 4 * (8 + i) - 32 + 3 = 4 * (8 + i) + 3 - 32 by omega]
  have e1 : F_X0_spreadKey n2 ky la q = (14, (itr B_X0_spreadKey_63_f 52 (1, itr (B_X0_spreadKey_36_f n2 q) 32 ky, la)).2.1, (itr B_X0_spreadKey_63_f 52 (1, itr (B_X0_spreadKey_36_f n2 q) 32 ky, la)).2.2) := by
    unfold F_X0_spreadKey
    dsimp only [gLet]
    rw [if_neg (show ¬ F_X5_count q ≤ 16 by rw [show F_X5_count q = nI 32 from h.1]; decide)]
  have e2 : (F_X11_setKey_32 bx rk Y).1 = (itr (B_X11_setKey_32_15 bx Y) (8 + 52) (1, rk)).2 := rfl
  rw [e1, e2, itr_split]
  exact ⟨rfl, key.2.2.1⟩
