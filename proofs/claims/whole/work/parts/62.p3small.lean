/-! SMALL, to its digest -/
theorem itr_fill {w : Nat → Int32} {b : Nat → (Nat → Int32) → (Nat → Int32)} (hb : ∀ i z, b i z = upd z i (w i)) (n : Nat) (s : Nat → Int32) : ∀ k : Nat, k < n → itr b n s k = w k := by
  refine itr_inv (fun (i : Nat) (z : Nat → Int32) => ∀ k : Nat, k < i → z k = w k) (fun k hk => absurd hk (Nat.not_lt_zero k)) ?_
  intro i z hi h k hk
  rw [hb]
  by_cases e : k = i
  · subst e; rw [upd_s]
  · rw [upd_n _ e]; exact h k (by omega)
theorem itr_fill_out {w : Nat → Int32} {b : Nat → (Nat → Int32) → (Nat → Int32)} (hb : ∀ i z, b i z = upd z i (w i)) (n : Nat) (s : Nat → Int32) : ∀ k : Nat, n ≤ k → itr b n s k = s k := by
  have h : ∀ k : Nat, n ≤ k → itr b n s k = s k := by
    refine itr_inv (fun (i : Nat) (z : Nat → Int32) => ∀ k : Nat, i ≤ k → z k = s k) (fun k _ => rfl) ?_
    intro i z hi h k hk
    rw [hb, upd_n _ (by omega)]
    exact h k (by omega)
  exact h
theorem rowR.num {n : Nat} {r : gRow} {f e : Nat → Int32} {c0 : Nat} {w : Int32} (h : rowR n r f c0) (hn : n < 2147483648) (hb : c0 + 4 ≤ n) (e1 : ∀ k : Nat, k < c0 → e k = f k) (e2 : ∀ k : Nat, k < 4 → e (c0 + k) = g_us w (nI (8 * k)) &&& 255) : rowR n (F_X5_addNumber n r w 4) e (c0 + 4) := by
  have key : rowR n (itr (B_X5_addNumber_2 n w) 4 r) e (c0 + 4) := by
    refine itr_inv (fun i z => rowR n z e (c0 + i)) (h.congr (fun k hk => (e1 k hk).symm)) ?_
    intro i z hi hz
    have h3 := hz.add hn (by omega) (b := g_us w (nI (8 * i))) (v := g_us w (nI (8 * i)) &&& 255) rfl
    refine h3.congr (fun k hk => ?_)
    by_cases hkc : k = c0 + i
    · subst hkc; rw [upd_s, e2 i hi]
    · rw [upd_n _ hkc]
  exact key
def wle (f : Nat → Int32) (p : Nat) : Int32 := ((f p ||| (f (p + 1) <<< (8 &&& 31))) ||| (f (p + 2) <<< (16 &&& 31))) ||| (f (p + 3) <<< (24 &&& 31))
theorem load6 (n2 : Nat) (q : gRow) (bk : Nat → Int32) (b k : Nat) (hk : k < 16) : F_X6_load n2 bk q (nI (64 * b)) k = wle (fun p => F_X5_closedAt n2 q (nI p)) (64 * b + 4 * k) := by
  have e : ∀ i z, B_X6_load_2 n2 q (nI (64 * b)) i z = upd z i (wle (fun p => F_X5_closedAt n2 q (nI p)) (64 * b + 4 * i)) := by
    intro i z
    unfold B_X6_load_2
    dsimp only [gLet]
    have h3 : (nI (64 * b) + nI (4 * i)) + 3 = nI (64 * b + 4 * i + 3) := by rw [nI_add, show (3 : Int32) = nI 3 from rfl, nI_add]
    have h2 : (nI (64 * b) + nI (4 * i)) + 2 = nI (64 * b + 4 * i + 2) := by rw [nI_add, show (2 : Int32) = nI 2 from rfl, nI_add]
    have h1 : (nI (64 * b) + nI (4 * i)) + 1 = nI (64 * b + 4 * i + 1) := by rw [nI_add, show (1 : Int32) = nI 1 from rfl, nI_add]
    have h0 : (nI (64 * b) + nI (4 * i)) + 0 = nI (64 * b + 4 * i) := by rw [nI_add, Int32.add_zero]
    rw [h3, h2, h1, h0, word_le]
    rfl
  exact itr_fill e 16 bk k hk
theorem read11 (m : Nat → Int32) (wd : Nat → Int32) (b k : Nat) (hk : k < 16) : F_X11_readWords_1 m wd b k = wle m (64 * b + 4 * k) := by
  have e : ∀ i z, B_X11_readWords_1_2 m b i z = upd z i (wle m (64 * b + 4 * i)) := fun i z => rfl
  exact itr_fill e 16 wd k hk
theorem wle_congr {f g : Nat → Int32} {p : Nat} (h : ∀ j : Nat, j < 4 → f (p + j) = g (p + j)) : wle f p = wle g p := by
  unfold wle
  have h0 := h 0 (by decide)
  rw [Nat.add_zero] at h0
  rw [h0, h 1 (by decide), h 2 (by decide), h 3 (by decide)]
theorem wle_zero {f : Nat → Int32} {p : Nat} (h : ∀ j : Nat, j < 4 → f (p + j) = 0) : wle f p = 0 := by
  unfold wle
  have h0 := h 0 (by decide)
  rw [Nat.add_zero] at h0
  rw [h0, h 1 (by decide), h 2 (by decide), h 3 (by decide)]
  decide
theorem nbl_i {c : Nat} (hc : c ≤ 900) : (((nI c + 8) / 64) + 1) = nI (nbl c) := by
  rw [show (8 : Int32) = nI 8 from rfl, nI_add, show (64 : Int32) = nI 64 from rfl, pk_div (by omega) (by decide) (by decide), nI_1]
  rfl
theorem small_words {n2 : Nat} {q : gRow} {msg : Nat → Int32} {c : Nat} (h : rowR n2 q msg c) (hn : n2 < 2147483648) (hc : c ≤ 900) (b : Nat) (hb : b < nbl c) (bk wd : Nat → Int32) :
    eqA 16 (if b + 1 = nbl c then upd (F_X6_load n2 bk q (nI (64 * b))) 14 (8 * F_X5_count q) else F_X6_load n2 bk q (nI (64 * b))) (F_X11_readWords_1 (F_X11_close_1 c msg).2.2 wd b) := by
  obtain ⟨m1, m2, m3, l0, l1, l2, l3, l4, l5, l6, l7⟩ := close1_msg c msg hc
  have hg := nbl_gt c
  intro k hk
  rw [read11 _ _ _ _ hk]
  have hlow : ∀ p : Nat, p < 64 * nbl c - 8 → F_X5_closedAt n2 q (nI p) = (F_X11_close_1 c msg).2.2 p := fun p hp => closed_lt h hn hp (by omega) m1 m2 m3
  by_cases e : b + 1 = nbl c
  · rw [if_pos e]
    have hT : 64 * nbl c = 64 * b + 64 := by omega
    by_cases e14 : k = 14
    · subst e14
      rw [upd_s]
      show 8 * q.1 = _
      rw [h.1, show (8 : Int32) = nI 8 from rfl, pk_mul]
      unfold wle
      rw [show 64 * b + 4 * 14 = 64 * nbl c - 8 by omega, show 64 * nbl c - 8 + 1 = 64 * nbl c - 7 by omega, show 64 * nbl c - 8 + 2 = 64 * nbl c - 6 by omega, show 64 * nbl c - 8 + 3 = 64 * nbl c - 5 by omega, l0, l1, l2, l3]
      exact (len_word (8 * c) (by omega)).symm
    · rw [upd_n _ e14, load6 n2 q bk b k hk]
      by_cases e15 : k = 15
      · subst e15
        rw [wle_zero (f := fun p => F_X5_closedAt n2 q (nI p)) (fun j hj => closed_gt h hn (by omega) (by omega))]
        refine (wle_zero (fun j hj => ?_)).symm
        match j, hj with
        | 0, _ => rw [show 64 * b + 4 * 15 + 0 = 64 * nbl c - 4 by omega]; exact l4
        | 1, _ => rw [show 64 * b + 4 * 15 + 1 = 64 * nbl c - 3 by omega]; exact l5
        | 2, _ => rw [show 64 * b + 4 * 15 + 2 = 64 * nbl c - 2 by omega]; exact l6
        | 3, _ => rw [show 64 * b + 4 * 15 + 3 = 64 * nbl c - 1 by omega]; exact l7
      · exact wle_congr (fun j hj => hlow _ (by omega))
  · rw [if_neg e, load6 n2 q bk b k hk]
    exact wle_congr (fun j hj => hlow _ (by omega))
theorem keep4_at (h d : Nat → Int32) (k : Nat) (hk : k < 16) : F_X11_keep_4 d h k = g_us (h (k / 4)) (nI (8 * (k % 4))) &&& 255 := itr_fill (b := B_X11_keep_4_2 h) (w := fun i => g_us (h (i / 4)) (nI (8 * (i % 4))) &&& 255) (fun _ _ => rfl) 16 d k hk
theorem four_row {n : Nat} {d : gRow} {s h dg : Nat → Int32} (hn : n < 2147483648) (h16 : 16 ≤ n) (e : eqA 4 s h) :
    rowR n (F_X5_addNumber n (F_X5_addNumber n (F_X5_addNumber n (F_X5_addNumber n ((F_X5_clear d).1, d.2) (s 0) 4) (s 1) 4) (s 2) 4) (s 3) 4) (F_X11_keep_4 dg h) 16 := by
  have h1 := (rowR.clear (n := n) (r := d) (f := F_X11_keep_4 dg h) (g := d.2)).num (w := s 0) (e := F_X11_keep_4 dg h) hn (by omega) (fun k _ => rfl) (fun k hk => by rw [keep4_at h dg _ (by omega), Nat.zero_add, show k / 4 = 0 by omega, show k % 4 = k by omega, e 0 (by decide)])
  have h2 := h1.num (w := s 1) (e := F_X11_keep_4 dg h) hn (by omega) (fun k _ => rfl) (fun k hk => by rw [keep4_at h dg _ (by omega), show (0 + 4 + k) / 4 = 1 by omega, show (0 + 4 + k) % 4 = k by omega, e 1 (by decide)])
  have h3 := h2.num (w := s 2) (e := F_X11_keep_4 dg h) hn (by omega) (fun k _ => rfl) (fun k hk => by rw [keep4_at h dg _ (by omega), show (0 + 4 + 4 + k) / 4 = 2 by omega, show (0 + 4 + 4 + k) % 4 = k by omega, e 2 (by decide)])
  exact h3.num (w := s 3) (e := F_X11_keep_4 dg h) hn (by omega) (fun k _ => rfl) (fun k hk => by rw [keep4_at h dg _ (by omega), show (0 + 4 + 4 + 4 + k) / 4 = 3 by omega, show (0 + 4 + 4 + 4 + k) % 4 = k by omega, e 3 (by decide)])
theorem init4 (s h : Nat → Int32) (a b c d : Int32) : eqA 4 (upd (upd (upd (upd s 0 a) 1 b) 2 c) 3 d) (upd (upd (upd (upd h 0 a) 1 b) 2 c) 3 d) := by
  intro k hk
  match k, hk with
  | 0, _ => simp [upd]
  | 1, _ => simp [upd]
  | 2, _ => simp [upd]
  | 3, _ => simp [upd]
theorem small_loop {n2 : Nat} {q : gRow} {msg sn : Nat → Int32} {c : Nat} (h : rowR n2 q msg c) (hn : n2 < 2147483648) (hc : c ≤ 900) (hs : ∀ k : Nat, k < 64 → sn k = gTf 1 k) (bk st wd hh : Nat → Int32) (e : eqA 4 st hh) :
    eqA 4 (itr (B_X6_sum_48 n2 q (nI c)) (nbl c) (bk, st)).2 (itr (B_X11_small_40 (F_X11_close_1 c msg).2 sn) (nbl c) (wd, hh)).2 := by
  refine itr_rel (fun _ (z : (Nat → Int32) × (Nat → Int32)) (w : (Nat → Int32) × (Nat → Int32)) => eqA 4 z.2 w.2) e ?_
  intro i z w hi hz
  rw [small40_eq]
  have hw := small_words h hn hc i hi z.1 w.1
  unfold B_X6_sum_48
  dsimp only [gLet]
  have hcond : (nI i = ((((nI c + 8) / 64) + 1) - 1)) ↔ i + 1 = nbl c := by
    rw [nbl_i hc]
    have hp : 0 < nbl c := by unfold nbl; omega
    have hl : nbl c < 2147483648 := by unfold nbl; omega
    rw [show nI (nbl c) - 1 = nI (nbl c - 1) by rw [show (1 : Int32) = nI 1 from rfl, pk_sub hp], nI_eq (by omega) (by omega)]
    omega
  by_cases e1 : i + 1 = nbl c
  · rw [if_pos (hcond.mpr e1)]
    rw [if_pos e1] at hw
    exact small_block hs hw hz
  · rw [if_neg (fun q => e1 (hcond.mp q))]
    rw [if_neg e1] at hw
    exact small_block hs hw hz
theorem small_loop_same {n2 : Nat} {q : gRow} (rc : Int32) (m : Nat) (s : (Nat → Int32) × (Nat → Int32)) : itr (B_X6_sum_same_48 n2 q rc) m s = itr (B_X6_sum_48 n2 q rc) m s := rfl
/-- SMALL -/
theorem small_R {n2 n3 : Nat} {q d : gRow} {msg sn : Nat → Int32} {c : Nat} (h : rowR n2 q msg c) (hn : n2 < 2147483648) (hn3 : n3 < 2147483648) (h16 : 16 ≤ n3) (hc : c ≤ 900) (hs : ∀ k : Nat, k < 64 → sn k = gTf 1 k) (bk st dg wd hh : Nat → Int32) :
    rowR n3 (F_X6_sum n2 n3 bk st q d).2.2 (F_X11_small c msg dg wd hh sn).2.2.1 16 := by
  have hl := small_loop h hn hc hs bk (upd (upd (upd (upd st 0 1732584193) 1 (-271733879)) 2 (-1732584194)) 3 271733878) wd (upd (upd (upd (upd hh 0 1732584193) 1 (-271733879)) 2 (-1732584194)) 3 271733878) (init4 _ _ _ _ _ _)
  have e1 : (F_X6_sum n2 n3 bk st q d).2.2 = F_X5_addNumber n3 (F_X5_addNumber n3 (F_X5_addNumber n3 (F_X5_addNumber n3 ((F_X5_clear d).1, d.2) ((itr (B_X6_sum_48 n2 q q.1) ((((q.1 + 8) / 64) + 1).toNatClampNeg) (bk, (upd (upd (upd (upd st 0 1732584193) 1 (-271733879)) 2 (-1732584194)) 3 271733878))).2 0) 4) ((itr (B_X6_sum_48 n2 q q.1) ((((q.1 + 8) / 64) + 1).toNatClampNeg) (bk, (upd (upd (upd (upd st 0 1732584193) 1 (-271733879)) 2 (-1732584194)) 3 271733878))).2 1) 4) ((itr (B_X6_sum_48 n2 q q.1) ((((q.1 + 8) / 64) + 1).toNatClampNeg) (bk, (upd (upd (upd (upd st 0 1732584193) 1 (-271733879)) 2 (-1732584194)) 3 271733878))).2 2) 4) ((itr (B_X6_sum_48 n2 q q.1) ((((q.1 + 8) / 64) + 1).toNatClampNeg) (bk, (upd (upd (upd (upd st 0 1732584193) 1 (-271733879)) 2 (-1732584194)) 3 271733878))).2 3) 4 := rfl
  have e2 : (F_X11_small c msg dg wd hh sn).2.2.1 = F_X11_keep_4 dg (itr (B_X11_small_40 (F_X11_close_1 c msg).2 sn) ((c + 1 + (120 - (c + 1) % 64) % 64 + 8) / 64) (wd, (upd (upd (upd (upd hh 0 1732584193) 1 (-271733879)) 2 (-1732584194)) 3 271733878))).2 := rfl
  rw [e1, e2, nbl_eq, h.1, nbl_i hc, nI_clamp (show nbl c < 2147483648 by unfold nbl; omega)]
  exact four_row hn3 h16 hl
theorem small_R_same {n2 : Nat} {q : gRow} {msg sn : Nat → Int32} {c : Nat} (h : rowR n2 q msg c) (hn : n2 < 2147483648) (h16 : 16 ≤ n2) (hc : c ≤ 900) (hs : ∀ k : Nat, k < 64 → sn k = gTf 1 k) (bk st dg wd hh : Nat → Int32) :
    rowR n2 (F_X6_sum_same n2 bk st q).2.2 (F_X11_small c msg dg wd hh sn).2.2.1 16 := small_R (d := q) h hn hn h16 hc hs bk st dg wd hh
