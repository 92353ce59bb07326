/-! GREAT, to its digest -/
def wbe (f : Nat → Int32) (p : Nat) : Int32 := (((f p <<< (24 &&& 31)) ||| (f (p + 1) <<< (16 &&& 31))) ||| (f (p + 2) <<< (8 &&& 31))) ||| f (p + 3)
theorem wbe_congr {f g : Nat → Int32} {p : Nat} (h : ∀ j : Nat, j < 4 → f (p + j) = g (p + j)) : wbe f p = wbe g p := by
  unfold wbe
  have h0 := h 0 (by decide)
  rw [Nat.add_zero] at h0
  rw [h0, h 1 (by decide), h 2 (by decide), h 3 (by decide)]
theorem wbe_zero {f : Nat → Int32} {p : Nat} (h : ∀ j : Nat, j < 4 → f (p + j) = 0) : wbe f p = 0 := by
  unfold wbe
  have h0 := h 0 (by decide)
  rw [Nat.add_zero] at h0
  rw [h0, h 1 (by decide), h 2 (by decide), h 3 (by decide)]
  decide
theorem load2 (n2 : Nat) (q : gRow) (bk : Nat → Int32) (b k : Nat) (hk : k < 16) : F_X2_load n2 bk q (nI (64 * b)) k = wbe (fun p => F_X5_closedAt n2 q (nI p)) (64 * b + 4 * k) := by
  have e : ∀ i z, B_X2_load_2 n2 q (nI (64 * b)) i z = upd z i (wbe (fun p => F_X5_closedAt n2 q (nI p)) (64 * b + 4 * i)) := by
    intro i z
    unfold B_X2_load_2
    dsimp only [gLet]
    have h3 : (nI (64 * b) + nI (4 * i)) + 3 = nI (64 * b + 4 * i + 3) := by rw [nI_add, show (3 : Int32) = nI 3 from rfl, nI_add]
    have h2 : (nI (64 * b) + nI (4 * i)) + 2 = nI (64 * b + 4 * i + 2) := by rw [nI_add, show (2 : Int32) = nI 2 from rfl, nI_add]
    have h1 : (nI (64 * b) + nI (4 * i)) + 1 = nI (64 * b + 4 * i + 1) := by rw [nI_add, show (1 : Int32) = nI 1 from rfl, nI_add]
    have h0 : (nI (64 * b) + nI (4 * i)) + 0 = nI (64 * b + 4 * i) := by rw [nI_add, Int32.add_zero]
    rw [h3, h2, h1, h0, word_be]
    rfl
  exact itr_fill e 16 bk k hk
theorem read110 (m : Nat → Int32) (wd : Nat → Int32) (b k : Nat) (hk : k < 16) : F_X11_readWords_0 m wd b k = wbe m (64 * b + 4 * k) := by
  have e : ∀ i z, B_X11_readWords_0_2 m b i z = upd z i (wbe m (64 * b + 4 * i)) := fun i z => rfl
  exact itr_fill e 16 wd k hk
theorem len_word_be (n : Nat) (h : n < 16777216) : ((((nI (n / 16777216) &&& 255) <<< (24 &&& 31)) ||| ((nI (n / 65536) &&& 255) <<< (16 &&& 31))) ||| ((nI (n / 256) &&& 255) <<< (8 &&& 31))) ||| (nI n &&& 255) = nI n := by
  refine Eq.trans ?_ (len_word n h)
  generalize (nI (n / 16777216) &&& 255) <<< (24 &&& 31) = a
  generalize (nI (n / 65536) &&& 255) <<< (16 &&& 31) = b
  generalize (nI (n / 256) &&& 255) <<< (8 &&& 31) = c
  generalize nI n &&& 255 = d
  rw [Int32.or_comm d c, Int32.or_comm (c ||| d) b, Int32.or_comm (b ||| (c ||| d)) a, ← Int32.or_assoc b c d, ← Int32.or_assoc a (b ||| c) d, ← Int32.or_assoc a b c]
theorem great_words {n2 : Nat} {q : gRow} {msg : Nat → Int32} {c : Nat} (h : rowR n2 q msg c) (hn : n2 < 2147483648) (hc : c ≤ 900) (b : Nat) (hb : b < nbl c) (bk wd : Nat → Int32) :
    eqA 16 (if b + 1 = nbl c then upd (F_X2_load n2 bk q (nI (64 * b))) 15 (8 * F_X5_count q) else F_X2_load n2 bk q (nI (64 * b))) (F_X11_readWords_0 (F_X11_close_0 c msg).2.2 wd b) := by
  obtain ⟨m1, m2, m3, l0, l1, l2, l3, l4, l5, l6, l7⟩ := close0_msg c msg hc
  have hg := nbl_gt c
  intro k hk
  rw [read110 _ _ _ _ hk]
  have hlow : ∀ p : Nat, p < 64 * nbl c - 8 → F_X5_closedAt n2 q (nI p) = (F_X11_close_0 c msg).2.2 p := fun p hp => closed_lt h hn hp (by omega) m1 m2 m3
  by_cases e : b + 1 = nbl c
  · rw [if_pos e]
    have hT : 64 * nbl c = 64 * b + 64 := by omega
    by_cases e15 : k = 15
    · subst e15
      rw [upd_s]
      show 8 * q.1 = _
      rw [h.1, show (8 : Int32) = nI 8 from rfl, pk_mul]
      unfold wbe
      rw [show 64 * b + 4 * 15 = 64 * nbl c - 4 by omega, show 64 * nbl c - 4 + 1 = 64 * nbl c - 3 by omega, show 64 * nbl c - 4 + 2 = 64 * nbl c - 2 by omega, show 64 * nbl c - 4 + 3 = 64 * nbl c - 1 by omega, l4, l5, l6, l7]
      exact (len_word_be (8 * c) (by omega)).symm
    · rw [upd_n _ e15, load2 n2 q bk b k hk]
      by_cases e14 : k = 14
      · subst e14
        rw [wbe_zero (f := fun p => F_X5_closedAt n2 q (nI p)) (fun j hj => closed_gt h hn (by omega) (by omega))]
        refine (wbe_zero (fun j hj => ?_)).symm
        match j, hj with
        | 0, _ => rw [show 64 * b + 4 * 14 + 0 = 64 * nbl c - 8 by omega]; exact l0
        | 1, _ => rw [show 64 * b + 4 * 14 + 1 = 64 * nbl c - 7 by omega]; exact l1
        | 2, _ => rw [show 64 * b + 4 * 14 + 2 = 64 * nbl c - 6 by omega]; exact l2
        | 3, _ => rw [show 64 * b + 4 * 14 + 3 = 64 * nbl c - 5 by omega]; exact l3
      · exact wbe_congr (fun j hj => hlow _ (by omega))
  · rw [if_neg e, load2 n2 q bk b k hk]
    exact wbe_congr (fun j hj => hlow _ (by omega))
/-- the class's end of a block -/
def upd8 (h : Nat → Int32) (z : Int32 × Int32 × Int32 × Int32 × Int32 × Int32 × Int32 × Int32) : Nat → Int32 := upd (upd (upd (upd (upd (upd (upd (upd h 0 (h 0 + z.1)) 1 (h 1 + z.2.1)) 2 (h 2 + z.2.2.1)) 3 (h 3 + z.2.2.2.1)) 4 (h 4 + z.2.2.2.2.1)) 5 (h 5 + z.2.2.2.2.2.1)) 6 (h 6 + z.2.2.2.2.2.2.1)) 7 (h 7 + z.2.2.2.2.2.2.2)
set_option maxHeartbeats 1000000 in
theorem mix2_eq (wd st : Nat → Int32) : F_X2_mix wd st = upd8 st (itr (B_X2_mix_66 wd) 64 (st 0, st 1, st 2, st 3, st 4, st 5, st 6, st 7)) := by
  unfold F_X2_mix
  dsimp only [gLet]
  generalize itr (B_X2_mix_66 wd) 64 (st 0, st 1, st 2, st 3, st 4, st 5, st 6, st 7) = z
  unfold upd8
  have n (f : Nat → Int32) (a b : Nat) (x : Int32) (h : b ≠ a) : upd f a x b = f b := upd_n x h
  simp only [upd_s, n _ 0 1 _ (by decide), n _ 0 2 _ (by decide), n _ 1 2 _ (by decide), n _ 0 3 _ (by decide), n _ 1 3 _ (by decide), n _ 2 3 _ (by decide), n _ 0 4 _ (by decide), n _ 1 4 _ (by decide), n _ 2 4 _ (by decide), n _ 3 4 _ (by decide), n _ 0 5 _ (by decide), n _ 1 5 _ (by decide), n _ 2 5 _ (by decide), n _ 3 5 _ (by decide), n _ 4 5 _ (by decide), n _ 0 6 _ (by decide), n _ 1 6 _ (by decide), n _ 2 6 _ (by decide), n _ 3 6 _ (by decide), n _ 4 6 _ (by decide), n _ 5 6 _ (by decide), n _ 0 7 _ (by decide), n _ 1 7 _ (by decide), n _ 2 7 _ (by decide), n _ 3 7 _ (by decide), n _ 4 7 _ (by decide), n _ 5 7 _ (by decide), n _ 6 7 _ (by decide)]
theorem add433 (z h : Nat → Int32) (k : Nat) (hk : k < 8) : itr (B_X11_great_433 z) 8 h k = h k + z k := by
  have key : (∀ k : Nat, k < 8 → itr (B_X11_great_433 z) 8 h k = h k + z k) ∧ ∀ k : Nat, 8 ≤ k → itr (B_X11_great_433 z) 8 h k = h k := by
    refine itr_inv (fun (i : Nat) (w : Nat → Int32) => (∀ k : Nat, k < i → w k = h k + z k) ∧ ∀ k : Nat, i ≤ k → w k = h k) ⟨fun k hk => absurd hk (Nat.not_lt_zero k), fun k _ => rfl⟩ ?_
    intro i w hi hw
    refine ⟨fun k hk => ?_, fun k hk => ?_⟩
    · show upd w i (w i + z i) k = _
      by_cases e : k = i
      · subst e; rw [upd_s, hw.2 k (Nat.le_refl _)]
      · rw [upd_n _ e]; exact hw.1 k (by omega)
    · show upd w i (w i + z i) k = _
      rw [upd_n _ (by omega)]; exact hw.2 k (by omega)
  exact key.1 k hk
theorem great_block {wd u rt st h v0 : Nat → Int32} {w8 : (Nat → Int32) × (Nat → Int32) × (Nat → Int32)} (hr : ∀ k : Nat, k < 64 → rt k = gTf 3 k) (hu : eqA 64 wd u) (e : eqA 8 st h) (hw : w8.2.1 = h) :
    eqA 8 (F_X2_mix wd st) (itr (B_X11_great_433 (itr (B_X11_great_225 rt u) 64 (itr (B_X11_great_199 w8) 8 v0))) 8 h) := by
  have hv : ∀ k : Nat, k < 8 → itr (B_X11_great_199 w8) 8 v0 k = h k := fun k hk => by rw [itr_fill (b := B_X11_great_199 w8) (w := fun i => w8.2.1 i) (fun _ _ => rfl) 8 v0 k hk, hw]
  have hz : rel8 (itr (B_X2_mix_66 wd) 64 (st 0, st 1, st 2, st 3, st 4, st 5, st 6, st 7)) (itr (B_X11_great_225 rt u) 64 (itr (B_X11_great_199 w8) 8 v0)) := by
    refine itr_rel (fun _ z w => rel8 z w) ?_ (fun i z w hi hz => great_step hi (hr i hi) (hu i hi) hz)
    exact ⟨by rw [hv 0 (by decide)]; exact (e 0 (by decide)).symm, by rw [hv 1 (by decide)]; exact (e 1 (by decide)).symm, by rw [hv 2 (by decide)]; exact (e 2 (by decide)).symm, by rw [hv 3 (by decide)]; exact (e 3 (by decide)).symm, by rw [hv 4 (by decide)]; exact (e 4 (by decide)).symm, by rw [hv 5 (by decide)]; exact (e 5 (by decide)).symm, by rw [hv 6 (by decide)]; exact (e 6 (by decide)).symm, by rw [hv 7 (by decide)]; exact (e 7 (by decide)).symm⟩
  intro k hk
  rw [mix2_eq, add433 _ _ k hk]
  generalize itr (B_X2_mix_66 wd) 64 (st 0, st 1, st 2, st 3, st 4, st 5, st 6, st 7) = z at hz
  generalize itr (B_X11_great_225 rt u) 64 (itr (B_X11_great_199 w8) 8 v0) = w at hz
  obtain ⟨h0, h1, h2, h3, h4, h5, h6, h7⟩ := hz
  rw [← e k hk]
  unfold upd8
  match k, hk with
  | 0, _ => rw [h0]; simp [upd]
  | 1, _ => rw [h1]; simp [upd]
  | 2, _ => rw [h2]; simp [upd]
  | 3, _ => rw [h3]; simp [upd]
  | 4, _ => rw [h4]; simp [upd]
  | 5, _ => rw [h5]; simp [upd]
  | 6, _ => rw [h6]; simp [upd]
  | 7, _ => rw [h7]; simp [upd]
theorem great_loop {n2 : Nat} {q : gRow} {msg rt : Nat → Int32} {c : Nat} (h : rowR n2 q msg c) (hn : n2 < 2147483648) (hc : c ≤ 900) (hr : ∀ k : Nat, k < 64 → rt k = gTf 3 k) (bk st wd hh v : Nat → Int32) (e : eqA 8 st hh) :
    eqA 8 (itr (B_X2_sum_41 n2 q (nI c)) (nbl c) (bk, st)).2 (itr (B_X11_great_82 (F_X11_close_0 c msg).2 rt) (nbl c) (wd, hh, v)).2.1 := by
  refine itr_rel (fun _ (z : (Nat → Int32) × (Nat → Int32)) (w : (Nat → Int32) × (Nat → Int32) × (Nat → Int32)) => eqA 8 z.2 w.2.1) e ?_
  intro i z w hi hz
  have hw := great_words h hn hc i hi z.1 w.1
  have hcond : (nI i = ((((nI c + 8) / 64) + 1) - 1)) ↔ i + 1 = nbl c := by
    rw [nbl_i hc]
    have hp : 0 < nbl c := by unfold nbl; omega
    have hl : nbl c < 2147483648 := by unfold nbl; omega
    rw [show nI (nbl c) - 1 = nI (nbl c - 1) by rw [show (1 : Int32) = nI 1 from rfl, pk_sub hp], nI_eq (by omega) (by omega)]
    omega
  show eqA 8 (B_X2_sum_41 n2 q (nI c) i z).2 (itr (B_X11_great_433 (itr (B_X11_great_225 rt (itr B_X11_great_96 48 (F_X11_readWords_0 (F_X11_close_0 c msg).2.2 w.1 i))) 64 (itr (B_X11_great_199 w) 8 w.2.2))) 8 w.2.1)
  unfold B_X2_sum_41
  dsimp only [gLet]
  by_cases e1 : i + 1 = nbl c
  · rw [if_pos (hcond.mpr e1)]
    rw [if_pos e1] at hw
    exact great_block hr (stretch_R hw) hz rfl
  · rw [if_neg (fun q => e1 (hcond.mp q))]
    rw [if_neg e1] at hw
    exact great_block hr (stretch_R hw) hz rfl
theorem keep8_at (h d : Nat → Int32) (k : Nat) (hk : k < 32) : F_X11_keep_8 d h k = g_us (h (k / 4)) (nI (8 * (3 - (k % 4)))) &&& 255 := itr_fill (b := B_X11_keep_8_2 h) (w := fun i => g_us (h (i / 4)) (nI (8 * (3 - (i % 4)))) &&& 255) (fun _ _ => rfl) 32 d k hk
theorem eight_row {n : Nat} {d : gRow} {s h dg : Nat → Int32} {z : (Nat → Int32) × (Nat → Int32)} (hn : n < 2147483648) (h32 : 32 ≤ n) (hz : z.2 = s) (e : eqA 8 s h) :
    rowR n (itr (B_X2_sum_100 n z) 8 ((F_X5_clear d).1, d.2)) (F_X11_keep_8 dg h) 32 := by
  have key : rowR n (itr (B_X2_sum_100 n z) 8 ((F_X5_clear d).1, d.2)) (F_X11_keep_8 dg h) (4 * 8) := by
    refine itr_inv (fun i w => rowR n w (F_X11_keep_8 dg h) (4 * i)) rowR.clear ?_
    intro i w hi hw
    unfold B_X2_sum_100
    dsimp only [gLet]
    rw [hz]
    have ei := e i hi
    have h1 := hw.add hn (by omega) (b := g_us (s i) 24) (v := g_us (s i) 24 &&& 255) rfl
    have h2 := h1.add hn (by omega) (b := g_us (s i) 16) (v := g_us (s i) 16 &&& 255) rfl
    have h3 := h2.add hn (by omega) (b := g_us (s i) 8) (v := g_us (s i) 8 &&& 255) rfl
    have h4 := h3.add hn (by omega) (b := g_us (s i) 0) (v := g_us (s i) 0 &&& 255) rfl
    refine h4.congr (fun k hk => ?_)
    by_cases k3 : k = 4 * i + 1 + 1 + 1
    · subst k3
      rw [upd_s, keep8_at _ _ _ (by omega), show (4 * i + 1 + 1 + 1) / 4 = i by omega, show (4 * i + 1 + 1 + 1) % 4 = 3 by omega, ei]; rfl
    · rw [upd_n _ k3]
      by_cases k2 : k = 4 * i + 1 + 1
      · subst k2
        rw [upd_s, keep8_at _ _ _ (by omega), show (4 * i + 1 + 1) / 4 = i by omega, show (4 * i + 1 + 1) % 4 = 2 by omega, ei]; rfl
      · rw [upd_n _ k2]
        by_cases k1 : k = 4 * i + 1
        · subst k1
          rw [upd_s, keep8_at _ _ _ (by omega), show (4 * i + 1) / 4 = i by omega, show (4 * i + 1) % 4 = 1 by omega, ei]; rfl
        · rw [upd_n _ k1]
          by_cases k0 : k = 4 * i
          · subst k0
            rw [upd_s, keep8_at _ _ _ (by omega), show (4 * i) / 4 = i by omega, show (4 * i) % 4 = 0 by omega, ei]; rfl
          · rw [upd_n _ k0]
  exact key
theorem init8 (s h : Nat → Int32) (a b c d e f g i : Int32) (t : Nat → Int32) (ht : ∀ k : Nat, k < 8 → t k = upd (upd (upd (upd (upd (upd (upd (upd h 0 a) 1 b) 2 c) 3 d) 4 e) 5 f) 6 g) 7 i k) : eqA 8 t (upd (upd (upd (upd (upd (upd (upd (upd h 0 a) 1 b) 2 c) 3 d) 4 e) 5 f) 6 g) 7 i) := ht
theorem first8 (st hh : Nat → Int32) : eqA 8 (itr B_X2_sum_2 8 st) (upd (upd (upd (upd (upd (upd (upd (upd hh 0 1779033703) 1 (-1150833019)) 2 1013904242) 3 (-1521486534)) 4 1359893119) 5 (-1694144372)) 6 528734635) 7 1541459225) := by
  intro k hk
  rw [itr_fill (b := B_X2_sum_2) (w := fun i => gTf 4 i) (fun _ _ => rfl) 8 st k hk]
  match k, hk with
  | 0, _ => simp [upd]; rfl
  | 1, _ => simp [upd]; rfl
  | 2, _ => simp [upd]; rfl
  | 3, _ => simp [upd]; rfl
  | 4, _ => simp [upd]; rfl
  | 5, _ => simp [upd]; rfl
  | 6, _ => simp [upd]; rfl
  | 7, _ => simp [upd]; rfl
/-- GREAT -/
theorem great_R {n2 n3 : Nat} {q d : gRow} {msg rt : Nat → Int32} {c : Nat} (h : rowR n2 q msg c) (hn : n2 < 2147483648) (hn3 : n3 < 2147483648) (h32 : 32 ≤ n3) (hc : c ≤ 900) (hr : ∀ k : Nat, k < 64 → rt k = gTf 3 k) (bk st dg wd hh v : Nat → Int32) :
    rowR n3 (F_X2_sum n2 n3 bk st q d).2.2 (F_X11_great c msg dg wd hh v rt).2.2.1 32 := by
  have hl := great_loop h hn hc hr bk (itr B_X2_sum_2 8 st) wd (upd (upd (upd (upd (upd (upd (upd (upd hh 0 1779033703) 1 (-1150833019)) 2 1013904242) 3 (-1521486534)) 4 1359893119) 5 (-1694144372)) 6 528734635) 7 1541459225) v (first8 st hh)
  have e1 : (F_X2_sum n2 n3 bk st q d).2.2 = itr (B_X2_sum_100 n3 (itr (B_X2_sum_41 n2 q q.1) ((((q.1 + 8) / 64) + 1).toNatClampNeg) (bk, itr B_X2_sum_2 8 st))) 8 ((F_X5_clear d).1, d.2) := rfl
  have e2 : (F_X11_great c msg dg wd hh v rt).2.2.1 = F_X11_keep_8 dg (itr (B_X11_great_82 (F_X11_close_0 c msg).2 rt) ((c + 1 + (120 - (c + 1) % 64) % 64 + 8) / 64) (wd, (upd (upd (upd (upd (upd (upd (upd (upd hh 0 1779033703) 1 (-1150833019)) 2 1013904242) 3 (-1521486534)) 4 1359893119) 5 (-1694144372)) 6 528734635) 7 1541459225), v)).2.1 := rfl
  rw [e1, e2, nbl_eq, h.1, nbl_i hc, nI_clamp (show nbl c < 2147483648 by unfold nbl; omega)]
  exact eight_row hn3 h32 rfl hl
