/-! SMALL: the class's sum is the reference's -/
theorem neg1 (b : Int32) : (b ^^^ (-1)).toBitVec = ~~~ b.toBitVec := by
  rw [Int32.toBitVec_xor]
  show b.toBitVec ^^^ BitVec.allOnes 32 = _
  exact BitVec.xor_allOnes
theorem bl0 (b c d : Int32) : ((b &&& c) ||| ((b ^^^ (-1)) &&& d)) = d ^^^ (b &&& (c ^^^ d)) := by
  apply i32_ext
  rw [Int32.toBitVec_or, Int32.toBitVec_and, Int32.toBitVec_and, neg1, Int32.toBitVec_xor, Int32.toBitVec_and, Int32.toBitVec_xor]
  apply BitVec.eq_of_getLsbD_eq
  intro i hi
  simp only [BitVec.getLsbD_or, BitVec.getLsbD_and, BitVec.getLsbD_not, BitVec.getLsbD_xor, hi, decide_true, Bool.true_and]
  cases b.toBitVec.getLsbD i <;> cases c.toBitVec.getLsbD i <;> cases d.toBitVec.getLsbD i <;> rfl
theorem left_eq (v t : Int32) : ((v <<< (t &&& 31)) ||| (g_us v (32 - t))) = F_X11_left v t := rfl
theorem turn_eq : ∀ i : Fin 64, gTf 2 ((4 * (i.val / 16)) + (i.val % 4)) = F_X11_turnOf i.val := by decide +kernel
theorem pick_eq (i : Nat) (hi : i < 64) : F_X6_pick (nI (i / 16)) (nI i) = nI (if i < 16 then i else if i < 32 then (5 * i + 1) % 16 else if i < 48 then (3 * i + 5) % 16 else (7 * i) % 16) := by
  have h : ∀ j : Fin 64, F_X6_pick (nI (j.val / 16)) (nI j.val) = nI (if j.val < 16 then j.val else if j.val < 32 then (5 * j.val + 1) % 16 else if j.val < 48 then (3 * j.val + 5) % 16 else (7 * j.val) % 16) := by decide +kernel
  exact h ⟨i, hi⟩
theorem blend_eq (i : Nat) (hi : i < 64) (b c d : Int32) : F_X6_blend (nI (i / 16)) b c d = (if i < 16 then d ^^^ (b &&& (c ^^^ d)) else if i < 32 then c ^^^ (d &&& (b ^^^ c)) else if i < 48 then (b ^^^ c) ^^^ d else c ^^^ (b ||| (d ^^^ (-1)))) := by
  have hn : ∀ a k : Nat, a < 4 → k < 4 → a ≠ k → ¬ nI a = nI k := fun a k ha hk h q => h ((nI_eq (by omega) (by omega)).mp q)
  unfold F_X6_blend
  by_cases h0 : i < 16
  · rw [if_pos h0, if_pos (show nI (i / 16) = 0 by rw [show i / 16 = 0 by omega]; rfl)]
    exact bl0 b c d
  · rw [if_neg h0, if_neg (show ¬ nI (i / 16) = 0 from hn (i / 16) 0 (by omega) (by omega) (by omega))]
    by_cases h1 : i < 32
    · rw [if_pos h1, if_pos (show nI (i / 16) = 1 by rw [show i / 16 = 1 by omega]; rfl)]
      exact bl0 d b c
    · rw [if_neg h1, if_neg (show ¬ nI (i / 16) = 1 from hn (i / 16) 1 (by omega) (by omega) (by omega))]
      by_cases h2 : i < 48
      · rw [if_pos h2, if_pos (show nI (i / 16) = 2 by rw [show i / 16 = 2 by omega]; rfl)]
      · rw [if_neg h2, if_neg (show ¬ nI (i / 16) = 2 from hn (i / 16) 2 (by omega) (by omega) (by omega))]
theorem add4 (a s u f : Int32) : ((a + s) + u) + f = ((a + f) + s) + u := by
  rw [Int32.add_assoc (a + s) u f, Int32.add_comm u f, ← Int32.add_assoc, Int32.add_assoc a s f, Int32.add_comm s f, ← Int32.add_assoc]
theorem small_step {bk u sn : Nat → Int32} (hs : ∀ k : Nat, k < 64 → sn k = gTf 1 k) (hu : eqA 16 bk u) (i : Nat) (z : Int32 × Int32 × Int32 × Int32) (hi : i < 64) : B_X6_mix_32 bk i z = B_X11_small_85 sn u i z := by
  have hp : ∀ j : Nat, j < 16 → bk (nI j).toNatClampNeg = u j := fun j hj => by rw [nI_clamp (by omega)]; exact hu j hj
  unfold B_X6_mix_32 B_X11_small_85
  dsimp only [gLet]
  rw [pick_eq i hi, blend_eq i hi, turn_eq ⟨i, hi⟩, hs i hi]
  show (z.2.2.2, (z.2.1 + F_X11_left _ (F_X11_turnOf i)), z.2.1, z.2.2.1) = _
  by_cases h0 : i < 16
  · simp only [h0, if_true, if_neg (show ¬ 16 ≤ i by omega)]
    rw [hp i h0, add4]
  · by_cases h1 : i < 32
    · simp only [h0, h1, if_true, if_false, if_pos (show 16 ≤ i by omega), if_neg (show ¬ 32 ≤ i by omega)]
      rw [hp _ (Nat.mod_lt _ (by decide)), add4]
    · by_cases h2 : i < 48
      · simp only [h0, h1, h2, if_true, if_false, if_pos (show 16 ≤ i by omega), if_pos (show 32 ≤ i by omega), if_neg (show ¬ 48 ≤ i by omega)]
        rw [hp _ (Nat.mod_lt _ (by decide)), add4]
      · simp only [h0, h1, h2, if_false, if_pos (show 16 ≤ i by omega), if_pos (show 32 ≤ i by omega), if_pos (show 48 ≤ i by omega)]
        rw [hp _ (Nat.mod_lt _ (by decide)), add4]
/-- a block's end: the four words of the state -/
def upd4 (h : Nat → Int32) (z : Int32 × Int32 × Int32 × Int32) : Nat → Int32 := upd (upd (upd (upd h 0 (h 0 + z.1)) 1 (h 1 + z.2.1)) 2 (h 2 + z.2.2.1)) 3 (h 3 + z.2.2.2)
theorem mix6_eq (bk st : Nat → Int32) : F_X6_mix bk st = upd4 st (itr (B_X6_mix_32 bk) 64 (st 0, st 1, st 2, st 3)) := by
  unfold F_X6_mix
  dsimp only [gLet]
  generalize itr (B_X6_mix_32 bk) 64 (st 0, st 1, st 2, st 3) = z
  unfold upd4
  simp only [upd_s, upd_n _ (show (1 : Nat) ≠ 0 by decide), upd_n _ (show (2 : Nat) ≠ 0 by decide), upd_n _ (show (2 : Nat) ≠ 1 by decide), upd_n _ (show (3 : Nat) ≠ 0 by decide), upd_n _ (show (3 : Nat) ≠ 1 by decide), upd_n _ (show (3 : Nat) ≠ 2 by decide)]
theorem small40_eq (u2 : Nat × (Nat → Int32)) (sn : Nat → Int32) (i : Nat) (z : (Nat → Int32) × (Nat → Int32)) : B_X11_small_40 u2 sn i z = (F_X11_readWords_1 u2.2 z.1 i, upd4 z.2 (itr (B_X11_small_85 sn (F_X11_readWords_1 u2.2 z.1 i)) 64 (z.2 0, z.2 1, z.2 2, z.2 3))) := by
  unfold B_X11_small_40
  dsimp only [gLet]
  generalize itr (B_X11_small_85 sn (F_X11_readWords_1 u2.2 z.1 i)) 64 (z.2 0, z.2 1, z.2 2, z.2 3) = y
  unfold upd4
  simp only [upd_s, upd_n _ (show (1 : Nat) ≠ 0 by decide), upd_n _ (show (2 : Nat) ≠ 0 by decide), upd_n _ (show (2 : Nat) ≠ 1 by decide), upd_n _ (show (3 : Nat) ≠ 0 by decide), upd_n _ (show (3 : Nat) ≠ 1 by decide), upd_n _ (show (3 : Nat) ≠ 2 by decide)]
theorem upd4_eqA {h g : Nat → Int32} {z : Int32 × Int32 × Int32 × Int32} (e : eqA 4 h g) : eqA 4 (upd4 h z) (upd4 g z) := by
  unfold upd4
  exact eqA_upd (eqA_upd (eqA_upd (eqA_upd e 0 (by rw [e 0 (by decide)])) 1 (by rw [e 1 (by decide)])) 2 (by rw [e 2 (by decide)])) 3 (by rw [e 3 (by decide)])
theorem small_block {bk u sn st h : Nat → Int32} (hs : ∀ k : Nat, k < 64 → sn k = gTf 1 k) (hu : eqA 16 bk u) (e : eqA 4 st h) : eqA 4 (F_X6_mix bk st) (upd4 h (itr (B_X11_small_85 sn u) 64 (h 0, h 1, h 2, h 3))) := by
  rw [mix6_eq, e 0 (by decide), e 1 (by decide), e 2 (by decide), e 3 (by decide), itr_congr (fun i z hi => small_step hs hu i z hi)]
  exact upd4_eqA e
/-! the message's end -/
def sz0 (k : Nat) (v : Nat → Int32) (n c : Nat) : Int32 := if k < c then v k else if k = c then 128 else if k < n - 8 then 0 else v k
/-- how many blocks a message of c bytes has -/
def nbl (c : Nat) : Nat := (c + 8) / 64 + 1
theorem nbl_eq (c : Nat) : (c + 1 + (120 - (c + 1) % 64) % 64 + 8) / 64 = nbl c := by unfold nbl; omega
theorem nbl_len (c : Nat) : c + 1 + (120 - (c + 1) % 64) % 64 + 8 = 64 * nbl c := by unfold nbl; omega
theorem nbl_gt (c : Nat) : c + 9 ≤ 64 * nbl c ∧ 64 * nbl c ≤ c + 72 := by unfold nbl; omega
/-- zeros behind a message -/
theorem zeros1 {z : Nat × (Nat → Int32)} (i : Nat) : (itr B_X11_close_1_15 i z).1 = z.1 + i ∧ (∀ k : Nat, k < z.1 → (itr B_X11_close_1_15 i z).2 k = z.2 k) ∧ ∀ k : Nat, z.1 ≤ k → k < z.1 + i → (itr B_X11_close_1_15 i z).2 k = 0 := by
  refine itr_inv (fun (i : Nat) (w : Nat × (Nat → Int32)) => w.1 = z.1 + i ∧ (∀ k : Nat, k < z.1 → w.2 k = z.2 k) ∧ ∀ k : Nat, z.1 ≤ k → k < z.1 + i → w.2 k = 0) ⟨rfl, fun k _ => rfl, fun k h1 h2 => by omega⟩ ?_
  intro i w _ h
  obtain ⟨h1, h2, h3⟩ := h
  refine ⟨by show w.1 + 1 = _; omega, fun k hk => ?_, fun k hk1 hk2 => ?_⟩
  · show upd w.2 w.1 (0 &&& 255) k = _
    rw [upd_n _ (by omega)]; exact h2 k hk
  · show upd w.2 w.1 (0 &&& 255) k = _
    by_cases e : k = w.1
    · rw [e, upd_s]; rfl
    · rw [upd_n _ e]; exact h3 k hk1 (by omega)
theorem zeros0 {z : Nat × (Nat → Int32)} (i : Nat) : (itr B_X11_close_0_15 i z).1 = z.1 + i ∧ (∀ k : Nat, k < z.1 → (itr B_X11_close_0_15 i z).2 k = z.2 k) ∧ ∀ k : Nat, z.1 ≤ k → k < z.1 + i → (itr B_X11_close_0_15 i z).2 k = 0 := by
  refine itr_inv (fun (i : Nat) (w : Nat × (Nat → Int32)) => w.1 = z.1 + i ∧ (∀ k : Nat, k < z.1 → w.2 k = z.2 k) ∧ ∀ k : Nat, z.1 ≤ k → k < z.1 + i → w.2 k = 0) ⟨rfl, fun k _ => rfl, fun k h1 h2 => by omega⟩ ?_
  intro i w _ h
  obtain ⟨h1, h2, h3⟩ := h
  refine ⟨by show w.1 + 1 = _; omega, fun k hk => ?_, fun k hk1 hk2 => ?_⟩
  · show upd w.2 w.1 (0 &&& 255) k = _
    rw [upd_n _ (by omega)]; exact h2 k hk
  · show upd w.2 w.1 (0 &&& 255) k = _
    by_cases e : k = w.1
    · rw [e, upd_s]; rfl
    · rw [upd_n _ e]; exact h3 k hk1 (by omega)
/-- the eight bytes behind the zeros -/
def put8 (m : Nat → Int32) (t : Nat) (a b c d e f g h : Int32) : Nat → Int32 := upd (upd (upd (upd (upd (upd (upd (upd m t a) (t + 1) b) (t + 2) c) (t + 3) d) (t + 4) e) (t + 5) f) (t + 6) g) (t + 7) h
theorem put8_lt {m : Nat → Int32} {t k : Nat} {a b c d e f g h : Int32} (hk : k < t) : put8 m t a b c d e f g h k = m k := by
  unfold put8
  rw [upd_n _ (by omega), upd_n _ (by omega), upd_n _ (by omega), upd_n _ (by omega), upd_n _ (by omega), upd_n _ (by omega), upd_n _ (by omega), upd_n _ (by omega)]
theorem put8_at {m : Nat → Int32} {t : Nat} {a b c d e f g h : Int32} : put8 m t a b c d e f g h t = a ∧ put8 m t a b c d e f g h (t + 1) = b ∧ put8 m t a b c d e f g h (t + 2) = c ∧ put8 m t a b c d e f g h (t + 3) = d ∧ put8 m t a b c d e f g h (t + 4) = e ∧ put8 m t a b c d e f g h (t + 5) = f ∧ put8 m t a b c d e f g h (t + 6) = g ∧ put8 m t a b c d e f g h (t + 7) = h := by
  unfold put8
  refine ⟨?_, ?_, ?_, ?_, ?_, ?_, ?_, upd_s _ _ _⟩
  all_goals simp [upd]
/-- what closing a message leaves: T = 64 times its blocks -/
theorem close1_msg (c : Nat) (msg : Nat → Int32) (hc : c ≤ 900) : (∀ k : Nat, k < c → (F_X11_close_1 c msg).2.2 k = msg k) ∧ (F_X11_close_1 c msg).2.2 c = 128 ∧ (∀ k : Nat, c < k → k < 64 * nbl c - 8 → (F_X11_close_1 c msg).2.2 k = 0) ∧
    ((F_X11_close_1 c msg).2.2 (64 * nbl c - 8) = nI (8 * c) &&& 255 ∧ (F_X11_close_1 c msg).2.2 (64 * nbl c - 7) = nI (8 * c / 256) &&& 255 ∧ (F_X11_close_1 c msg).2.2 (64 * nbl c - 6) = nI (8 * c / 65536) &&& 255 ∧ (F_X11_close_1 c msg).2.2 (64 * nbl c - 5) = nI (8 * c / 16777216) &&& 255 ∧ (F_X11_close_1 c msg).2.2 (64 * nbl c - 4) = 0 ∧ (F_X11_close_1 c msg).2.2 (64 * nbl c - 3) = 0 ∧ (F_X11_close_1 c msg).2.2 (64 * nbl c - 2) = 0 ∧ (F_X11_close_1 c msg).2.2 (64 * nbl c - 1) = 0) := by
  have hz := zeros1 (z := (c + 1, upd msg c 128)) ((120 - (c + 1) % 64) % 64)
  have hl := nbl_len c
  have e : (F_X11_close_1 c msg).2.2 = put8 (itr B_X11_close_1_15 ((120 - (c + 1) % 64) % 64) (c + 1, upd msg c 128)).2 (64 * nbl c - 8) (nI (8 * c / 1) &&& 255) (nI (8 * c / 256) &&& 255) (nI (8 * c / 65536) &&& 255) (nI (8 * c / 16777216) &&& 255) 0 0 0 0 := by
    unfold put8
    rw [show 64 * nbl c - 8 = (itr B_X11_close_1_15 ((120 - (c + 1) % 64) % 64) (c + 1, upd msg c 128)).1 by rw [hz.1]; dsimp only; omega]
    rfl
  obtain ⟨h1, h2, h3⟩ := hz
  dsimp only at h1 h2 h3
  rw [e]
  have p8 := put8_at (m := (itr B_X11_close_1_15 ((120 - (c + 1) % 64) % 64) (c + 1, upd msg c 128)).2) (t := 64 * nbl c - 8) (a := nI (8 * c / 1) &&& 255) (b := nI (8 * c / 256) &&& 255) (c := nI (8 * c / 65536) &&& 255) (d := nI (8 * c / 16777216) &&& 255) (e := 0) (f := 0) (g := 0) (h := 0)
  have hg := nbl_gt c
  refine ⟨fun k hk => ?_, ?_, fun k hk1 hk2 => ?_, ?_⟩
  · rw [put8_lt (by omega), h2 k (by omega), upd_n _ (by omega)]
  · rw [put8_lt (by omega), h2 c (by omega), upd_s]
  · rw [put8_lt (by omega)]
    exact h3 k (by omega) (by omega)
  · rw [Nat.div_one] at p8
    rw [Nat.div_one, show 64 * nbl c - 7 = 64 * nbl c - 8 + 1 by omega, show 64 * nbl c - 6 = 64 * nbl c - 8 + 2 by omega, show 64 * nbl c - 5 = 64 * nbl c - 8 + 3 by omega, show 64 * nbl c - 4 = 64 * nbl c - 8 + 4 by omega, show 64 * nbl c - 3 = 64 * nbl c - 8 + 5 by omega, show 64 * nbl c - 2 = 64 * nbl c - 8 + 6 by omega, show 64 * nbl c - 1 = 64 * nbl c - 8 + 7 by omega]
    exact p8
theorem close0_msg (c : Nat) (msg : Nat → Int32) (hc : c ≤ 900) : (∀ k : Nat, k < c → (F_X11_close_0 c msg).2.2 k = msg k) ∧ (F_X11_close_0 c msg).2.2 c = 128 ∧ (∀ k : Nat, c < k → k < 64 * nbl c - 8 → (F_X11_close_0 c msg).2.2 k = 0) ∧
    ((F_X11_close_0 c msg).2.2 (64 * nbl c - 8) = 0 ∧ (F_X11_close_0 c msg).2.2 (64 * nbl c - 7) = 0 ∧ (F_X11_close_0 c msg).2.2 (64 * nbl c - 6) = 0 ∧ (F_X11_close_0 c msg).2.2 (64 * nbl c - 5) = 0 ∧ (F_X11_close_0 c msg).2.2 (64 * nbl c - 4) = nI (8 * c / 16777216) &&& 255 ∧ (F_X11_close_0 c msg).2.2 (64 * nbl c - 3) = nI (8 * c / 65536) &&& 255 ∧ (F_X11_close_0 c msg).2.2 (64 * nbl c - 2) = nI (8 * c / 256) &&& 255 ∧ (F_X11_close_0 c msg).2.2 (64 * nbl c - 1) = nI (8 * c) &&& 255) := by
  have hz := zeros0 (z := (c + 1, upd msg c 128)) ((120 - (c + 1) % 64) % 64)
  have hl := nbl_len c
  have e : (F_X11_close_0 c msg).2.2 = put8 (itr B_X11_close_0_15 ((120 - (c + 1) % 64) % 64) (c + 1, upd msg c 128)).2 (64 * nbl c - 8) 0 0 0 0 (nI (8 * c / 16777216) &&& 255) (nI (8 * c / 65536) &&& 255) (nI (8 * c / 256) &&& 255) (nI (8 * c / 1) &&& 255) := by
    unfold put8
    rw [show 64 * nbl c - 8 = (itr B_X11_close_0_15 ((120 - (c + 1) % 64) % 64) (c + 1, upd msg c 128)).1 by rw [hz.1]; dsimp only; omega]
    rfl
  obtain ⟨h1, h2, h3⟩ := hz
  dsimp only at h1 h2 h3
  rw [e]
  have p8 := put8_at (m := (itr B_X11_close_0_15 ((120 - (c + 1) % 64) % 64) (c + 1, upd msg c 128)).2) (t := 64 * nbl c - 8) (a := 0) (b := 0) (c := 0) (d := 0) (e := nI (8 * c / 16777216) &&& 255) (f := nI (8 * c / 65536) &&& 255) (g := nI (8 * c / 256) &&& 255) (h := nI (8 * c / 1) &&& 255)
  have hg := nbl_gt c
  refine ⟨fun k hk => ?_, ?_, fun k hk1 hk2 => ?_, ?_⟩
  · rw [put8_lt (by omega), h2 k (by omega), upd_n _ (by omega)]
  · rw [put8_lt (by omega), h2 c (by omega), upd_s]
  · rw [put8_lt (by omega)]
    exact h3 k (by omega) (by omega)
  · rw [Nat.div_one] at p8
    rw [Nat.div_one, show 64 * nbl c - 7 = 64 * nbl c - 8 + 1 by omega, show 64 * nbl c - 6 = 64 * nbl c - 8 + 2 by omega, show 64 * nbl c - 5 = 64 * nbl c - 8 + 3 by omega, show 64 * nbl c - 4 = 64 * nbl c - 8 + 4 by omega, show 64 * nbl c - 3 = 64 * nbl c - 8 + 5 by omega, show 64 * nbl c - 2 = 64 * nbl c - 8 + 6 by omega, show 64 * nbl c - 1 = 64 * nbl c - 8 + 7 by omega]
    exact p8
/-- a closed byte of the class is the byte of the reference's message, but for the last eight -/
theorem closed_lt {n : Nat} {q : gRow} {msg m2 : Nat → Int32} {c : Nat} (h : rowR n q msg c) (hn : n < 2147483648) {p T : Nat} (hp : p < T) (hT : T < 2147483648) (h1 : ∀ k : Nat, k < c → m2 k = msg k) (h2 : m2 c = 128) (h3 : ∀ k : Nat, c < k → k < T → m2 k = 0) : F_X5_closedAt n q (nI p) = m2 p := by
  have hc := h.2.1
  unfold F_X5_closedAt
  rw [h.1]
  by_cases e : p = c
  · subst e; rw [if_pos rfl, h2]
  · rw [if_neg (fun q => e ((nI_eq (by omega) (by omega)).mp q)), if_neg (nI_pos (by omega))]
    by_cases e2 : c < p
    · rw [if_pos (nI_le (by omega) (by omega)), h3 p e2 hp]
    · rw [if_neg (nI_ge (by omega) (by omega)), if_neg (nI_ge (by omega) hn), nI_clamp (by omega), h.val (by omega), h1 p (by omega)]
theorem closed_gt {n : Nat} {q : gRow} {msg : Nat → Int32} {c : Nat} (h : rowR n q msg c) (hn : n < 2147483648) {p : Nat} (hp : c < p) (hp2 : p < 2147483648) : F_X5_closedAt n q (nI p) = 0 := by
  have hc := h.2.1
  unfold F_X5_closedAt
  rw [h.1, if_neg (fun q => by have := (nI_eq (by omega) (by omega)).mp q; omega), if_neg (nI_pos (by omega)), if_pos (nI_le (by omega) (by omega))]
/-! words of four bytes -/
theorem sl_bv (x : Int32) : (x <<< (8 &&& 31)).toBitVec = x.toBitVec <<< (8 : Nat) ∧ (x <<< (16 &&& 31)).toBitVec = x.toBitVec <<< (16 : Nat) ∧ (x <<< (24 &&& 31)).toBitVec = x.toBitVec <<< (24 : Nat) := ⟨rfl, rfl, rfl⟩
theorem word_bv (a b c d : BitVec 32) : (((((0 : BitVec 32) ||| a) <<< (8 : Nat) ||| b) <<< (8 : Nat) ||| c) <<< (8 : Nat)) ||| d = (a <<< (24 : Nat)) ||| (b <<< (16 : Nat)) ||| (c <<< (8 : Nat)) ||| d := by
  have z : (0 : BitVec 32) ||| a = a := BitVec.zero_or
  rw [z]
  simp only [BitVec.shiftLeft_or_distrib, ← BitVec.shiftLeft_add, Nat.reduceAdd]
theorem or_rev (A B C D : BitVec 32) : A ||| B ||| C ||| D = D ||| C ||| B ||| A := by ac_rfl
theorem word_le (a b c d : Int32) : (((((((0 ||| a) <<< (8 &&& 31)) ||| b) <<< (8 &&& 31)) ||| c) <<< (8 &&& 31)) ||| d) = ((d ||| (c <<< (8 &&& 31))) ||| (b <<< (16 &&& 31))) ||| (a <<< (24 &&& 31)) := by
  apply i32_ext
  simp only [Int32.toBitVec_or, (sl_bv _).1, (sl_bv _).2.1, (sl_bv _).2.2]
  exact (word_bv a.toBitVec b.toBitVec c.toBitVec d.toBitVec).trans (or_rev _ _ _ _)
theorem word_be (a b c d : Int32) : (((((((0 ||| a) <<< (8 &&& 31)) ||| b) <<< (8 &&& 31)) ||| c) <<< (8 &&& 31)) ||| d) = (((a <<< (24 &&& 31)) ||| (b <<< (16 &&& 31))) ||| (c <<< (8 &&& 31))) ||| d := by
  apply i32_ext
  simp only [Int32.toBitVec_or, (sl_bv _).1, (sl_bv _).2.1, (sl_bv _).2.2]
  exact word_bv a.toBitVec b.toBitVec c.toBitVec d.toBitVec
/-- the length in bits, put together again -/
theorem len_word (n : Nat) (h : n < 16777216) : (((nI n &&& (255 : Int32)) ||| ((nI (n / 256) &&& (255 : Int32)) <<< ((8 : Int32) &&& 31))) ||| ((nI (n / 65536) &&& (255 : Int32)) <<< ((16 : Int32) &&& 31))) ||| ((nI (n / 16777216) &&& (255 : Int32)) <<< ((24 : Int32) &&& 31)) = nI n := by
  apply i32_ext
  simp only [Int32.toBitVec_or, (sl_bv _).1, (sl_bv _).2.1, (sl_bv _).2.2, Int32.toBitVec_and]
  apply BitVec.eq_of_toNat_eq
  have e : ∀ m : Nat, m < 2 ^ 32 → (nI m).toBitVec &&& (255 : Int32).toBitVec = BitVec.ofNat 32 (m % 256) := by
    intro m hm
    apply BitVec.eq_of_toNat_eq
    rw [BitVec.toNat_and, pk_tn hm, BitVec.toNat_ofNat, show ((255 : Int32).toBitVec.toNat) = 2 ^ 8 - 1 by decide, Nat.and_two_pow_sub_one_eq_mod]
    omega
  rw [e n (by omega), e (n / 256) (by omega), e (n / 65536) (by omega), e (n / 16777216) (by omega), pk_tn (by omega)]
  simp only [BitVec.toNat_or, BitVec.toNat_shiftLeft, BitVec.toNat_ofNat, Nat.shiftLeft_eq]
  rw [Nat.mod_eq_of_lt (show n % 256 < 2 ^ 32 by omega), Nat.mod_eq_of_lt (show n / 256 % 256 < 2 ^ 32 by omega), Nat.mod_eq_of_lt (show n / 65536 % 256 < 2 ^ 32 by omega), show n / 16777216 = 0 by omega]
  simp only [Nat.zero_mod, Nat.zero_mul, Nat.or_zero]
  rw [Nat.mod_eq_of_lt (show n / 256 % 256 * 2 ^ 8 < 2 ^ 32 by omega), Nat.mod_eq_of_lt (show n / 65536 % 256 * 2 ^ 16 < 2 ^ 32 by omega)]
  have o1 : n % 256 ||| n / 256 % 256 * 2 ^ 8 = n / 256 % 256 * 2 ^ 8 + n % 256 := by
    rw [Nat.or_comm, Nat.mul_comm, ← Nat.two_pow_add_eq_or_of_lt (show n % 256 < 2 ^ 8 by omega)]
  rw [o1]
  have o2 : (n / 256 % 256 * 2 ^ 8 + n % 256) ||| n / 65536 % 256 * 2 ^ 16 = n / 65536 % 256 * 2 ^ 16 + (n / 256 % 256 * 2 ^ 8 + n % 256) := by
    rw [Nat.or_comm, Nat.mul_comm (n / 65536 % 256), ← Nat.two_pow_add_eq_or_of_lt (show n / 256 % 256 * 2 ^ 8 + n % 256 < 2 ^ 16 by omega)]
  rw [o2]
  omega
