/-! the reference's cipher of blocks: bytes stay bytes -/
abbrev bA (n : Nat) (f : Nat → Int32) : Prop := ∀ k : Nat, k < n → isB (f k)
theorem bA_ext {n : Nat} {f : Nat → Int32} {x : Int32} (h : bA n f) (hx : isB x) : bA (n + 1) (upd f n x) := by
  intro k hk
  unfold upd
  split
  · exact hx
  · exact h k (by omega)
theorem bA_0 (f : Nat → Int32) : bA 0 f := fun k hk => absurd hk (Nat.not_lt_zero k)
theorem bA_le {n m : Nat} {f : Nat → Int32} (h : bA m f) (hm : n ≤ m) : bA n f := fun k hk => h k (Nat.lt_of_lt_of_le hk hm)
theorem g_decs {N i : Nat} (h : i < N) : nI (N - i) + Int32.ofInt (-1) = nI (N - (i + 1)) := by
  obtain ⟨d, rfl⟩ : ∃ d, N = i + (d + 1) := ⟨N - i - 1, by omega⟩
  rw [show i + (d + 1) - i = d + 1 by omega, show i + (d + 1) - (i + 1) = d by omega]
  exact g_dec1 d
def tS (a b i p : Nat) : Nat :=
  if 2 * p ≤ 255 then (if b / 2 ^ i % 2 = 1 then (2 * p) ^^^ a else 2 * p) else (if b / 2 ^ i % 2 = 1 then ((2 * p) ^^^ 283) ^^^ a else (2 * p) ^^^ 283)
def tM (a b : Nat) : Nat := tS a b 0 (tS a b 1 (tS a b 2 (tS a b 3 (tS a b 4 (tS a b 5 (tS a b 6 (tS a b 7 0)))))))
theorem x283 : ∀ p : Fin 256, 255 < 2 * p.val → (2 * p.val) ^^^ 283 < 256 := by decide +kernel
theorem tS_lt {a b i p : Nat} (ha : a < 256) (hp : p < 256) : tS a b i p < 256 := by
  unfold tS
  split
  · split
    · exact Nat.xor_lt_two_pow (n := 8) (by omega) ha
    · omega
  · have h := x283 ⟨p, hp⟩ (by show 255 < 2 * p; omega)
    split
    · exact Nat.xor_lt_two_pow (n := 8) h ha
    · exact h
theorem tS_sh : ∀ j : Fin 8, ((nI j.val &&& 31).toBitVec.smod 32).toNat = j.val := by decide +kernel
theorem L_tS {a b i p : Nat} (hb : b < 256) (hp : p < 256) (hi : i < 8) : B_X11_times_5 (nI b) (nI a) i (nI p) = nI (tS a b i p) := by
  have e1 : (2 : Int32) * nI p = nI (2 * p) := pk_mul 2 p
  have hd : b / 2 ^ i < 2 ^ 32 := Nat.lt_of_le_of_lt (Nat.div_le_self _ _) (by omega)
  have e2 : (nI b >>> (nI i &&& 31)) &&& 1 = nI (b / 2 ^ i % 2) := by
    rw [pk_shrN (by omega) _ i (tS_sh ⟨i, hi⟩), pk_andN hd 1 (by decide)]
  have ht : b / 2 ^ i % 2 < 2 := Nat.mod_lt _ (by decide)
  show (if 2 * nI p ≤ 255 then (if (nI b >>> (nI i &&& 31)) &&& 1 = 1 then (2 * nI p) ^^^ nI a else 2 * nI p) else (if (nI b >>> (nI i &&& 31)) &&& 1 = 1 then ((2 * nI p) ^^^ 283) ^^^ nI a else (2 * nI p) ^^^ 283)) = _
  rw [e1, e2]
  unfold tS
  generalize b / 2 ^ i % 2 = t at ht ⊢
  have e3 : nI (2 * p) ^^^ 283 = nI ((2 * p) ^^^ 283) := g_xor _ _
  by_cases h1 : 2 * p ≤ 255
  · rw [if_pos (show nI (2 * p) ≤ 255 from (nI_leI (b := 255) (by omega) (by omega)).mpr h1), if_pos h1]
    by_cases h2 : t = 1
    · rw [if_pos (show nI t = 1 from (nI_eq (b := 1) (by omega) (by omega)).mpr h2), if_pos h2]
      exact g_xor _ _
    · rw [if_neg (show ¬ nI t = 1 from fun h => h2 ((nI_eq (b := 1) (by omega) (by omega)).mp h)), if_neg h2]
  · rw [if_neg (show ¬ nI (2 * p) ≤ 255 from fun h => h1 ((nI_leI (b := 255) (by omega) (by omega)).mp h)), if_neg h1, e3]
    by_cases h2 : t = 1
    · rw [if_pos (show nI t = 1 from (nI_eq (b := 1) (by omega) (by omega)).mpr h2), if_pos h2]
      exact g_xor _ _
    · rw [if_neg (show ¬ nI t = 1 from fun h => h2 ((nI_eq (b := 1) (by omega) (by omega)).mp h)), if_neg h2]
theorem tM_lt {a b : Nat} (ha : a < 256) : tM a b < 256 := tS_lt ha (tS_lt ha (tS_lt ha (tS_lt ha (tS_lt ha (tS_lt ha (tS_lt ha (tS_lt ha (by decide))))))))
theorem L_times {a b : Nat} (ha : a < 256) (hb : b < 256) : F_X11_times (nI a) (nI b) = nI (tM a b) := by
  have p7 : tS a b 7 0 < 256 := tS_lt ha (by decide)
  have p6 : tS a b 6 (tS a b 7 0) < 256 := tS_lt ha p7
  have p5 : tS a b 5 (tS a b 6 (tS a b 7 0)) < 256 := tS_lt ha p6
  have p4 : tS a b 4 (tS a b 5 (tS a b 6 (tS a b 7 0))) < 256 := tS_lt ha p5
  have p3 : tS a b 3 (tS a b 4 (tS a b 5 (tS a b 6 (tS a b 7 0)))) < 256 := tS_lt ha p4
  have p2 : tS a b 2 (tS a b 3 (tS a b 4 (tS a b 5 (tS a b 6 (tS a b 7 0))))) < 256 := tS_lt ha p3
  have p1 : tS a b 1 (tS a b 2 (tS a b 3 (tS a b 4 (tS a b 5 (tS a b 6 (tS a b 7 0)))))) < 256 := tS_lt ha p2
  show itd (B_X11_times_5 (nI b) (nI a)) 8 (nI 0) = _
  rw [itd_s, L_tS hb (by decide) (by decide), itd_s, L_tS hb p7 (by decide), itd_s, L_tS hb p6 (by decide), itd_s, L_tS hb p5 (by decide), itd_s, L_tS hb p4 (by decide), itd_s, L_tS hb p3 (by decide), itd_s, L_tS hb p2 (by decide), itd_s, L_tS hb p1 (by decide), itd_0]
  rfl
theorem L_times_B {x y : Int32} (hx : isB x) (hy : isB y) : isB (F_X11_times x y) := by
  obtain ⟨a, ha, rfl⟩ := isB_ex hx
  obtain ⟨b, hb, rfl⟩ := isB_ex hy
  rw [L_times ha hb]
  exact isB_of (tM_lt ha)
theorem L_mix3_B {st : Nat → Int32} {a b c d : Int32} (ha : isB a) (hb : isB b) (hc : isB c) (hd : isB d) (hs : bA 16 st) (i : Nat) (hi : i ≤ 16) (z : Nat → Int32) : bA i (itr (B_X11_mix_3 a st b c d) i z) := by
  induction i with
  | zero => exact bA_0 _
  | succ i ih =>
    rw [itr_s]
    exact bA_ext (ih (by omega)) (isB_xor (isB_xor (isB_xor (L_times_B ha (hs _ (by omega))) (L_times_B hb (hs _ (by omega)))) (L_times_B hc (hs _ (by omega)))) (L_times_B hd (hs _ (by omega))))
theorem L_mix104_B {z : Nat → Int32} (hz : bA 16 z) (i : Nat) (hi : i ≤ 16) (st : Nat → Int32) : bA i (itr (B_X11_mix_104 z) i st) := by
  induction i with
  | zero => exact bA_0 _
  | succ i ih =>
    rw [itr_s]
    exact bA_ext (ih (by omega)) (hz _ (by omega))
theorem L_mix_B {st ot : Nat → Int32} {a b c d : Int32} (ha : isB a) (hb : isB b) (hc : isB c) (hd : isB d) (hs : bA 16 st) : bA 16 (F_X11_mix st ot a b c d).1 :=
  L_mix104_B (L_mix3_B ha hb hc hd hs 16 (Nat.le_refl _) ot) 16 (Nat.le_refl _) st
set_option maxRecDepth 20000 in
theorem L_sub0_98 {st bx ot : Nat → Int32} (hb : bA 256 bx) (hs : bA 16 st) (i : Nat) (hi : i ≤ 16) (z : Nat → Int32) : bA i (itr (B_X11_substitute_0_98 ot bx st) i z) := by
  induction i with
  | zero => exact bA_0 _
  | succ i ih =>
    rw [itr_s]
    refine bA_ext (ih (by omega)) ?_
    have h16 : ∀ f : Nat → Int32, bA 16 f → isB (f i) := fun f h => h i (by omega)
    refine h16 _ ?_
    iterate 16 refine bA_ext ?_ (hb _ (isB_cl (hs _ (by decide))))
    exact bA_0 _
theorem L_sub0_B {st bx ot : Nat → Int32} (hb : bA 256 bx) (hs : bA 16 st) : bA 16 (F_X11_substitute_0 bx st ot).1 := L_sub0_98 hb hs 16 (Nat.le_refl _) st
set_option maxRecDepth 20000 in
theorem L_sub1_98 {st bx ot : Nat → Int32} (hb : bA 256 bx) (hs : bA 16 st) (i : Nat) (hi : i ≤ 16) (z : Nat → Int32) : bA i (itr (B_X11_substitute_1_98 ot bx st) i z) := by
  induction i with
  | zero => exact bA_0 _
  | succ i ih =>
    rw [itr_s]
    refine bA_ext (ih (by omega)) ?_
    have h16 : ∀ f : Nat → Int32, bA 16 f → isB (f i) := fun f h => h i (by omega)
    refine h16 _ ?_
    iterate 16 refine bA_ext ?_ (hb _ (isB_cl (hs _ (by decide))))
    exact bA_0 _
theorem L_sub1_B {st bx ot : Nat → Int32} (hb : bA 256 bx) (hs : bA 16 st) : bA 16 (F_X11_substitute_1 bx st ot).1 := L_sub1_98 hb hs 16 (Nat.le_refl _) st
theorem L_addRound_2 {rk st : Nat → Int32} {rr : Nat} (hs : bA 16 st) (hk : ∀ k : Nat, k < 16 → isB (rk (16 * rr + k))) (i : Nat) (hi : i ≤ 16) : bA 16 (itr (B_X11_addRound_2 rk rr) i st) := by
  induction i with
  | zero => rw [itr_0]; exact hs
  | succ i ih =>
    rw [itr_s]
    have ih := ih (by omega)
    exact isB_upd ih (isB_xor (ih i (by omega)) (hk i (by omega))) i
theorem L_addRound_B {rk st : Nat → Int32} {rr : Nat} (hs : bA 16 st) (hk : ∀ k : Nat, k < 16 → isB (rk (16 * rr + k))) : bA 16 (F_X11_addRound rk st rr) := L_addRound_2 hs hk 16 (Nat.le_refl _)
theorem L_setKey16_in {w : Nat} {bx Y : Nat → Int32} {zo : Int32 × (Nat → Int32)} (hby : ∀ k : Nat, k < 16 → isB (Y k)) (hbox : bA 256 bx) (hm : isB zo.1) {z0 : Nat → Int32} (h : bA (4 * w) z0) (hw : w < 44) (i : Nat) (hi : i ≤ 4) : bA (4 * w + i) (itr (B_X11_setKey_16_31 w bx zo Y) i z0) := by
  induction i with
  | zero => rw [itr_0]; exact h
  | succ i ih =>
    have ih := ih (by omega)
    rw [itr_s]
    generalize itr (B_X11_setKey_16_31 w bx zo Y) i z0 = z at ih ⊢
    show bA (4 * w + i + 1) _
    unfold B_X11_setKey_16_31
    dsimp only [gLet]
    split
    · split
      · split
        · exact bA_ext ih (isB_xor (ih _ (by omega)) (isB_xor (hbox _ (isB_cl (ih _ (by omega)))) hm))
        · exact bA_ext ih (isB_xor (ih _ (by omega)) (hbox _ (isB_cl (ih _ (by omega)))))
      · exact bA_ext ih (isB_xor (ih _ (by omega)) (ih _ (by omega)))
    · exact bA_ext ih (hby _ (by omega))
theorem L_setKey16_B {bx Y rk : Nat → Int32} (hby : ∀ k : Nat, k < 16 → isB (Y k)) (hbox : bA 256 bx) (i : Nat) (hi : i ≤ 44) : isB (itr (B_X11_setKey_16_15 bx Y) i (1, rk)).1 ∧ bA (4 * i) (itr (B_X11_setKey_16_15 bx Y) i (1, rk)).2 := by
  induction i with
  | zero => rw [itr_0]; exact ⟨isB_of (n := 1) (by decide), bA_0 _⟩
  | succ i ih =>
    obtain ⟨h1, h2⟩ := ih (by omega)
    rw [itr_s]
    generalize itr (B_X11_setKey_16_15 bx Y) i (1, rk) = z at h1 h2 ⊢
    have h3 := L_setKey16_in hby hbox h1 h2 (by omega) 4 (Nat.le_refl _)
    unfold B_X11_setKey_16_15
    dsimp only [gLet]
    split
    · exact ⟨h1, h3⟩
    · split
      · exact ⟨L_times_B h1 ⟨(by decide), (by decide)⟩, h3⟩
      · exact ⟨h1, h3⟩
theorem L_setKey16_all {bx Y rk : Nat → Int32} (hby : ∀ k : Nat, k < 16 → isB (Y k)) (hbox : bA 256 bx) : bA 176 (F_X11_setKey_16 bx rk Y).1 := (L_setKey16_B hby hbox 44 (Nat.le_refl _)).2
theorem L_setKey32_in {w : Nat} {bx Y : Nat → Int32} {zo : Int32 × (Nat → Int32)} (hby : ∀ k : Nat, k < 32 → isB (Y k)) (hbox : bA 256 bx) (hm : isB zo.1) {z0 : Nat → Int32} (h : bA (4 * w) z0) (hw : w < 60) (i : Nat) (hi : i ≤ 4) : bA (4 * w + i) (itr (B_X11_setKey_32_31 w bx zo Y) i z0) := by
  induction i with
  | zero => rw [itr_0]; exact h
  | succ i ih =>
    have ih := ih (by omega)
    rw [itr_s]
    generalize itr (B_X11_setKey_32_31 w bx zo Y) i z0 = z at ih ⊢
    show bA (4 * w + i + 1) _
    unfold B_X11_setKey_32_31
    dsimp only [gLet]
    split
    · split
      · split
        · exact bA_ext ih (isB_xor (ih _ (by omega)) (isB_xor (hbox _ (isB_cl (ih _ (by omega)))) hm))
        · exact bA_ext ih (isB_xor (ih _ (by omega)) (hbox _ (isB_cl (ih _ (by omega)))))
      · split
        · exact bA_ext ih (isB_xor (ih _ (by omega)) (hbox _ (isB_cl (ih _ (by omega)))))
        · exact bA_ext ih (isB_xor (ih _ (by omega)) (ih _ (by omega)))
    · exact bA_ext ih (hby _ (by omega))
theorem L_setKey32_B {bx Y rk : Nat → Int32} (hby : ∀ k : Nat, k < 32 → isB (Y k)) (hbox : bA 256 bx) (i : Nat) (hi : i ≤ 60) : isB (itr (B_X11_setKey_32_15 bx Y) i (1, rk)).1 ∧ bA (4 * i) (itr (B_X11_setKey_32_15 bx Y) i (1, rk)).2 := by
  induction i with
  | zero => rw [itr_0]; exact ⟨isB_of (n := 1) (by decide), bA_0 _⟩
  | succ i ih =>
    obtain ⟨h1, h2⟩ := ih (by omega)
    rw [itr_s]
    generalize itr (B_X11_setKey_32_15 bx Y) i (1, rk) = z at h1 h2 ⊢
    have h3 := L_setKey32_in hby hbox h1 h2 (by omega) 4 (Nat.le_refl _)
    unfold B_X11_setKey_32_15
    dsimp only [gLet]
    split
    · exact ⟨h1, h3⟩
    · split
      · exact ⟨L_times_B h1 ⟨(by decide), (by decide)⟩, h3⟩
      · exact ⟨h1, h3⟩
theorem L_setKey32_all {bx Y rk : Nat → Int32} (hby : ∀ k : Nat, k < 32 → isB (Y k)) (hbox : bA 256 bx) : bA 240 (F_X11_setKey_32 bx rk Y).1 := (L_setKey32_B hby hbox 60 (Nat.le_refl _)).2
theorem L_blk0_in {row st : Nat → Int32} {fr : Nat} (hrow : ∀ k : Nat, k < 16 → isB (row (fr + k))) (i : Nat) (hi : i ≤ 16) : bA i (itr (B_X11_block_0_3 row fr) i st) := by
  induction i with
  | zero => exact bA_0 _
  | succ i ih =>
    rw [itr_s]
    exact bA_ext (ih (by omega)) (hrow _ (by omega))
theorem L_blk1_in {row st : Nat → Int32} {fr : Nat} (hrow : ∀ k : Nat, k < 16 → isB (row (fr + k))) (i : Nat) (hi : i ≤ 16) : bA i (itr (B_X11_block_1_3 row fr) i st) := by
  induction i with
  | zero => exact bA_0 _
  | succ i ih =>
    rw [itr_s]
    exact bA_ext (ih (by omega)) (hrow _ (by omega))
theorem L_blk0_B {bx rk : Nat → Int32} {n : Nat} (hbox : bA 256 bx) (hrk : bA (16 * n + 16) rk) {z0 : (Nat → Int32) × (Nat → Int32)} (h : bA 16 z0.1) (i : Nat) (hi : i ≤ n) : bA 16 (itr (B_X11_block_0_98 bx n rk) i z0).1 := by
  induction i with
  | zero => rw [itr_0]; exact h
  | succ i ih =>
    have ih := ih (by omega)
    rw [itr_s]
    generalize itr (B_X11_block_0_98 bx n rk) i z0 = z at ih ⊢
    unfold B_X11_block_0_98
    dsimp only [gLet]
    split
    · exact L_addRound_B (L_sub0_B hbox ih) (fun k hk => hrk _ (by omega))
    · exact L_addRound_B (L_mix_B ⟨(by decide), (by decide)⟩ ⟨(by decide), (by decide)⟩ ⟨(by decide), (by decide)⟩ ⟨(by decide), (by decide)⟩ (L_sub0_B hbox ih)) (fun k hk => hrk _ (by omega))
theorem L_blk1_B {bx rk : Nat → Int32} {n : Nat} (hbox : bA 256 bx) (hrk : bA (16 * n + 16) rk) {z0 : (Nat → Int32) × (Nat → Int32)} (h : bA 16 z0.1) (i : Nat) (hi : i ≤ n) : bA 16 (itr (B_X11_block_1_39 rk n bx) i z0).1 := by
  induction i with
  | zero => rw [itr_0]; exact h
  | succ i ih =>
    have ih := ih (by omega)
    rw [itr_s]
    generalize itr (B_X11_block_1_39 rk n bx) i z0 = z at ih ⊢
    unfold B_X11_block_1_39
    dsimp only [gLet]
    have h1 : bA 16 (F_X11_addRound rk z.1 (n - i)) := L_addRound_B ih (fun k hk => hrk _ (by omega))
    split
    · exact L_sub1_B hbox h1
    · exact L_sub1_B hbox (L_mix_B ⟨(by decide), (by decide)⟩ ⟨(by decide), (by decide)⟩ ⟨(by decide), (by decide)⟩ ⟨(by decide), (by decide)⟩ h1)
theorem L_blk0_144 {row : Nat → Int32} {fr m : Nat} {z : (Nat → Int32) × (Nat → Int32)} (hz : bA 16 z.1) (h : bA m row) (i : Nat) (hi : i ≤ 16) : bA m (itr (B_X11_block_0_144 fr z) i row) := by
  induction i with
  | zero => rw [itr_0]; exact h
  | succ i ih =>
    rw [itr_s]
    exact isB_upd (ih (by omega)) (hz i (by omega)) _
theorem L_blk1_144 {row : Nat → Int32} {fr m : Nat} {z : Nat → Int32} (hz : bA 16 z) (h : bA m row) (i : Nat) (hi : i ≤ 16) : bA m (itr (B_X11_block_1_144 fr z) i row) := by
  induction i with
  | zero => rw [itr_0]; exact h
  | succ i ih =>
    rw [itr_s]
    exact isB_upd (ih (by omega)) (hz i (by omega)) _
theorem L_blk0_row {bx rk st ot row : Nat → Int32} {n fr : Nat} (hbox : bA 256 bx) (hrow : ∀ k : Nat, k < 16 → isB (row (fr + k))) (hrk : bA (16 * n + 16) rk) (m : Nat) (h : bA m row) : bA m (F_X11_block_0 bx rk n st ot row fr).2.2 :=
  L_blk0_144 (L_blk0_B hbox hrk (z0 := (F_X11_addRound rk (itr (B_X11_block_0_3 row fr) 16 st) 0, ot)) (L_addRound_B (L_blk0_in hrow 16 (Nat.le_refl _)) (fun k hk => hrk _ (by omega))) n (Nat.le_refl _)) h 16 (Nat.le_refl _)
theorem L_blk1_row {bx rk st ot row : Nat → Int32} {n fr : Nat} (hbox : bA 256 bx) (hrow : ∀ k : Nat, k < 16 → isB (row (fr + k))) (hrk : bA (16 * n + 16) rk) (m : Nat) (h : bA m row) : bA m (F_X11_block_1 bx rk n st ot row fr).2.2 :=
  L_blk1_144 (L_addRound_B (L_blk1_B hbox hrk (z0 := (itr (B_X11_block_1_3 row fr) 16 st, ot)) (L_blk1_in hrow 16 (Nat.le_refl _)) n (Nat.le_refl _)) (fun k hk => hrk _ (by omega))) h 16 (Nat.le_refl _)
theorem L_ch0_in {m b0 : Nat} {z : Nat → Int32} (h : bA (16 * m + 16) z) (hb : b0 < m) (i : Nat) (hi : i ≤ 16) : bA (16 * m + 16) (itr (B_X11_chain_0_32 b0) i z) := by
  induction i with
  | zero => rw [itr_0]; exact h
  | succ i ih =>
    have ih := ih (by omega)
    rw [itr_s]
    exact isB_upd ih (isB_xor (ih _ (by omega)) (ih _ (by omega))) _
theorem L_ch1_in {m b0 : Nat} {z : Nat → Int32} (h : bA (16 * m + 16) z) (hb : b0 < m) (i : Nat) (hi : i ≤ 16) : bA (16 * m + 16) (itr (B_X11_chain_1_97 m b0) i z) := by
  induction i with
  | zero => rw [itr_0]; exact h
  | succ i ih =>
    have ih := ih (by omega)
    rw [itr_s]
    exact isB_upd ih (isB_xor (ih _ (by omega)) (ih _ (by omega))) _
theorem L_chain0_B {bx rk st ot w : Nat → Int32} {n m : Nat} (hbox : bA 256 bx) (hrk : bA (16 * n + 16) rk) (hw : bA (16 * m + 16) w) (i : Nat) (hi : i ≤ m) : bA (16 * m + 16) (itr (B_X11_chain_0_2 bx rk n) i (st, ot, w)).2.2 := by
  induction i with
  | zero => rw [itr_0]; exact hw
  | succ i ih =>
    have ih := ih (by omega)
    rw [itr_s]
    generalize itr (B_X11_chain_0_2 bx rk n) i (st, ot, w) = z at ih ⊢
    have h1 := L_ch0_in ih (show i < m by omega) 16 (Nat.le_refl _)
    exact L_blk0_row hbox (fun k hk => h1 _ (by omega)) hrk _ h1
theorem L_chain1_B {bx rk st ot w : Nat → Int32} {n m : Nat} (hbox : bA 256 bx) (hrk : bA (16 * n + 16) rk) (hw : bA (16 * m + 16) w) (i : Nat) (hi : i ≤ m) : bA (16 * m + 16) (itr (B_X11_chain_1_2 bx rk n m) i (st, ot, w)).2.2 := by
  induction i with
  | zero => rw [itr_0]; exact hw
  | succ i ih =>
    have ih := ih (by omega)
    rw [itr_s]
    generalize itr (B_X11_chain_1_2 bx rk n m) i (st, ot, w) = z at ih ⊢
    exact L_ch1_in (L_blk1_row (st := z.1) (ot := z.2.1) (fr := 16 * (m - i)) hbox (fun k hk => ih _ (by omega)) hrk _ ih) (show i < m by omega) 16 (Nat.le_refl _)
