/-! the reference: what its contracts need of the models -/
theorem L_sayRow_said {Y : Nat → Int32} {fr : Nat} (i : Nat) (z : Nat × (Nat → Int32)) : (itr (B_X11_sayRow_3 Y fr) i z).1 = z.1 + i := by
  induction i with
  | zero => rw [itr_0]; rfl
  | succ i ih => rw [itr_s]; exact (show _ = (itr (B_X11_sayRow_3 Y fr) i z).1 + 1 from rfl).trans (by rw [ih]; rfl)
theorem L_sayLow_said {w : Int32} (i : Nat) (z : Nat × (Nat → Int32)) : (itr (B_X11_sayLow_2 w) i z).1 = z.1 + i := by
  induction i with
  | zero => rw [itr_0]; rfl
  | succ i ih => rw [itr_s]; exact (show _ = (itr (B_X11_sayLow_2 w) i z).1 + 1 from rfl).trans (by rw [ih]; rfl)
theorem L_close_said0 (i : Nat) (z : Nat × (Nat → Int32)) : (itr B_X11_close_0_15 i z).1 = z.1 + i := by
  induction i with
  | zero => rw [itr_0]; rfl
  | succ i ih => rw [itr_s]; exact (show _ = (itr B_X11_close_0_15 i z).1 + 1 from rfl).trans (by rw [ih]; rfl)
theorem L_close_said1 (i : Nat) (z : Nat × (Nat → Int32)) : (itr B_X11_close_1_15 i z).1 = z.1 + i := by
  induction i with
  | zero => rw [itr_0]; rfl
  | succ i ih => rw [itr_s]; exact (show _ = (itr B_X11_close_1_15 i z).1 + 1 from rfl).trans (by rw [ih]; rfl)
theorem L_close_res0 (said : Nat) (msg : Nat → Int32) : (F_X11_close_0 said msg).1 = nI ((said + 1 + (120 - (said + 1) % 64) % 64 + 8) / 64) := by
  show nI (((itr B_X11_close_0_15 ((120 - (said + 1) % 64) % 64) _).1 + 1 + 1 + 1 + 1 + 1 + 1 + 1 + 1) / 64) = _
  rw [L_close_said0]
  exact congrArg nI (by show ((said + 1 + _) + 1 + 1 + 1 + 1 + 1 + 1 + 1 + 1) / 64 = _; omega)
theorem L_close_res1 (said : Nat) (msg : Nat → Int32) : (F_X11_close_1 said msg).1 = nI ((said + 1 + (120 - (said + 1) % 64) % 64 + 8) / 64) := by
  show nI (((itr B_X11_close_1_15 ((120 - (said + 1) % 64) % 64) _).1 + 1 + 1 + 1 + 1 + 1 + 1 + 1 + 1) / 64) = _
  rw [L_close_said1]
  exact congrArg nI (by show ((said + 1 + _) + 1 + 1 + 1 + 1 + 1 + 1 + 1 + 1) / 64 = _; omega)
/-! bytes -/
def isB (x : Int32) : Prop := 0 ≤ x.toInt ∧ x.toInt < 256
theorem isB_in {x : Int32} (h : isB x) : vp_in x 256 := vp_in_iff.mpr ⟨h.1, h.2⟩
theorem isB_of {n : Nat} (h : n < 256) : isB (nI n) := by
  unfold isB
  rw [nI_toInt (by omega)]
  omega
theorem isB_ex {x : Int32} (h : isB x) : ∃ n, n < 256 ∧ x = nI n := by
  have h1 := h.1
  have h2 := h.2
  refine ⟨x.toInt.toNat, by omega, ?_⟩
  apply Int32.toInt_inj.mp
  rw [nI_toInt (by omega)]
  omega
theorem g_xor (a b : Nat) : nI a ^^^ nI b = nI (a ^^^ b) := by
  apply Int32.toBitVec_inj.mp
  rw [Int32.toBitVec_xor]
  apply BitVec.eq_of_toNat_eq
  show (BitVec.ofNat 32 a ^^^ BitVec.ofNat 32 b).toNat = (BitVec.ofNat 32 (a ^^^ b)).toNat
  rw [BitVec.toNat_xor, BitVec.toNat_ofNat, BitVec.toNat_ofNat, BitVec.toNat_ofNat, Nat.xor_mod_two_pow]
theorem isB_xor {x y : Int32} (hx : isB x) (hy : isB y) : isB (x ^^^ y) := by
  obtain ⟨a, ha, rfl⟩ := isB_ex hx
  obtain ⟨b, hb, rfl⟩ := isB_ex hy
  rw [g_xor]
  exact isB_of (Nat.xor_lt_two_pow (n := 8) ha hb)
theorem nn_add2 {x y : Int32} (hx : isB x) (hy : isB y) : ¬ (x + y) < 0 := by
  obtain ⟨a, ha, rfl⟩ := isB_ex hx
  obtain ⟨b, hb, rfl⟩ := isB_ex hy
  rw [nI_add]
  exact nI_pos (by omega)
theorem nn_add3 {x y z : Int32} (hx : isB x) (hy : isB y) (hz : isB z) : ¬ ((x + y) + z) < 0 := by
  obtain ⟨a, ha, rfl⟩ := isB_ex hx
  obtain ⟨b, hb, rfl⟩ := isB_ex hy
  obtain ⟨c, hc, rfl⟩ := isB_ex hz
  rw [nI_add, nI_add]
  exact nI_pos (by omega)
theorem isB_rem {x : Int32} (h : ¬ x < 0) : isB (x - x / 256 * 256) := by
  have h1 := g_nat h
  have h2 := g_clamp_lt x
  generalize x.toNatClampNeg = k at h1 h2
  subst h1
  rw [show (256 : Int32) = nI 256 from rfl, pk_rem h2 (by decide) (by decide)]
  exact isB_of (Nat.mod_lt _ (by decide))
theorem isB_cl {x : Int32} (h : isB x) : x.toNatClampNeg < 256 := by
  obtain ⟨a, ha, rfl⟩ := isB_ex h
  rw [nI_clamp (by omega)]
  exact ha
theorem isB_and (x : Int32) : isB (x &&& 255) := by
  obtain ⟨j, hj, e⟩ := pk_andE x (m := 255) 8 (by decide)
  rw [e]
  exact isB_of hj
theorem isB_upd {f : Nat → Int32} {n : Nat} (h : ∀ k : Nat, k < n → isB (f k)) {x : Int32} (hx : isB x) (m : Nat) : ∀ k : Nat, k < n → isB (upd f m x k) := by
  intro k hk
  unfold upd
  split
  · exact hx
  · exact h k hk
theorem isB_sw {f : Nat → Int32} (h : ∀ k : Nat, k < 256 → isB (f k)) {i j : Nat} (hi : i < 256) (hj : j < 256) : ∀ k : Nat, k < 256 → isB (upd (upd f i (f j)) j (f i) k) := isB_upd (isB_upd h (h j hj) i) (h i hi) j
theorem L_ts3i (s : Nat → Int32) (i : Nat) : ∀ k : Nat, k < i → (itr B_X11_throughStream_3 i s) k = nI k := by
  induction i with
  | zero => intro k hk; exact absurd hk (Nat.not_lt_zero k)
  | succ i ih =>
    intro k hk
    rw [itr_s]
    show upd (itr B_X11_throughStream_3 i s) i (nI i) k = nI k
    unfold upd
    split
    · rename_i e; rw [e]
    · exact ih k (by omega)
theorem L_ts3 {s z : Nat → Int32} (h : z = itr B_X11_throughStream_3 256 s) : ∀ k : Nat, k < 256 → isB (z k) := by
  intro k hk
  rw [h, L_ts3i s 256 k hk]
  exact isB_of hk
theorem L_ts32 {Y : Nat → Int32} {size : Nat} {xv : Int32} (h0 : 0 < size) (hY : ∀ k : Nat, k < size → isB (Y k)) (hx : isB xv) (i : Nat) (hi : i ≤ 256) (st : Nat → Int32) (hs : ∀ k : Nat, k < 256 → isB (st k)) :
    isB (itr (B_X11_throughStream_32 Y size xv) i (0, st)).1 ∧ ∀ k : Nat, k < 256 → isB ((itr (B_X11_throughStream_32 Y size xv) i (0, st)).2 k) := by
  induction i with
  | zero => rw [itr_0]; exact ⟨isB_of (n := 0) (by decide), hs⟩
  | succ i ih =>
    obtain ⟨h1, h2⟩ := ih (by omega)
    rw [itr_s]
    have hr := isB_rem (nn_add3 h1 (h2 i (by omega)) (isB_xor (hY _ (Nat.mod_lt i h0)) hx))
    exact ⟨hr, isB_sw h2 (by omega) (isB_cl hr)⟩
theorem L_ts32z {Y : Nat → Int32} {size : Nat} {xv : Int32} (h0 : 0 < size) (hY : ∀ k : Nat, k < size → isB (Y k)) (hx : isB xv) {st : Nat → Int32} {z : Int32 × (Nat → Int32)} (h : z = itr (B_X11_throughStream_32 Y size xv) 256 (0, st)) (hs : ∀ k : Nat, k < 256 → isB (st k)) : ∀ k : Nat, k < 256 → isB (z.2 k) := by
  rw [h]
  exact (L_ts32 h0 hY hx 256 (Nat.le_refl _) st hs).2
theorem L_ts109 {fr : Nat} (i : Nat) (z : Int32 × (Nat → Int32) × (Nat → Int32)) (h1 : isB z.1) (h2 : ∀ k : Nat, k < 256 → isB (z.2.1 k)) :
    isB (itr (B_X11_throughStream_109 fr) i z).1 ∧ ∀ k : Nat, k < 256 → isB ((itr (B_X11_throughStream_109 fr) i z).2.1 k) := by
  induction i with
  | zero => rw [itr_0]; exact ⟨h1, h2⟩
  | succ i ih =>
    obtain ⟨h3, h4⟩ := ih
    rw [itr_s]
    have hm : (i + 1) % 256 < 256 := Nat.mod_lt _ (by decide)
    have hr := isB_rem (nn_add2 h3 (h4 _ hm))
    exact ⟨hr, isB_sw h4 hm (isB_cl hr)⟩
theorem L_keySize {rv : Nat} : F_X11_keySize rv = nI (gks rv) := by
  unfold F_X11_keySize gks
  split
  · rfl
  · split <;> rfl
