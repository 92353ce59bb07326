/-! what the contracts need of the models: indexes, counts that stay -/
theorem L_pick (x y : Int32) : vp_in (F_X6_pick x y) 16 := by
  unfold F_X6_pick
  split
  · exact pk_andIn _ 4 (by decide) (by decide)
  · split
    · exact pk_andIn _ 4 (by decide) (by decide)
    · split
      · exact pk_andIn _ 4 (by decide) (by decide)
      · exact pk_andIn _ 4 (by decide) (by decide)
theorem L_put_cnt (n : Nat) (r : gRow) (i b : Int32) : (F_X5_put n r i b).1 = r.1 := by
  unfold F_X5_put
  split
  · rfl
  · split
    · rfl
    · split <;> rfl
theorem L_turn_cnt {n3 : Nat} (i : Nat) (z0 : Int32 × Int32 × (Nat → Int32) × gRow) : F_X5_count (itr (B_X7_turn_15 n3) i z0).2.2.2 = z0.2.2.2.1 := by
  induction i with
  | zero => rw [itr_0]; rfl
  | succ i ih => rw [itr_s]; exact (L_put_cnt _ _ _ _).trans ih
theorem L_spread_or (n2 : Nat) (ky la : Nat → Int32) (q : gRow) : (F_X0_spreadKey n2 ky la q).1 = 10 ∨ (F_X0_spreadKey n2 ky la q).1 = 14 := by
  unfold F_X0_spreadKey
  dsimp only [gLet]
  split
  · exact Or.inl rfl
  · exact Or.inr rfl
theorem L_spread_le (n2 : Nat) (ky la : Nat → Int32) (q : gRow) : (F_X0_spreadKey n2 ky la q).1.toNatClampNeg ≤ 14 := by
  rcases L_spread_or n2 ky la q with h | h <;> rw [h] <;> decide
theorem L_spread_nn (n2 : Nat) (ky la : Nat → Int32) (q : gRow) : ¬ (F_X0_spreadKey n2 ky la q).1 < 0 := by
  rcases L_spread_or n2 ky la q with h | h <;> rw [h] <;> decide
theorem L_shutc69_cnt {n3 i : Nat} {u : (Nat → Int32) × (Nat → Int32)} (k : Nat) (z : gRow) : (itr (B_X0_shutChain_69 n3 i u) k z).1 = z.1 := by
  induction k with
  | zero => rw [itr_0]
  | succ k ih => rw [itr_s]; exact (L_put_cnt _ _ _ _).trans ih
theorem L_shutc_cnt {n3 : Nat} {u : Int32 × (Nat → Int32) × (Nat → Int32)} (i : Nat) (z0 : (Nat → Int32) × (Nat → Int32) × gRow) : F_X5_count (itr (B_X0_shutChain_8 n3 u) i z0).2.2 = z0.2.2.1 := by
  induction i with
  | zero => rw [itr_0]; rfl
  | succ i ih => rw [itr_s]; exact (L_shutc69_cnt _ _).trans ih
/-! counts of rows -/
theorem L_add_lt {n : Nat} (hn : n < 2147483648) {k : Nat} (h : k < n) (f : Nat → Int32) (b : Int32) : F_X5_add n (nI k, f) b = (nI (k + 1), upd f k (b &&& 255)) := by
  unfold F_X5_add
  rw [if_neg (nI_pos (by omega)), if_neg (nI_ge h hn)]
  show (nI k + 1, upd f (nI k).toNatClampNeg (b &&& 255)) = _
  rw [nI_1, nI_clamp (by omega)]
theorem L_add_full {n : Nat} (hn : n < 2147483648) (f : Nat → Int32) (b : Int32) : F_X5_add n (nI n, f) b = (nI n, f) := by
  unfold F_X5_add
  rw [if_neg (nI_pos (by omega)), if_pos (nI_le (Nat.le_refl n) hn)]
theorem L_add_cnt {n : Nat} (hn : n < 2147483648) {r : gRow} {k : Nat} (hk : r.1 = nI k) (h : k ≤ n) (b : Int32) : (F_X5_add n r b).1 = nI (min n (k + 1)) := by
  obtain ⟨c, f⟩ := r
  simp only at hk
  subst hk
  rcases Nat.lt_or_ge k n with q | q
  · rw [L_add_lt hn q]
    exact congrArg nI (by omega)
  · have e : k = n := by omega
    subst e
    rw [L_add_full hn]
    exact congrArg nI (by omega)
theorem L_adds {n : Nat} (hn : n < 2147483648) (b : Nat → gRow → gRow) (hb : ∀ i z, ∃ v, b i z = F_X5_add n z v) {r : gRow} {k : Nat} (hk : r.1 = nI k) (h : k ≤ n) (i : Nat) : (itr b i r).1 = nI (min n (k + i)) := by
  induction i with
  | zero => rw [itr_0, hk]; exact congrArg nI (by omega)
  | succ i ih =>
    rw [itr_s]
    obtain ⟨v, hv⟩ := hb i (itr b i r)
    rw [hv, L_add_cnt hn ih (by omega)]
    exact congrArg nI (by omega)
def rOK (n : Nat) (r : gRow) : Prop := ∃ k, k ≤ n ∧ r.1 = nI k
theorem L_hcd {d : gRow} (h : rOK 432 d) : d.1.toNatClampNeg ≤ 1000 := by
  obtain ⟨k, h1, h2⟩ := h
  rw [h2, nI_clamp (by omega)]
  omega
theorem L_addSame_cnt {n : Nat} (hn : n < 2147483648) {r : gRow} {k : Nat} (hk : r.1 = nI k) (h : k ≤ n) (b t : Int32) : (F_X5_addSame n r b t).1 = nI (min n (k + t.toNatClampNeg)) := L_adds hn _ (fun _ _ => ⟨_, rfl⟩) hk h _
theorem L_addNumber_cnt {n : Nat} (hn : n < 2147483648) {r : gRow} {k : Nat} (hk : r.1 = nI k) (h : k ≤ n) (v t : Int32) : (F_X5_addNumber n r v t).1 = nI (min n (k + t.toNatClampNeg)) := L_adds hn _ (fun _ _ => ⟨_, rfl⟩) hk h _
theorem L_addPart_cnt {n n2 : Nat} (hn : n < 2147483648) {r q : gRow} {k : Nat} (hk : r.1 = nI k) (h : k ≤ n) (s t : Int32) : (F_X5_addPart n n2 r q s t).1 = nI (min n (k + t.toNatClampNeg)) := L_adds hn _ (fun _ _ => ⟨_, rfl⟩) hk h _
theorem L_ok_clear (r : gRow) (g : Nat → Int32) {n : Nat} : rOK n ((F_X5_clear r).1, g) := ⟨0, Nat.zero_le _, rfl⟩
theorem L_ok_add {r : gRow} {b : Int32} (h : rOK 432 r) : rOK 432 (F_X5_add 432 r b) := by
  obtain ⟨k, h1, h2⟩ := h
  exact ⟨_, Nat.min_le_left _ _, L_add_cnt (by decide) h2 h1 b⟩
theorem L_ok_addSame {r : gRow} {b t : Int32} (h : rOK 432 r) : rOK 432 (F_X5_addSame 432 r b t) := by
  obtain ⟨k, h1, h2⟩ := h
  exact ⟨_, Nat.min_le_left _ _, L_addSame_cnt (by decide) h2 h1 b t⟩
theorem L_ok_addNumber {r : gRow} {b t : Int32} (h : rOK 432 r) : rOK 432 (F_X5_addNumber 432 r b t) := by
  obtain ⟨k, h1, h2⟩ := h
  exact ⟨_, Nat.min_le_left _ _, L_addNumber_cnt (by decide) h2 h1 b t⟩
theorem L_ok_addPart {n2 : Nat} {r q : gRow} {s t : Int32} (h : rOK 432 r) : rOK 432 (F_X5_addPart 432 n2 r q s t) := by
  obtain ⟨k, h1, h2⟩ := h
  exact ⟨_, Nat.min_le_left _ _, L_addPart_cnt (by decide) h2 h1 s t⟩
theorem L_ok_addAll {n2 : Nat} {r q : gRow} (h : rOK 432 r) : rOK 432 (F_X5_addAll 432 n2 r q) := L_ok_addPart h
theorem L_ok_copy {n2 : Nat} {r q : gRow} : rOK 432 (F_X5_copy 432 n2 r q) := L_ok_addPart (L_ok_clear _ _)
theorem L_copy_cnt {n n2 : Nat} (hn : n < 2147483648) {r q : gRow} {k : Nat} (hk : q.1 = nI k) (h : k ≤ n) : (F_X5_copy n n2 r q).1 = nI k := by
  refine (L_addPart_cnt (r := ((F_X5_clear r).1, r.2)) (k := 0) hn rfl (Nat.zero_le _) 0 (F_X5_count q)).trans ?_
  show nI (min n (0 + q.1.toNatClampNeg)) = nI k
  rw [hk, nI_clamp (by omega)]
  exact congrArg nI (by omega)
theorem L_ok_tbz (t : gRow) : rOK 432 (F_X3_textBehindZeros t) := L_ok_addSame (L_ok_clear _ _)
theorem L_tbz_cnt (t : gRow) : (F_X3_textBehindZeros t).1 = nI 16 := (L_addSame_cnt (r := ((F_X5_clear t).1, t.2)) (k := 0) (n := 432) (by decide) rfl (Nat.zero_le _) 0 16).trans (by decide)
theorem L_c16_tbz (t : gRow) (n2 : Nat) (q : gRow) : 16 ≤ (F_X5_addAll 432 n2 (F_X3_textBehindZeros t) q).1 := by
  have h := L_addPart_cnt (n := 432) (n2 := n2) (q := q) (by decide) (L_tbz_cnt t) (by decide) 0 (F_X5_count q)
  show 16 ≤ (F_X5_addPart 432 n2 (F_X3_textBehindZeros t) q 0 (F_X5_count q)).1
  rw [h]
  exact nI_le (a := 16) (by omega) (by omega)
theorem L_c16_copy {n2 : Nat} {r q : gRow} (h : ∃ k, k ≤ 400 ∧ q.1 = nI k) (h16 : 16 ≤ F_X5_count q) : 16 ≤ (F_X5_copy 432 n2 r q).1 := by
  obtain ⟨k, h1, h2⟩ := h
  rw [L_copy_cnt (by decide) h2 (by omega), ← h2]
  exact h16
theorem L_ok_give_e {given : Int32} {Xt q : gRow} {b : Int32} (h : rOK 432 q) : rOK 432 (F_X9_giveTape_e 432 given Xt q b).2 := L_ok_addPart h
theorem L_ok_give_l {given : Int32} {Xt q : gRow} {b : Int32} (h : rOK 432 q) : rOK 432 (F_X9_giveTape_l 432 given Xt q b).2 := L_ok_addPart h
theorem L_fill16 {x : Int32} (h : ¬ x < 1) (h2 : x ≤ 16) : x.toNatClampNeg ≤ 16 := (g_rle (i := 16) (by decide)).mp h2
theorem L_last {rv : Nat} (h : 2 ≤ rv ∧ rv ≤ 4) : F_X1_lastStep rv = nI (19 * min 1 (rv - 2)) := by
  unfold F_X1_lastStep
  split
  · rename_i e
    subst e
    rfl
  · rename_i e
    have e2 : 19 * min 1 (rv - 2) = 19 := by omega
    rw [e2]
    rfl
