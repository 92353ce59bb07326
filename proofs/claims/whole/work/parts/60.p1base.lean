/-! the two models side by side: rows, bytes, bits -/
theorem itr_congr {σ : Type} {b1 b2 : Nat → σ → σ} {n : Nat} (h : ∀ i z, i < n → b1 i z = b2 i z) (s : σ) : itr b1 n s = itr b2 n s := by
  induction n with
  | zero => rw [itr_0, itr_0]
  | succ n ih => rw [itr_s, itr_s, ih (fun i z hi => h i z (by omega)), h n _ (by omega)]
/-- two loops side by side, a relation kept -/
theorem itr_rel {σ τ : Type} (Rl : Nat → σ → τ → Prop) {b1 : Nat → σ → σ} {b2 : Nat → τ → τ} {n : Nat} {s : σ} {t : τ} (h0 : Rl 0 s t) (h : ∀ i z w, i < n → Rl i z w → Rl (i + 1) (b1 i z) (b2 i w)) : Rl n (itr b1 n s) (itr b2 n t) := by
  induction n with
  | zero => rw [itr_0, itr_0]; exact h0
  | succ n ih => rw [itr_s, itr_s]; exact h n _ _ (by omega) (ih (fun i z w hi => h i z w (by omega)))
theorem itr_inv {σ : Type} (P : Nat → σ → Prop) {b : Nat → σ → σ} {n : Nat} {s : σ} (h0 : P 0 s) (h : ∀ i z, i < n → P i z → P (i + 1) (b i z)) : P n (itr b n s) := by
  induction n with
  | zero => rw [itr_0]; exact h0
  | succ n ih => rw [itr_s]; exact h n _ (by omega) (ih (fun i z hi => h i z (by omega)))
theorem itd_itr {σ : Type} (b : Nat → σ → σ) (n : Nat) (s : σ) : itd b n s = itr (fun i z => b (n - 1 - i) z) n s := by
  have key : ∀ (k : Nat), k ≤ n → itd b n s = itd b (n - k) (itr (fun i z => b (n - 1 - i) z) k s) := by
    intro k
    induction k with
    | zero => intro _; rw [itr_0]; rfl
    | succ k ih =>
      intro hk
      rw [ih (by omega), itr_s, show n - k = (n - (k + 1)) + 1 by omega, itd_s, show n - 1 - k = n - (k + 1) by omega]
  rw [key n (Nat.le_refl n), Nat.sub_self, itd_0]
def eqA (n : Nat) (f g : Nat → Int32) : Prop := ∀ k : Nat, k < n → f k = g k
theorem eqA_upd {n : Nat} {f g : Nat → Int32} (h : eqA n f g) (m : Nat) {x y : Int32} (hx : x = y) : eqA n (upd f m x) (upd g m y) := by
  intro k hk
  unfold upd
  split
  · exact hx
  · exact h k hk
theorem upd_s (f : Nat → Int32) (m : Nat) (x : Int32) : upd f m x m = x := pk_us
theorem upd_n {f : Nat → Int32} {m k : Nat} (x : Int32) (h : k ≠ m) : upd f m x k = f k := pk_un h
/-- a row of the class holds the first c bytes of f -/
def rowR (n : Nat) (r : gRow) (f : Nat → Int32) (c : Nat) : Prop := r.1 = nI c ∧ c ≤ n ∧ ∀ k : Nat, k < c → r.2 k = f k ∧ isB (f k)
theorem rowR.cnt {n : Nat} {r : gRow} {f : Nat → Int32} {c : Nat} (h : rowR n r f c) : r.1 = nI c := h.1
theorem rowR.val {n : Nat} {r : gRow} {f : Nat → Int32} {c k : Nat} (h : rowR n r f c) (hk : k < c) : r.2 k = f k := (h.2.2 k hk).1
theorem rowR.byt {n : Nat} {r : gRow} {f : Nat → Int32} {c k : Nat} (h : rowR n r f c) (hk : k < c) : isB (f k) := (h.2.2 k hk).2
theorem rowR.congr {n : Nat} {r : gRow} {f g : Nat → Int32} {c : Nat} (h : rowR n r f c) (e : ∀ k : Nat, k < c → f k = g k) : rowR n r g c := ⟨h.1, h.2.1, fun k hk => by rw [← e k hk]; exact h.2.2 k hk⟩
theorem rowR.empty {n : Nat} {r : gRow} {f : Nat → Int32} (h : r.1 = 0) : rowR n r f 0 := ⟨h, Nat.zero_le _, fun k hk => absurd hk (Nat.not_lt_zero k)⟩
theorem rowR.at {n : Nat} {r : gRow} {f : Nat → Int32} {c : Nat} (h : rowR n r f c) (hn : n < 2147483648) {k : Nat} (hk : k < c) : F_X5_at n r (nI k) = f k := by
  have h2 := h.2.1
  unfold F_X5_at
  rw [if_neg (nI_pos (by omega)), h.1, if_neg (nI_ge hk (by omega)), if_neg (nI_ge (by omega) hn), nI_clamp (by omega)]
  exact h.val hk
theorem rowR.at_out {n : Nat} {r : gRow} {f : Nat → Int32} {c : Nat} (h : rowR n r f c) (hn : n < 2147483648) {k : Nat} (hk : c ≤ k) (hk2 : k < 2147483648) : F_X5_at n r (nI k) = 0 := by
  have h2 := h.2.1
  unfold F_X5_at
  rw [if_neg (nI_pos (by omega)), h.1, if_pos (nI_le hk (by omega))]
theorem and255_of {x : Int32} (h : isB x) : x &&& 255 = x := by
  obtain ⟨a, ha, rfl⟩ := isB_ex h
  rw [pk_andN (by omega) 8 (by decide), Nat.mod_eq_of_lt (by omega)]
/-- a byte behind a row -/
theorem rowR.add {n : Nat} {r : gRow} {f : Nat → Int32} {c : Nat} (h : rowR n r f c) (hn : n < 2147483648) (hc : c < n) {b v : Int32} (hv : b &&& 255 = v) : rowR n (F_X5_add n r b) (upd f c v) (c + 1) := by
  obtain ⟨r1, r2⟩ := r
  have e : r1 = nI c := h.1
  subst e
  rw [L_add_lt hn hc]
  refine ⟨rfl, hc, fun k hk => ?_⟩
  by_cases hkc : k = c
  · subst hkc
    show upd r2 k (b &&& 255) k = upd f k v k ∧ isB (upd f k v k)
    rw [upd_s, upd_s, ← hv]
    exact ⟨rfl, isB_and _⟩
  · show upd r2 c (b &&& 255) k = upd f c v k ∧ isB (upd f c v k)
    rw [upd_n _ hkc, upd_n _ hkc]
    exact h.2.2 k (by omega)
theorem rowR.clear {n : Nat} {r : gRow} {f g : Nat → Int32} : rowR n ((F_X5_clear r).1, g) f 0 := rowR.empty rfl
theorem rowR.clear' {n : Nat} {r : gRow} {f : Nat → Int32} : rowR n (F_X5_clear r) f 0 := rowR.empty rfl
/-- say of the reference, add of the class -/
theorem rowR.say {n : Nat} {r : gRow} {msg : Nat → Int32} {said : Nat} (h : rowR n r msg said) (hn : n < 2147483648) (hc : said < n) {b v : Int32} (hv : b &&& 255 = v &&& 255) : rowR n (F_X5_add n r b) (F_X11_say said msg v).2 (F_X11_say said msg v).1 := h.add hn hc hv
theorem rowR.sayRow {n n2 : Nat} {r q : gRow} {msg g : Nat → Int32} {said c s b : Nat} (h : rowR n r msg said) (hq : rowR n2 q g c) (hn : n < 2147483648) (hn2 : n2 < 2147483648) (hs : s + b ≤ c) (hb : said + b ≤ n) :
    rowR n (F_X5_addPart n n2 r q (nI s) (nI b)) (F_X11_sayRow said msg g s b).2 (F_X11_sayRow said msg g s b).1 ∧ (F_X11_sayRow said msg g s b).1 = said + b := by
  have h2 := hq.2.1
  have key : rowR n (itr (B_X5_addPart_3 n2 q (nI s) n) b r) (itr (B_X11_sayRow_3 g s) b (said, msg)).2 (itr (B_X11_sayRow_3 g s) b (said, msg)).1 ∧ (itr (B_X11_sayRow_3 g s) b (said, msg)).1 = said + b := by
    refine itr_rel (fun (i : Nat) (z : gRow) (w : Nat × (Nat → Int32)) => rowR n z w.2 w.1 ∧ w.1 = said + i) ⟨h, rfl⟩ ?_
    intro i z w hi hz
    obtain ⟨hz, hw⟩ := hz
    have ea : F_X5_at n2 q (nI s + nI i) = g (s + i) := by rw [nI_add]; exact hq.at hn2 (by omega)
    refine ⟨?_, by show w.1 + 1 = _; omega⟩
    show rowR n (F_X5_add n z (F_X5_at n2 q (nI s + nI i))) (F_X11_say w.1 w.2 (g (s + i))).2 (F_X11_say w.1 w.2 (g (s + i))).1
    rw [ea]
    exact hz.say hn (by omega) rfl
  show rowR n (itr (B_X5_addPart_3 n2 q (nI s) n) (nI b).toNatClampNeg r) (itr (B_X11_sayRow_3 g s) b (said, msg)).2 (itr (B_X11_sayRow_3 g s) b (said, msg)).1 ∧ _
  rw [nI_clamp (by omega)]
  exact key
theorem rowR.sayAll {n n2 : Nat} {r q : gRow} {msg g : Nat → Int32} {said c : Nat} (h : rowR n r msg said) (hq : rowR n2 q g c) (hn : n < 2147483648) (hn2 : n2 < 2147483648) (hb : said + c ≤ n) :
    rowR n (F_X5_addAll n n2 r q) (F_X11_sayRow said msg g 0 c).2 (F_X11_sayRow said msg g 0 c).1 ∧ (F_X11_sayRow said msg g 0 c).1 = said + c := by
  have h1 := h.sayRow hq hn hn2 (s := 0) (b := c) (by omega) hb
  show rowR n (F_X5_addPart n n2 r q 0 q.1) _ _ ∧ _
  rw [hq.1]
  exact h1
/-- part of a row behind a row, as a function -/
theorem rowR.part {n n2 : Nat} {r q : gRow} {f g e : Nat → Int32} {c0 c s b : Nat} (h : rowR n r f c0) (hq : rowR n2 q g c) (hn : n < 2147483648) (hn2 : n2 < 2147483648) (hs : s + b ≤ c) (hb : c0 + b ≤ n) (e1 : ∀ k : Nat, k < c0 → e k = f k) (e2 : ∀ k : Nat, k < b → e (c0 + k) = g (s + k)) :
    rowR n (F_X5_addPart n n2 r q (nI s) (nI b)) e (c0 + b) := by
  have h2 := hq.2.1
  have key : rowR n (itr (B_X5_addPart_3 n2 q (nI s) n) b r) e (c0 + b) := by
    refine itr_inv (fun i z => rowR n z e (c0 + i)) (h.congr (fun k hk => (e1 k hk).symm)) ?_
    intro i z hi hz
    have ea : F_X5_at n2 q (nI s + nI i) = g (s + i) := by rw [nI_add]; exact hq.at hn2 (by omega)
    have hb1 := hq.byt (k := s + i) (by omega)
    have h3 := hz.add hn (by omega) (b := F_X5_at n2 q (nI s + nI i)) (v := g (s + i)) (by rw [ea]; exact and255_of hb1)
    refine h3.congr (fun k hk => ?_)
    by_cases hkc : k = c0 + i
    · subst hkc; rw [upd_s, e2 i hi]
    · rw [upd_n _ hkc]
  show rowR n (itr (B_X5_addPart_3 n2 q (nI s) n) (nI b).toNatClampNeg r) _ _
  rw [nI_clamp (by omega)]
  exact key
theorem rowR.copy {n n2 : Nat} {r q : gRow} {g : Nat → Int32} {c : Nat} (hq : rowR n2 q g c) (hn : n < 2147483648) (hn2 : n2 < 2147483648) (hc : c ≤ n) : rowR n (F_X5_copy n n2 r q) g c := by
  have h1 := (rowR.clear (n := n) (r := r) (f := g) (g := r.2)).part hq hn hn2 (s := 0) (b := c) (e := g) (by omega) (by omega) (fun k hk => absurd hk (Nat.not_lt_zero k)) (fun k hk => by rw [Nat.zero_add])
  rw [Nat.zero_add] at h1
  show rowR n (F_X5_addPart n n2 ((F_X5_clear r).1, r.2) q 0 q.1) g c
  rw [hq.1]
  exact h1
/-! bits -/
theorem i32_ext {x y : Int32} (h : x.toBitVec = y.toBitVec) : x = y := Int32.toBitVec_inj.mp h
theorem shr8 (x : Int32) (k : Nat) (hk : k < 4) : (g_us x (nI (8 * k))) &&& 255 = (x >>> ((nI (8 * k)) &&& 31)) &&& 255 := by
  have e1 : ∀ j : Fin 4, (((nI (8 * j.val)).toUInt32 &&& Int32.toUInt32 31).toBitVec % 32).toNat = 8 * j.val := by decide +kernel
  have e2 : ∀ j : Fin 4, ((nI (8 * j.val) &&& 31).toBitVec.smod 32).toNat = 8 * j.val := by decide +kernel
  have h1 := pk_ushr x (nI (8 * k)) (8 * k) (e1 ⟨k, hk⟩)
  have h2 := pk_shr x (nI (8 * k) &&& 31) (8 * k) (e2 ⟨k, hk⟩)
  have hx := x.toBitVec.isLt
  rw [pk_and (g_us x (nI (8 * k))) 8 (by decide), pk_and (x >>> ((nI (8 * k)) &&& 31)) 8 (by decide)]
  show nI ((g_us x (nI (8 * k))).toBitVec.toNat % 2 ^ 8) = _
  have h3 : (g_us x (nI (8 * k))).toBitVec.toNat = x.toBitVec.toNat / 2 ^ (8 * k) := h1
  rw [h3]
  congr 1
  have h4 : (x >>> ((nI (8 * k)) &&& 31)).toBitVec.toInt = x.toBitVec.toInt >>> (8 * k) := h2
  have h5 : ((x >>> ((nI (8 * k)) &&& 31)).toBitVec.toNat : Int) = (x >>> ((nI (8 * k)) &&& 31)).toBitVec.toInt % 2 ^ 32 := by
    have := (x >>> ((nI (8 * k)) &&& 31)).toBitVec.isLt
    rw [BitVec.toInt_eq_toNat_cond]
    split <;> omega
  rw [h4, BitVec.toInt_eq_toNat_cond, Int.shiftRight_eq_div_pow] at h5
  match k, hk with
  | 0, _ => simp only [Nat.mul_zero, Nat.pow_zero, Nat.div_one] at h5 ⊢; split at h5 <;> omega
  | 1, _ => split at h5 <;> simp at h5 ⊢ <;> omega
  | 2, _ => split at h5 <;> simp at h5 ⊢ <;> omega
  | 3, _ => split at h5 <;> simp at h5 ⊢ <;> omega
theorem rowR.sayLow {n : Nat} {r : gRow} {msg : Nat → Int32} {said b : Nat} {w : Int32} (h : rowR n r msg said) (hn : n < 2147483648) (hb : said + b ≤ n) (hb4 : b ≤ 4) :
    rowR n (F_X5_addNumber n r w (nI b)) (F_X11_sayLow said msg w b).2 (F_X11_sayLow said msg w b).1 ∧ (F_X11_sayLow said msg w b).1 = said + b := by
  have key : rowR n (itr (B_X5_addNumber_2 n w) b r) (itr (B_X11_sayLow_2 w) b (said, msg)).2 (itr (B_X11_sayLow_2 w) b (said, msg)).1 ∧ (itr (B_X11_sayLow_2 w) b (said, msg)).1 = said + b := by
    refine itr_rel (fun (i : Nat) (z : gRow) (v : Nat × (Nat → Int32)) => rowR n z v.2 v.1 ∧ v.1 = said + i) ⟨h, rfl⟩ ?_
    intro i z v hi hz
    obtain ⟨hz, hw⟩ := hz
    refine ⟨?_, by show v.1 + 1 = _; omega⟩
    exact hz.say hn (by omega) (shr8 w i (by omega))
  show rowR n (itr (B_X5_addNumber_2 n w) (nI b).toNatClampNeg r) (itr (B_X11_sayLow_2 w) b (said, msg)).2 (itr (B_X11_sayLow_2 w) b (said, msg)).1 ∧ _
  rw [nI_clamp (by omega)]
  exact key
