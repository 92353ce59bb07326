/-! RC4: the class's turn is the reference's throughStream -/
theorem rem_and {x : Int32} (h : ¬ x < 0) : x &&& 255 = x - x / 256 * 256 := by
  have h1 := g_nat h
  have h2 := g_clamp_lt x
  generalize x.toNatClampNeg = k at h1 h2
  subst h1
  rw [pk_andN (by omega) 8 (by decide), show (256 : Int32) = nI 256 from rfl, pk_rem h2 (by decide) (by decide)]
theorem and_cl {i : Nat} (h : i < 256) : (nI i &&& 255).toNatClampNeg = i := by
  rw [pk_andN (by omega) 8 (by decide), Nat.mod_eq_of_lt (by omega), nI_clamp (by omega)]
theorem and_and (x : Int32) : (x &&& 255) &&& 255 = x &&& 255 := and255_of (isB_and x)
theorem rowR.put {n : Nat} {r : gRow} {f : Nat → Int32} {c k : Nat} {b : Int32} (h : rowR n r f c) (hn : n < 2147483648) (hk : k < c) (hb : isB b) : rowR n (F_X5_put n r (nI k) b) (upd f k b) c := by
  have hc := h.2.1
  have e : F_X5_put n r (nI k) b = (r.1, upd r.2 k b) := by
    unfold F_X5_put
    rw [if_neg (nI_pos (by omega)), h.1, if_neg (nI_ge hk (by omega)), if_neg (nI_ge (by omega) hn), nI_clamp (by omega), and255_of hb]
  rw [e]
  refine ⟨h.1, hc, fun j hj => ?_⟩
  by_cases ej : j = k
  · subst ej
    show upd r.2 j b j = upd f j b j ∧ _
    rw [upd_s, upd_s]
    exact ⟨rfl, hb⟩
  · show upd r.2 k b j = upd f k b j ∧ _
    rw [upd_n _ ej, upd_n _ ej]
    exact h.2.2 j hj
theorem swap_eq {mx s : Nat → Int32} (e : eqA 256 mx s) {i : Nat} (hi : i < 256) {j : Int32} (hj : isB j) : eqA 256 (F_X7_swap mx (nI i) j) (upd (upd s i (s j.toNatClampNeg)) j.toNatClampNeg (s i)) := by
  unfold F_X7_swap
  rw [and_cl hi, and255_of hj]
  exact eqA_upd (eqA_upd e i (e _ (isB_cl hj))) _ (e i hi)
theorem key_fill {mx st : Nat → Int32} : eqA 256 (itr B_X7_mixKey_2 256 mx) (itr B_X11_throughStream_3 256 st) := by
  intro k hk
  rw [itr_fill (b := B_X7_mixKey_2) (w := fun i => nI i) (fun _ _ => rfl) 256 mx k hk, itr_fill (b := B_X11_throughStream_3) (w := fun i => nI i) (fun _ _ => rfl) 256 st k hk]
theorem key_fill_B {st : Nat → Int32} : bA 256 (itr B_X11_throughStream_3 256 st) := by
  intro k hk
  rw [itr_fill (b := B_X11_throughStream_3) (w := fun i => nI i) (fun _ _ => rfl) 256 st k hk]
  exact isB_of hk
theorem next_mod {i size : Nat} (hs : 0 < size) (hl : size < 2147483648) : (if nI size ≤ nI (i % size) + 1 then (0 : Int32) else nI (i % size) + 1) = nI ((i + 1) % size) := by
  have hm := Nat.mod_lt i hs
  rw [nI_1, ← Nat.mod_add_mod i size 1]
  by_cases h : i % size + 1 < size
  · rw [if_neg (nI_ge h (by omega)), Nat.mod_eq_of_lt h]
  · rw [if_pos (nI_le (by omega) (by omega)), show i % size + 1 = size by omega, Nat.mod_self]
    rfl
theorem mixKey_R {n2 : Nat} {q : gRow} {mx st Y : Nat → Int32} {size : Nat} {wv : Int32} (h : rowR n2 q Y size) (hn : n2 < 2147483648) (hs : 0 < size) (hw : isB wv) :
    eqA 256 (F_X7_mixKey n2 mx q wv) (itr (B_X11_throughStream_32 Y size wv) 256 (0, itr B_X11_throughStream_3 256 st)).2 ∧ bA 256 (itr (B_X11_throughStream_32 Y size wv) 256 (0, itr B_X11_throughStream_3 256 st)).2 := by
  have hc := h.2.1
  have key : (fun (i : Nat) (z : Int32 × Int32 × (Nat → Int32)) (w : Int32 × (Nat → Int32)) => z.1 = w.1 ∧ isB w.1 ∧ z.2.1 = nI (i % size) ∧ eqA 256 z.2.2 w.2 ∧ bA 256 w.2) 256 (itr (B_X7_mixKey_30 n2 q wv) 256 (0, 0, itr B_X7_mixKey_2 256 mx)) (itr (B_X11_throughStream_32 Y size wv) 256 (0, itr B_X11_throughStream_3 256 st)) := by
    refine itr_rel (fun (i : Nat) (z : Int32 × Int32 × (Nat → Int32)) (w : Int32 × (Nat → Int32)) => z.1 = w.1 ∧ isB w.1 ∧ z.2.1 = nI (i % size) ∧ eqA 256 z.2.2 w.2 ∧ bA 256 w.2) ⟨rfl, isB_0, by rw [Nat.zero_mod]; rfl, key_fill, key_fill_B⟩ ?_
    intro i z w hi hz
    obtain ⟨h1, h2, h3, h4, h5⟩ := hz
    have hm := Nat.mod_lt i hs
    have ea : F_X5_at n2 q z.2.1 = Y (i % size) := by rw [h3]; exact h.at hn hm
    have hy := h.byt hm
    have nn := nn_add3 h2 (h5 i hi) (isB_xor hy hw)
    have ej : ((z.1 + (z.2.2 i)) + (Y (i % size) ^^^ wv)) &&& 255 = ((w.1 + (w.2 i)) + (Y (i % size) ^^^ wv)) - ((w.1 + (w.2 i)) + (Y (i % size) ^^^ wv)) / 256 * 256 := by
      rw [h1, h4 i hi]; exact rem_and nn
    have hjB := isB_rem nn
    have enx := next_mod (i := i) hs (by omega)
    have e : B_X7_mixKey_30 n2 q wv i z = (((z.1 + (z.2.2 i)) + (Y (i % size) ^^^ wv)) &&& 255, (if nI size ≤ nI (i % size) + 1 then (0 : Int32) else nI (i % size) + 1), F_X7_swap z.2.2 (nI i) (((z.1 + (z.2.2 i)) + (Y (i % size) ^^^ wv)) &&& 255)) := by
      unfold B_X7_mixKey_30
      dsimp only [gLet]
      rw [ea, h3, show F_X5_count q = nI size from h.1]
      split
      · rfl
      · rfl
    show _ ∧ _
    rw [e, enx, ej]
    exact ⟨rfl, hjB, rfl, swap_eq h4 hi hjB, isB_sw h5 hi (isB_cl hjB)⟩
  exact ⟨key.2.2.2.1, key.2.2.2.2⟩
/-- RC4 over the bytes of a row from a place on -/
theorem stream_R {n2 n3 : Nat} {q d : gRow} {mx st Y row : Nat → Int32} {size fr cn : Nat} {wv : Int32} (h : rowR n2 q Y size) (hn : n2 < 2147483648) (hs : 0 < size) (hw : isB wv) (hd : rowR n3 d (fun t => row (fr + t)) cn) (hn3 : n3 < 2147483648) :
    rowR n3 (F_X7_turn n2 n3 mx q d wv).2 (fun t => (F_X11_throughStream st Y row size wv fr cn).2 (fr + t)) cn ∧ ∀ t : Nat, (t < fr ∨ fr + cn ≤ t) → (F_X11_throughStream st Y row size wv fr cn).2 t = row t := by
  have hcn := hd.2.1
  obtain ⟨k1, k2⟩ := mixKey_R (mx := mx) (st := st) h hn hs hw
  have key : (fun (k : Nat) (z : Int32 × Int32 × (Nat → Int32) × gRow) (w : Int32 × (Nat → Int32) × (Nat → Int32)) => z.1 = nI (k % 256) ∧ z.2.1 = w.1 ∧ isB w.1 ∧ eqA 256 z.2.2.1 w.2.1 ∧ bA 256 w.2.1 ∧ rowR n3 z.2.2.2 (fun t => w.2.2 (fr + t)) cn ∧ ∀ t : Nat, (t < fr ∨ fr + cn ≤ t) → w.2.2 t = row t) cn (itr (B_X7_turn_15 n3) cn (0, 0, F_X7_mixKey n2 mx q wv, d)) (itr (B_X11_throughStream_109 fr) cn (0, (itr (B_X11_throughStream_32 Y size wv) 256 (0, itr B_X11_throughStream_3 256 st)).2, row)) := by
    refine itr_rel (fun (k : Nat) (z : Int32 × Int32 × (Nat → Int32) × gRow) (w : Int32 × (Nat → Int32) × (Nat → Int32)) => z.1 = nI (k % 256) ∧ z.2.1 = w.1 ∧ isB w.1 ∧ eqA 256 z.2.2.1 w.2.1 ∧ bA 256 w.2.1 ∧ rowR n3 z.2.2.2 (fun t => w.2.2 (fr + t)) cn ∧ ∀ t : Nat, (t < fr ∨ fr + cn ≤ t) → w.2.2 t = row t) ⟨rfl, rfl, isB_0, k1, k2, hd, fun _ _ => rfl⟩ ?_
    intro k z w hk hz
    obtain ⟨h1, h2, h3, h4, h5, h6, h7⟩ := hz
    have hm : (k + 1) % 256 < 256 := Nat.mod_lt _ (by decide)
    have ei : (z.1 + 1) &&& 255 = nI ((k + 1) % 256) := by
      rw [h1, nI_1, pk_andN (by omega) 8 (by decide)]
      exact congrArg nI (by omega)
    have eic : ((z.1 + 1) &&& 255).toNatClampNeg = (k + 1) % 256 := by rw [ei, nI_clamp (by omega)]
    have nn := nn_add2 h3 (h5 _ hm)
    have hjB := isB_rem nn
    have ej : (z.2.1 + (z.2.2.1 ((z.1 + 1) &&& 255).toNatClampNeg)) &&& 255 = (w.1 + (w.2.1 ((k + 1) % 256))) - (w.1 + (w.2.1 ((k + 1) % 256))) / 256 * 256 := by
      rw [eic, h2, h4 _ hm]; exact rem_and nn
    have hsw := swap_eq h4 hm hjB
    have hswB := isB_sw h5 hm (isB_cl hjB)
    have nn2 := nn_add2 (hswB _ hm) (hswB _ (isB_cl hjB))
    have hB2 := isB_rem nn2
    have hrow := h6.byt hk
    have e : B_X7_turn_15 n3 k z = (nI ((k + 1) % 256), ((w.1 + (w.2.1 ((k + 1) % 256))) - (w.1 + (w.2.1 ((k + 1) % 256))) / 256 * 256), F_X7_swap z.2.2.1 (nI ((k + 1) % 256)) ((w.1 + (w.2.1 ((k + 1) % 256))) - (w.1 + (w.2.1 ((k + 1) % 256))) / 256 * 256), F_X5_put n3 z.2.2.2 (nI k) ((w.2.2 (fr + k)) ^^^ (F_X7_swap z.2.2.1 (nI ((k + 1) % 256)) ((w.1 + (w.2.1 ((k + 1) % 256))) - (w.1 + (w.2.1 ((k + 1) % 256))) / 256 * 256) (((F_X7_swap z.2.2.1 (nI ((k + 1) % 256)) ((w.1 + (w.2.1 ((k + 1) % 256))) - (w.1 + (w.2.1 ((k + 1) % 256))) / 256 * 256) ((k + 1) % 256)) + (F_X7_swap z.2.2.1 (nI ((k + 1) % 256)) ((w.1 + (w.2.1 ((k + 1) % 256))) - (w.1 + (w.2.1 ((k + 1) % 256))) / 256 * 256) ((w.1 + (w.2.1 ((k + 1) % 256))) - (w.1 + (w.2.1 ((k + 1) % 256))) / 256 * 256).toNatClampNeg)) &&& 255).toNatClampNeg))) := by
      unfold B_X7_turn_15
      dsimp only [gLet]
      rw [ej, eic, ei, show F_X5_at n3 z.2.2.2 (nI k) = w.2.2 (fr + k) from h6.at hn3 hk]
    show _ ∧ _
    rw [e]
    generalize hjj : (w.1 + (w.2.1 ((k + 1) % 256))) - (w.1 + (w.2.1 ((k + 1) % 256))) / 256 * 256 = jj at hjB hsw hswB nn2 hB2
    have em : B_X11_throughStream_109 fr k w = (jj, (upd (upd w.2.1 ((k + 1) % 256) (w.2.1 jj.toNatClampNeg)) jj.toNatClampNeg (w.2.1 ((k + 1) % 256))), upd w.2.2 (fr + k) ((w.2.2 (fr + k)) ^^^ ((upd (upd w.2.1 ((k + 1) % 256) (w.2.1 jj.toNatClampNeg)) jj.toNatClampNeg (w.2.1 ((k + 1) % 256))) ((((upd (upd w.2.1 ((k + 1) % 256) (w.2.1 jj.toNatClampNeg)) jj.toNatClampNeg (w.2.1 ((k + 1) % 256))) ((k + 1) % 256)) + ((upd (upd w.2.1 ((k + 1) % 256) (w.2.1 jj.toNatClampNeg)) jj.toNatClampNeg (w.2.1 ((k + 1) % 256))) jj.toNatClampNeg)) - (((upd (upd w.2.1 ((k + 1) % 256) (w.2.1 jj.toNatClampNeg)) jj.toNatClampNeg (w.2.1 ((k + 1) % 256))) ((k + 1) % 256)) + ((upd (upd w.2.1 ((k + 1) % 256) (w.2.1 jj.toNatClampNeg)) jj.toNatClampNeg (w.2.1 ((k + 1) % 256))) jj.toNatClampNeg)) / 256 * 256).toNatClampNeg))) := by
      unfold B_X11_throughStream_109
      dsimp only [gLet]
      rw [hjj]
    rw [em]
    rw [hsw _ hm, hsw _ (isB_cl hjB), rem_and nn2, hsw _ (isB_cl hB2)]
    have hb := isB_xor hrow (hswB _ (isB_cl hB2))
    refine ⟨rfl, rfl, hjB, hsw, hswB, ?_, ?_⟩
    · refine (h6.put hn3 hk hb).congr (fun t ht => ?_)
      by_cases et : t = k
      · subst et
        exact (upd_s _ _ _).trans (upd_s _ _ _).symm
      · dsimp only
        rw [upd_n _ et, upd_n _ (by omega)]
    · intro t ht
      dsimp only
      rw [upd_n _ (by omega)]
      exact h7 t ht
  have ed : d.1.toNatClampNeg = cn := by rw [hd.1, nI_clamp (by omega)]
  have e1 : (F_X7_turn n2 n3 mx q d wv).2 = (itr (B_X7_turn_15 n3) d.1.toNatClampNeg (0, 0, F_X7_mixKey n2 mx q wv, d)).2.2.2 := rfl
  rw [e1, ed]
  exact ⟨key.2.2.2.2.2.1, key.2.2.2.2.2.2⟩
