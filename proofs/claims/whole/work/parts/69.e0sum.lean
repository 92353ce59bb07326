/-! revisions 2 to 4: words, sums, keys, checks -/
theorem gLet_p {α β : Type} (x : α) (f : α → β) : gLet x f = f x := gLet_eq rfl rfl
theorem T0_B : ∀ k : Nat, k < 32 → isB (gTf 0 k) := by
  intro k hk
  have h : ∀ i : Fin 32, 0 ≤ (gTf 0 i.val).toInt ∧ (gTf 0 i.val).toInt < 256 := by decide +kernel
  exact h ⟨k, hk⟩
theorem keyBytes_R (rv : Nat) : F_X9_keyBytes_e rv = nI (gks rv) := by
  unfold F_X9_keyBytes_e gks
  split
  · rfl
  · split <;> rfl
theorem addFill_R {n : Nat} {r : gRow} {f e : Nat → Int32} {c b : Nat} (h : rowR n r f c) (hn : n < 2147483648) (hb : c + b ≤ n) (hb2 : b ≤ 32) (e1 : ∀ k : Nat, k < c → e k = f k) (e2 : ∀ k : Nat, k < b → e (c + k) = gTf 0 k) :
    rowR n (F_X5_addFill n r (nI b)) e (c + b) := by
  have key : rowR n (itr (B_X5_addFill_2 n) b r) e (c + b) := by
    refine itr_inv (fun (i : Nat) (z : gRow) => rowR n z e (c + i)) (h.congr (fun k hk => (e1 k hk).symm)) ?_
    intro i z hi hz
    have h1 := hz.add hn (by omega) (b := gTf 0 i) (v := gTf 0 i) (and255_of (T0_B i (by omega)))
    refine h1.congr (fun k hk => ?_)
    by_cases hk2 : k = c + i
    · rw [hk2, upd_s, e2 i hi]
    · rw [upd_n _ hk2]
  unfold F_X5_addFill
  rw [nI_clamp (by omega), Nat.min_eq_left hb2]
  dsimp only [gLet]
  rw [if_pos (Nat.le_refl b)]
  exact key
theorem pad_at (fill pd Y : Nat → Int32) (cn k : Nat) (hk : k < 32) : F_X11_pad fill pd Y cn k = if cn ≤ k then fill (k - cn) else Y k :=
  itr_fill (b := B_X11_pad_2 cn fill Y) (w := fun i => if cn ≤ i then fill (i - cn) else Y i) (fun i z => by
    unfold B_X11_pad_2
    by_cases h : cn ≤ i
    · rw [if_pos h, if_pos h]
    · rw [if_neg h, if_neg h]) 32 pd k hk
theorem pad_row {n n2 v : Nat} {q t : gRow} {Y fill : Nat → Int32} {cn : Nat} (h : rowR n q Y cn) (hn : n < 2147483648) (hn2 : n2 < 2147483648) (h32 : 32 ≤ n2) (hf : ∀ k : Nat, k < 32 → fill k = gTf 0 k) (pd : Nat → Int32) (hv : v = min 32 cn) :
    rowR n2 (F_X5_addFill n2 (F_X5_addPart n2 n ((F_X5_clear t).1, t.2) q (nI 0) (nI v)) (nI (32 - v))) (F_X11_pad fill pd Y cn) 32 := by
  have hcn := h.2.1
  have hp := (rowR.clear (n := n2) (r := t) (f := Y) (g := t.2)).part (s := 0) (b := v) (e := F_X11_pad fill pd Y cn) h hn2 hn (by omega) (by omega) (fun k hk => absurd hk (Nat.not_lt_zero k)) (fun k hk => by
      rw [Nat.zero_add, pad_at _ _ _ _ _ (by omega), if_neg (by omega)])
  have ha := addFill_R (b := 32 - v) (e := F_X11_pad fill pd Y cn) hp hn2 (by omega) (by omega) (fun _ _ => rfl) (fun k hk => by
      rw [Nat.zero_add, pad_at _ _ _ _ _ (by omega), if_pos (by omega), hf _ (by omega)]
      congr 1
      omega)
  have e3 : 0 + v + (32 - v) = 32 := by omega
  rw [e3] at ha
  exact ha
theorem pad_cnt {n n2 v : Nat} {q t : gRow} {Y : Nat → Int32} {cn : Nat} (h : rowR n q Y cn) (hn : n < 2147483648) (hn2 : n2 < 2147483648) (h32 : 32 ≤ n2) (hv : v = min 32 cn) :
    nI 32 - F_X5_count (F_X5_addPart n2 n ((F_X5_clear t).1, t.2) q (nI 0) (nI v)) = nI (32 - v) := by
  have hcn := h.2.1
  have hp := (rowR.clear (n := n2) (r := t) (f := Y) (g := t.2)).part (s := 0) (b := v) (e := fun k => Y k) h hn2 hn (by omega) (by omega) (fun k hk => absurd hk (Nat.not_lt_zero k)) (fun k hk => rfl)
  have e : F_X5_count (F_X5_addPart n2 n ((F_X5_clear t).1, t.2) q (nI 0) (nI v)) = nI (0 + v) := hp.1
  rw [e, Nat.zero_add]
  exact nI_sub (by omega)
theorem pad_min {n : Nat} {q : gRow} {Y : Nat → Int32} {cn : Nat} (h : rowR n q Y cn) (hn : n < 2147483648) : (if nI 32 < F_X5_count q then nI 32 else F_X5_count q) = nI (min 32 cn) := by
  have hcn := h.2.1
  have e : F_X5_count q = nI cn := h.1
  rw [e]
  by_cases h1 : 32 < cn
  · rw [if_pos (nI_lt h1 (by omega)), Nat.min_eq_left (by omega)]
  · rw [if_neg (nI_nlt (by omega) (by omega)), Nat.min_eq_right (by omega)]
theorem pad_eq (n n2 : Nat) (q t : gRow) : F_X1_pad n n2 q t = F_X5_addFill n2 (F_X5_addPart n2 n ((F_X5_clear t).1, t.2) q (nI 0) (if nI 32 < F_X5_count q then nI 32 else F_X5_count q)) (nI 32 - F_X5_count (F_X5_addPart n2 n ((F_X5_clear t).1, t.2) q (nI 0) (if nI 32 < F_X5_count q then nI 32 else F_X5_count q))) := by
  unfold F_X1_pad
  simp only [gLet_p]
  rfl
theorem pad_R {n n2 : Nat} {q t : gRow} {Y fill : Nat → Int32} {cn : Nat} (h : rowR n q Y cn) (hn : n < 2147483648) (hn2 : n2 < 2147483648) (h32 : 32 ≤ n2) (hf : ∀ k : Nat, k < 32 → fill k = gTf 0 k) (pd : Nat → Int32) :
    rowR n2 (F_X1_pad n n2 q t) (F_X11_pad fill pd Y cn) 32 := by
  rw [pad_eq, pad_min h hn, pad_cnt h hn hn2 h32 rfl]
  exact pad_row h hn hn2 h32 hf pd rfl
theorem sumToKey_R {rv : Nat} {Xt Xs : gRow} {msg sn : Nat → Int32} {c : Nat} (hrv : 2 ≤ rv ∧ rv ≤ 4) (h : rowR 432 Xt msg c) (hsn : ∀ k : Nat, k < 64 → sn k = gTf 1 k) (bk st dg wd hh : Nat → Int32) :
    rowR 32 (F_X1_sumToKey rv bk st Xt Xs).2.2 (F_X11_smallAgain rv (F_X11_small c msg dg wd hh sn).1 (F_X11_small c msg dg wd hh sn).2.1 (F_X11_small c msg dg wd hh sn).2.2.1 (F_X11_small c msg dg wd hh sn).2.2.2.1 (F_X11_small c msg dg wd hh sn).2.2.2.2 sn).2.2.1 (gks rv) := by
  have g := gks_le16 hrv.2
  have hc := h.2.1
  have h6 := small_R (d := Xs) (n3 := 32) h (by decide) (by decide) (by decide) (by omega) hsn bk st dg wd hh
  have h7 := cut_R h6 (by decide) g (F_X6_sum 432 32 bk st Xt Xs).2.2.2 rfl
  have key : (fun (_ : Nat) (z : (Nat → Int32) × (Nat → Int32) × gRow) (w : Nat × (Nat → Int32) × (Nat → Int32) × (Nat → Int32) × (Nat → Int32)) => rowR 32 z.2.2 w.2.2.1 (gks rv)) (50 * min 1 (rv - 2))
      (itr (B_X1_sumToKey_41 (nI (gks rv))) (50 * min 1 (rv - 2)) ((F_X6_sum 432 32 bk st Xt Xs).1, (F_X6_sum 432 32 bk st Xt Xs).2.1, ((F_X5_cut (F_X6_sum 432 32 bk st Xt Xs).2.2 (nI (gks rv))).1, (F_X6_sum 432 32 bk st Xt Xs).2.2.2)))
      (itr (B_X11_smallAgain_2 rv sn) (50 * min 1 (rv - 2)) ((F_X11_small c msg dg wd hh sn).1, (F_X11_small c msg dg wd hh sn).2.1, (F_X11_small c msg dg wd hh sn).2.2.1, (F_X11_small c msg dg wd hh sn).2.2.2.1, (F_X11_small c msg dg wd hh sn).2.2.2.2)) := by
    refine itr_rel (fun (_ : Nat) (z : (Nat → Int32) × (Nat → Int32) × gRow) (w : Nat × (Nat → Int32) × (Nat → Int32) × (Nat → Int32) × (Nat → Int32)) => rowR 32 z.2.2 w.2.2.1 (gks rv)) h7 ?_
    intro i z w hi hz
    have hs := hz.said w.2.1 (by decide)
    have h8 := small_R_same hs (by decide) (by decide) (by have := hs.2.1; omega) hsn z.1 z.2.1 w.2.2.1 w.2.2.2.1 w.2.2.2.2
    exact cut_R h8 (by decide) g _ rfl
  unfold F_X1_sumToKey F_X11_smallAgain
  rw [keyBytes_R]
  dsimp only [gLet]
  by_cases h50 : 50 ≤ 50 * min 1 (rv - 2)
  · rw [if_pos h50, if_pos h50]; exact key
  · rw [if_neg h50, if_neg h50]; exact key
theorem ownKey_R {rv n : Nat} {q Xtext Xs : gRow} {Y fill sn : Nat → Int32} {cn : Nat} (hrv : 2 ≤ rv ∧ rv ≤ 4) (h : rowR n q Y cn) (hn : n = 127) (hf : ∀ k : Nat, k < 32 → fill k = gTf 0 k) (hsn : ∀ k : Nat, k < 64 → sn k = gTf 1 k) (bk st msg dg wd hh pd own : Nat → Int32) :
    rowR 32 (F_X1_findOwnersKey rv bk st Xtext Xs q).2.2.2 (F_X11_makeOwnerKey rv msg dg wd hh sn (F_X11_pad fill pd Y cn) own).2.2.2.2.2 (gks rv) := by
  subst hn
  have h1 := pad_R (n2 := 432) (t := Xtext) h (by decide) (by decide) (by decide) hf pd
  have h2 := h1.said msg (by decide)
  have h3 := sumToKey_R (Xs := Xs) hrv h2 hsn bk st dg wd hh
  exact h3.congr (fun k hk => (itr_fill (b := B_X11_makeOwnerKey_26 _) (w := fun i => _) (fun _ _ => rfl) (gks rv) own k hk).symm)
