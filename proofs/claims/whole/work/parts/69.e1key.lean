/-! revisions 2 to 4: the key out of a word, the check, the turns -/
theorem same4_R {n : Nat} {r : gRow} {msg : Nat → Int32} {said : Nat} (h : rowR n r msg said) (hn : n < 2147483648) (hb : said + 4 ≤ n) :
    rowR n (F_X5_addSame n r 255 4) (F_X11_sayLow said msg (-1) 4).2 (F_X11_sayLow said msg (-1) 4).1 ∧ (F_X11_sayLow said msg (-1) 4).1 = said + 4 := by
  have hd : ∀ i : Fin 4, (255 : Int32) &&& 255 = ((-1 : Int32) >>> ((nI (8 * i.val)) &&& 31)) &&& 255 := by decide +kernel
  have key : rowR n (itr (B_X5_addSame_2 n 255) 4 r) (itr (B_X11_sayLow_2 (-1)) 4 (said, msg)).2 (itr (B_X11_sayLow_2 (-1)) 4 (said, msg)).1 ∧ (itr (B_X11_sayLow_2 (-1)) 4 (said, msg)).1 = said + 4 := by
    refine itr_rel (fun (i : Nat) (z : gRow) (v : Nat × (Nat → Int32)) => rowR n z v.2 v.1 ∧ v.1 = said + i) ⟨h, rfl⟩ ?_
    intro i z v hi hz
    obtain ⟨hz, hw⟩ := hz
    exact ⟨hz.say hn (by omega) (hd ⟨i, hi⟩), by show v.1 + 1 = _; omega⟩
  exact key
theorem gather_eq (rv : Nat) (perm plain : Int32) (Xident Xe0 Xtext Xpad : gRow) : F_X1_gatherForKey rv perm plain Xident Xe0 Xtext Xpad =
    if rv = 4 then if plain = 0 then F_X5_addAll 432 32 (F_X5_addNumber 432 (F_X5_addAll 432 48 (F_X5_copy 432 32 Xtext Xpad) Xe0) perm (nI 4)) Xident else F_X5_addSame 432 (F_X5_addAll 432 32 (F_X5_addNumber 432 (F_X5_addAll 432 48 (F_X5_copy 432 32 Xtext Xpad) Xe0) perm (nI 4)) Xident) 255 4
    else F_X5_addAll 432 32 (F_X5_addNumber 432 (F_X5_addAll 432 48 (F_X5_copy 432 32 Xtext Xpad) Xe0) perm (nI 4)) Xident := by
  unfold F_X1_gatherForKey
  simp only [gLet_p]
  rfl
theorem makeKey_R {rv : Nat} {perm plain : Int32} {Xident Xe0 Xtext Xpad Xs : gRow} {Id En Pd sn : Nat → Int32} {ids : Nat} (hrv : 2 ≤ rv ∧ rv ≤ 4) (hp : rowR 32 Xpad Pd 32) (he : rowR 48 Xe0 En 32) (hi : rowR 32 Xident Id ids) (hsn : ∀ k : Nat, k < 64 → sn k = gTf 1 k) (bk st Mk msg dg wd hh : Nat → Int32) :
    rowR 32 (F_X1_sumToKey rv bk st (F_X1_gatherForKey rv perm plain Xident Xe0 Xtext Xpad) Xs).2.2 (F_X11_makeKey rv Id ids plain perm En Mk msg dg wd hh sn Pd).1 (gks rv) := by
  have hic := hi.2.1
  obtain ⟨a1, b1⟩ := copySay (n := 432) (r := Xtext) (msg := msg) hp (by decide) (by decide) (by decide)
  obtain ⟨a2, b2⟩ := a1.sayAll he (by decide) (by decide) (by omega)
  obtain ⟨a3, b3⟩ := a2.sayLow (b := 4) (w := perm) (by decide) (by omega) (by decide)
  obtain ⟨a4, b4⟩ := a3.sayAll hi (by decide) (by decide) (by omega)
  rw [gather_eq]
  unfold F_X11_makeKey
  simp only [gLet_p]
  by_cases h4 : rv = 4
  · rw [if_pos h4, if_pos h4]
    by_cases h0 : plain = 0
    · rw [if_pos h0, if_pos h0]
      have h5 := sumToKey_R (Xs := Xs) hrv a4 hsn bk st dg wd hh
      exact h5.congr (fun k hk => (itr_fill (b := B_X11_makeKey_80_tt _) (w := fun i => _) (fun _ _ => rfl) (gks rv) Mk k hk).symm)
    · rw [if_neg h0, if_neg h0]
      obtain ⟨a5, b5⟩ := same4_R a4 (by decide) (by omega)
      have h5 := sumToKey_R (Xs := Xs) hrv a5 hsn bk st dg wd hh
      exact h5.congr (fun k hk => (itr_fill (b := B_X11_makeKey_80_tf _) (w := fun i => _) (fun _ _ => rfl) (gks rv) Mk k hk).symm)
  · rw [if_neg h4, if_neg h4]
    have h5 := sumToKey_R (Xs := Xs) hrv a4 hsn bk st dg wd hh
    exact h5.congr (fun k hk => (itr_fill (b := B_X11_makeKey_80_f _) (w := fun i => _) (fun _ _ => rfl) (gks rv) Mk k hk).symm)
theorem itr_off {fr : Nat} {w : Nat → Int32} {b : Nat → (Nat → Int32) → (Nat → Int32)} (hb : ∀ i z, b i z = upd z (fr + i) (w i)) (n : Nat) (s : Nat → Int32) : (∀ k : Nat, k < n → itr b n s (fr + k) = w k) ∧ ∀ t : Nat, (t < fr ∨ fr + n ≤ t) → itr b n s t = s t := by
  refine itr_inv (fun (n : Nat) (z : Nat → Int32) => (∀ k : Nat, k < n → z (fr + k) = w k) ∧ ∀ t : Nat, (t < fr ∨ fr + n ≤ t) → z t = s t) ⟨fun k hk => absurd hk (Nat.not_lt_zero k), fun t _ => rfl⟩ ?_
  intro i z _ hz
  obtain ⟨h1, h2⟩ := hz
  rw [hb]
  refine ⟨fun k hk => ?_, fun t ht => ?_⟩
  · by_cases hki : k = i
    · rw [hki, upd_s]
    · rw [upd_n _ (by omega), h1 k (by omega)]
  · rw [upd_n _ (by omega), h2 t (by omega)]
theorem itr_only0 {σ : Type} {b : Nat → σ → σ} (hb : ∀ i z, 0 < i → b i z = z) (n : Nat) (s : σ) : itr b (n + 1) s = b 0 s := by
  induction n with
  | zero => rw [itr_s, itr_0]
  | succ n ih => rw [itr_s, hb _ _ (by omega), ih]
theorem itd_only0 {σ : Type} {b : Nat → σ → σ} (hb : ∀ i z, 0 < i → b i z = z) (n : Nat) (s : σ) : itd b (n + 1) s = b 0 s := by
  induction n with
  | zero => rw [itd_s, itd_0]
  | succ n ih => rw [itd_s, hb _ _ (by omega), ih]
theorem itd_rel {σ τ : Type} (Rl : σ → τ → Prop) {b1 : Nat → σ → σ} {b2 : Nat → τ → τ} : ∀ (n : Nat) (s : σ) (t : τ), Rl s t → (∀ i z w, i < n → Rl z w → Rl (b1 i z) (b2 i w)) → Rl (itd b1 n s) (itd b2 n t)
  | 0, s, t, h0, _ => by rw [itd_0, itd_0]; exact h0
  | n + 1, s, t, h0, h => by
    rw [itd_s, itd_s]
    exact itd_rel Rl n _ _ (h n s t (by omega) h0) (fun i z w hi => h i z w (by omega))
/-- what the check shows -/
theorem check_R {rv n2 fr ids said : Nat} {Xident Xtext Xsum q : gRow} {Id Mk fill sn : Nat → Int32} (hrv : 2 ≤ rv ∧ rv ≤ 4) (hk : rowR 32 Xsum Mk (gks rv)) (hi : rowR 32 Xident Id ids) (hf : ∀ k : Nat, k < 32 → fill k = gTf 0 k) (hsn : ∀ k : Nat, k < 64 → sn k = gTf 1 k) (hn2 : n2 < 2147483648) (h32 : 32 ≤ n2) (bk st mx msg dg wd hh stream Yto : Nat → Int32) :
    rowR n2 (F_X1_shutSteps n2 rv mx Xsum (F_X1_beginCheck n2 rv Xident bk st Xtext q).2.2.2).2 (fun t => (F_X11_check rv Id ids Mk said msg dg wd hh fill sn stream Yto fr).2.2.2.2.2.2 (fr + t)) (if rv = 2 then 32 else 16) ∧
    (∀ t : Nat, (t < fr ∨ fr + 32 ≤ t) → (F_X11_check rv Id ids Mk said msg dg wd hh fill sn stream Yto fr).2.2.2.2.2.2 t = Yto t) ∧
    (¬ rv = 2 → ∀ t : Nat, 16 ≤ t → t < 32 → (F_X11_check rv Id ids Mk said msg dg wd hh fill sn stream Yto fr).2.2.2.2.2.2 (fr + t) = 0) := by
  have hic := hi.2.1
  have hfl : rowR n2 (F_X5_addFill n2 ((F_X5_clear q).1, q.2) (nI 32)) fill (0 + 32) := addFill_R (c := 0) (f := fill) (e := fill) (b := 32) rowR.clear hn2 (by omega) (by decide) (fun _ _ => rfl) (fun k hk => by rw [Nat.zero_add]; exact hf k hk)
  rw [Nat.zero_add] at hfl
  by_cases h2 : rv = 2
  · subst h2
    obtain ⟨z1, z2⟩ := itr_off (b := B_X11_check_10_t fr fill) (fr := fr) (w := fill) (fun _ _ => rfl) 32 Yto
    have hd : rowR n2 (F_X5_addFill n2 ((F_X5_clear q).1, q.2) (nI 32)) (fun t => itr (B_X11_check_10_t fr fill) 32 Yto (fr + t)) 32 := hfl.congr (fun k hk => (z1 k hk).symm)
    obtain ⟨s1, s2⟩ := stream_R (mx := mx) (st := stream) (size := 5) (wv := 0) hk (by decide) (by decide) isB_0 hd hn2
    have e1 : (F_X1_shutSteps n2 2 mx Xsum (F_X1_beginCheck n2 2 Xident bk st Xtext q).2.2.2).2 = (F_X7_turn 32 n2 mx Xsum (F_X5_addFill n2 ((F_X5_clear q).1, q.2) (nI 32)) 0).2 := by
      unfold F_X1_shutSteps F_X1_beginCheck
      simp only [gLet_p]
      rw [if_pos (by decide)]
      show (itr (B_X1_shutSteps_2 2 n2 Xsum) (0 + 1) (mx, _)).2 = _
      rw [itr_s, itr_0]
      rfl
    have e2 : (F_X11_check 2 Id ids Mk said msg dg wd hh fill sn stream Yto fr).2.2.2.2.2.2 = (F_X11_throughStream stream Mk (itr (B_X11_check_10_t fr fill) 32 Yto) 5 0 fr 32).2 := by
      unfold F_X11_check
      simp only [gLet_p]
      rw [if_pos trivial]
    rw [e1, e2, if_pos rfl]
    exact ⟨s1, fun t ht => (s2 t ht).trans (z2 t ht), fun h => absurd rfl h⟩
  · have g16 : gks rv = 16 := gks_16 rv hrv.2 h2
    rw [g16] at hk
    obtain ⟨a1, b1⟩ := copySay (n := 432) (r := Xtext) (msg := msg) hfl (by decide) hn2 (by decide)
    obtain ⟨a2, b2⟩ := a1.sayAll hi (by decide) (by decide) (by omega)
    have h6 := small_R (d := F_X5_addFill n2 ((F_X5_clear q).1, q.2) (nI 32)) (n3 := n2) a2 (by decide) hn2 (by omega) (by omega) hsn bk st dg wd hh
    generalize hu : F_X11_small (F_X11_sayRow (F_X11_sayRow 0 msg fill 0 32).1 (F_X11_sayRow 0 msg fill 0 32).2 Id 0 ids).1 (F_X11_sayRow (F_X11_sayRow 0 msg fill 0 32).1 (F_X11_sayRow 0 msg fill 0 32).2 Id 0 ids).2 dg wd hh sn = u at h6
    obtain ⟨z1, z2⟩ := itr_off (b := B_X11_check_83_f fr u) (fr := fr) (w := fun i => if 16 ≤ i then 0 else u.2.2.1 i) (fun i z => by
      unfold B_X11_check_83_f
      by_cases h : 16 ≤ i
      · rw [if_pos h, if_pos h]
      · rw [if_neg h, if_neg h]) 32 Yto
    have key : (fun (_ : Nat) (z : (Nat → Int32) × gRow) (w : (Nat → Int32) × (Nat → Int32)) => rowR n2 z.2 (fun t => w.2 (fr + t)) 16 ∧ ∀ t : Nat, (t < fr ∨ fr + 16 ≤ t) → w.2 t = itr (B_X11_check_83_f fr u) 32 Yto t) 20
        (itr (B_X1_shutSteps_2 rv n2 Xsum) 20 (mx, (F_X6_sum 432 n2 bk st (F_X5_addAll 432 32 (F_X5_copy 432 n2 Xtext (F_X5_addFill n2 ((F_X5_clear q).1, q.2) (nI 32))) Xident) (F_X5_addFill n2 ((F_X5_clear q).1, q.2) (nI 32))).2.2)) (itr (B_X11_check_118_f Mk fr) 20 (stream, itr (B_X11_check_83_f fr u) 32 Yto)) := by
      refine itr_rel (fun (_ : Nat) (z : (Nat → Int32) × gRow) (w : (Nat → Int32) × (Nat → Int32)) => rowR n2 z.2 (fun t => w.2 (fr + t)) 16 ∧ ∀ t : Nat, (t < fr ∨ fr + 16 ≤ t) → w.2 t = itr (B_X11_check_83_f fr u) 32 Yto t) ⟨h6.congr (fun k hk => by
        have := z1 k (by omega)
        rw [if_neg (by omega)] at this
        exact this.symm), fun t _ => rfl⟩ ?_
      intro i z w hi2 hz
      obtain ⟨hz1, hz2⟩ := hz
      obtain ⟨s1, s2⟩ := stream_R (mx := z.1) (st := w.1) (size := 16) (wv := nI i) hk (by decide) (by decide) (isB_of (by omega)) hz1 hn2
      exact ⟨s1, fun t ht => (s2 t ht).trans (hz2 t ht)⟩
    have e1 : (F_X1_shutSteps n2 rv mx Xsum (F_X1_beginCheck n2 rv Xident bk st Xtext q).2.2.2).2 = (itr (B_X1_shutSteps_2 rv n2 Xsum) 20 (mx, (F_X6_sum 432 n2 bk st (F_X5_addAll 432 32 (F_X5_copy 432 n2 Xtext (F_X5_addFill n2 ((F_X5_clear q).1, q.2) (nI 32))) Xident) (F_X5_addFill n2 ((F_X5_clear q).1, q.2) (nI 32))).2.2)).2 := by
      unfold F_X1_shutSteps F_X1_beginCheck
      simp only [gLet_p]
      rw [if_neg (by omega), show 19 * min 1 (rv - 2) + 1 = 20 by omega]
      rfl
    have e2 : (F_X11_check rv Id ids Mk said msg dg wd hh fill sn stream Yto fr).2.2.2.2.2.2 = (itr (B_X11_check_118_f Mk fr) 20 (stream, itr (B_X11_check_83_f fr u) 32 Yto)).2 := by
      unfold F_X11_check
      simp only [gLet_p]
      rw [if_neg h2, hu]
    rw [e1, e2, if_neg h2]
    refine ⟨key.1, fun t ht => (key.2 t (by omega)).trans (z2 t ht), fun _ t h1 h3 => ?_⟩
    rw [key.2 _ (by omega), z1 t h3, if_pos h1]
