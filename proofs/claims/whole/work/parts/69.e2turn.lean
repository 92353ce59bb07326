/-! revisions 2 to 4: the turns of an entry, the comparison -/
theorem turnsF_R {rv n2 : Nat} {Xs row : gRow} {mx Z stream : Nat → Int32} {u : Nat × (Nat → Int32) × (Nat → Int32) × (Nat → Int32) × (Nat → Int32) × (Nat → Int32)} (hrv : 2 ≤ rv ∧ rv ≤ 4) (hk : rowR 32 Xs u.2.2.2.2.2 (gks rv)) (hd : rowR n2 row Z 32) (hn2 : n2 < 2147483648) :
    rowR n2 (F_X1_shutSteps n2 rv mx Xs row).2 (itr (B_X11_makeEarly_94_f u rv) 20 (Z, stream)).1 32 ∧ ∀ t : Nat, 32 ≤ t → (itr (B_X11_makeEarly_94_f u rv) 20 (Z, stream)).1 t = Z t := by
  have g5 := gks_ge5 rv
  have hd0 : rowR n2 row (fun t => Z (0 + t)) 32 := hd.congr (fun k _ => by rw [Nat.zero_add])
  by_cases h2 : rv = 2
  · subst h2
    have e0 : itr (B_X11_makeEarly_94_f u 2) 20 (Z, stream) = B_X11_makeEarly_94_f u 2 0 (Z, stream) := itr_only0 (fun i z hi => by
      unfold B_X11_makeEarly_94_f
      rw [if_neg (by omega), if_pos (by decide)]) 19 (Z, stream)
    have e1 : (F_X1_shutSteps n2 2 mx Xs row).2 = (F_X7_turn 32 n2 mx Xs row (nI 0)).2 := by
      unfold F_X1_shutSteps
      simp only [gLet_p]
      show (itr (B_X1_shutSteps_2 2 n2 Xs) (0 + 1) (mx, _)).2 = _
      rw [itr_s, itr_0]
      rfl
    obtain ⟨s1, s2⟩ := stream_R (mx := mx) (st := stream) (size := 5) (wv := nI 0) hk (by decide) (by decide) isB_0 hd0 hn2
    rw [e0, e1]
    refine ⟨s1.congr (fun k _ => ?_), fun t ht => s2 t (by omega)⟩
    show _ = (B_X11_makeEarly_94_f u 2 0 (Z, stream)).1 k
    unfold B_X11_makeEarly_94_f
    rw [if_pos rfl, Nat.zero_add]
    rfl
  · have key : (fun (_ : Nat) (z : (Nat → Int32) × gRow) (w : (Nat → Int32) × (Nat → Int32)) => rowR n2 z.2 (fun t => w.1 (0 + t)) 32 ∧ ∀ t : Nat, 32 ≤ t → w.1 t = Z t) 20
        (itr (B_X1_shutSteps_2 rv n2 Xs) 20 (mx, row)) (itr (B_X11_makeEarly_94_f u rv) 20 (Z, stream)) := by
      refine itr_rel (fun (_ : Nat) (z : (Nat → Int32) × gRow) (w : (Nat → Int32) × (Nat → Int32)) => rowR n2 z.2 (fun t => w.1 (0 + t)) 32 ∧ ∀ t : Nat, 32 ≤ t → w.1 t = Z t) ⟨hd0, fun t _ => rfl⟩ ?_
      intro i z w hi2 hz
      obtain ⟨hz1, hz2⟩ := hz
      obtain ⟨s1, s2⟩ := stream_R (mx := z.1) (st := w.2) (size := gks rv) (wv := nI i) hk (by decide) (by omega) (isB_of (by omega)) hz1 hn2
      have eb : B_X11_makeEarly_94_f u rv i w = ((F_X11_throughStream w.2 u.2.2.2.2.2 w.1 (gks rv) (nI i) 0 32).2, (F_X11_throughStream w.2 u.2.2.2.2.2 w.1 (gks rv) (nI i) 0 32).1) := by
        unfold B_X11_makeEarly_94_f
        simp only [gLet_p]
        by_cases h0 : i = 0
        · rw [if_pos h0]
        · rw [if_neg h0, if_neg (by omega)]
      rw [eb]
      exact ⟨s1, fun t ht => (s2 t (by omega)).trans (hz2 t ht)⟩
    have e1 : (F_X1_shutSteps n2 rv mx Xs row).2 = (itr (B_X1_shutSteps_2 rv n2 Xs) 20 (mx, row)).2 := by
      unfold F_X1_shutSteps
      simp only [gLet_p]
      rw [show 19 * min 1 (rv - 2) + 1 = 20 by omega]
    rw [e1]
    exact ⟨key.1.congr (fun k _ => by rw [Nat.zero_add]), key.2⟩
theorem turnsB_R {rv n2 : Nat} {Xs row : gRow} {mx Z stream : Nat → Int32} {u : Nat × (Nat → Int32) × (Nat → Int32) × (Nat → Int32) × (Nat → Int32) × (Nat → Int32)} (hrv : 2 ≤ rv ∧ rv ≤ 4) (hk : rowR 32 Xs u.2.2.2.2.2 (gks rv)) (hd : rowR n2 row Z 32) (hn2 : n2 < 2147483648) :
    rowR n2 (F_X1_openSteps n2 rv mx Xs row).2 (itd (B_X11_openEarly_66_t u rv) 20 (stream, Z)).2 32 := by
  have g5 := gks_ge5 rv
  have hd0 : rowR n2 row (fun t => Z (0 + t)) 32 := hd.congr (fun k _ => by rw [Nat.zero_add])
  by_cases h2 : rv = 2
  · subst h2
    have e0 : itd (B_X11_openEarly_66_t u 2) 20 (stream, Z) = B_X11_openEarly_66_t u 2 0 (stream, Z) := itd_only0 (fun i z hi => by
      unfold B_X11_openEarly_66_t
      rw [if_neg (by omega), if_pos (by decide)]) 19 (stream, Z)
    have e1 : (F_X1_openSteps n2 2 mx Xs row).2 = (F_X7_turn 32 n2 mx Xs row (nI 0)).2 := by
      unfold F_X1_openSteps
      simp only [gLet_p]
      show (itd (B_X1_openSteps_5 n2 Xs) (0 + 1) (mx, _)).2 = _
      rw [itd_s, itd_0]
      rfl
    obtain ⟨s1, s2⟩ := stream_R (mx := mx) (st := stream) (size := 5) (wv := nI 0) hk (by decide) (by decide) isB_0 hd0 hn2
    rw [e0, e1]
    refine s1.congr (fun k _ => ?_)
    show _ = (B_X11_openEarly_66_t u 2 0 (stream, Z)).2 k
    unfold B_X11_openEarly_66_t
    rw [if_pos rfl, Nat.zero_add]
    rfl
  · have key : (fun (z : (Nat → Int32) × gRow) (w : (Nat → Int32) × (Nat → Int32)) => rowR n2 z.2 (fun t => w.2 (0 + t)) 32)
        (itd (B_X1_openSteps_5 n2 Xs) 20 (mx, row)) (itd (B_X11_openEarly_66_t u rv) 20 (stream, Z)) := by
      refine itd_rel (fun (z : (Nat → Int32) × gRow) (w : (Nat → Int32) × (Nat → Int32)) => rowR n2 z.2 (fun t => w.2 (0 + t)) 32) 20 _ _ hd0 ?_
      intro i z w hi2 hz1
      obtain ⟨s1, s2⟩ := stream_R (mx := z.1) (st := w.1) (size := gks rv) (wv := nI i) hk (by decide) (by omega) (isB_of (by omega)) hz1 hn2
      have eb : B_X11_openEarly_66_t u rv i w = ((F_X11_throughStream w.1 u.2.2.2.2.2 w.2 (gks rv) (nI i) 0 32).1, (F_X11_throughStream w.1 u.2.2.2.2.2 w.2 (gks rv) (nI i) 0 32).2) := by
        unfold B_X11_openEarly_66_t
        simp only [gLet_p]
        by_cases h0 : i = 0
        · rw [if_pos h0]
        · rw [if_neg h0, if_neg (by omega)]
      rw [eb]
      exact s1
    have e1 : (F_X1_openSteps n2 rv mx Xs row).2 = (itd (B_X1_openSteps_5 n2 Xs) 20 (mx, row)).2 := by
      unfold F_X1_openSteps
      simp only [gLet_p]
      rw [show 19 * min 1 (rv - 2) + 1 = 20 by omega]
    rw [e1]
    exact key.congr (fun k _ => by rw [Nat.zero_add])
theorem g_first_all {p : Nat → Bool} : ∀ {n : Nat}, (∀ k : Nat, k < n → p k = false) → g_first p n = n
  | 0, _ => rfl
  | n + 1, h => by
    have ih := g_first_all (p := p) (n := n) (fun k hk => h k (by omega))
    unfold g_first
    rw [ih, if_neg (Nat.lt_irrefl n), h n (by omega)]
    rfl
theorem starts_1 {n n2 c c2 : Nat} {r q : gRow} {f g : Nat → Int32} (hr : rowR n r f c) (hq : rowR n2 q g c2) (hn : n < 2147483648) (hn2 : n2 < 2147483648) (hc : c ≤ c2) (he : ∀ k : Nat, k < c → f k = g k) : F_X5_startsLike n n2 r q (nI c) = 1 := by
  have h1 := hr.2.1
  unfold F_X5_startsLike
  rw [nI_clamp (by omega), g_first_all (fun k hk => by
    rw [hr.at hn hk, hq.at hn2 (by omega), he k hk]
    simp), if_pos (Nat.le_refl c)]
theorem starts_0 {n n2 c c2 k : Nat} {r q : gRow} {f g : Nat → Int32} (hr : rowR n r f c) (hq : rowR n2 q g c2) (hn : n < 2147483648) (hn2 : n2 < 2147483648) (hc : c ≤ c2) (hk : k < c) (he : ¬ f k = g k) : F_X5_startsLike n n2 r q (nI c) = 0 := by
  have h1 := hr.2.1
  unfold F_X5_startsLike
  rw [nI_clamp (by omega)]
  have hl : ¬ c ≤ g_first (fun k => decide (¬ F_X5_at n r (nI k) = F_X5_at n2 q (nI k))) c := fun e => by
    have h3 := g_first_no (fun k => decide (¬ F_X5_at n r (nI k) = F_X5_at n2 q (nI k))) c k (by omega)
    simp only [decide_eq_false_iff_not, Classical.not_not] at h3
    rw [hr.at hn hk, hq.at hn2 (by omega)] at h3
    exact he h3
  rw [if_neg hl]
  rfl
theorem same_itr {b : Nat → Int32 → Int32} {f g : Nat → Int32} (hb : ∀ i z, b i z = if z = 0 then 0 else if f i = g i then 1 else 0) (n : Nat) :
    ((∀ k : Nat, k < n → f k = g k) → itr b n 1 = 1) ∧ ((∃ k : Nat, k < n ∧ ¬ f k = g k) → itr b n 1 = 0) := by
  induction n with
  | zero => exact ⟨fun _ => itr_0 _ _, fun ⟨k, hk, _⟩ => absurd hk (Nat.not_lt_zero k)⟩
  | succ n ih =>
    rw [itr_s, hb]
    refine ⟨fun h => ?_, fun ⟨k, hk, he⟩ => ?_⟩
    · rw [ih.1 (fun k hk => h k (by omega)), if_neg (by decide), if_pos (h n (by omega))]
    · by_cases hkn : ∃ k : Nat, k < n ∧ ¬ f k = g k
      · rw [ih.2 hkn, if_pos rfl]
      · have hall : ∀ k : Nat, k < n → f k = g k := fun k hk => Classical.byContradiction (fun q => hkn ⟨k, hk, q⟩)
        have hke : k = n := Classical.byContradiction (fun q => he (hall k (by omega)))
        subst hke
        rw [ih.1 hall, if_neg (by decide), if_neg he]
theorem starts_R {n n2 c c2 : Nat} {r q : gRow} {f g : Nat → Int32} {b : Nat → Int32 → Int32} (hr : rowR n r f c) (hq : rowR n2 q g c2) (hn : n < 2147483648) (hn2 : n2 < 2147483648) (hc : c ≤ c2) (hb : ∀ i z, b i z = if z = 0 then 0 else if f i = g i then 1 else 0) :
    F_X5_startsLike n n2 r q (nI c) = itr b c 1 ∧ (itr b c 1 = 0 ∨ itr b c 1 = 1) := by
  by_cases h : ∃ k : Nat, k < c ∧ ¬ f k = g k
  · obtain ⟨k, hk, he⟩ := h
    have := (same_itr hb c).2 ⟨k, hk, he⟩
    rw [this]
    exact ⟨starts_0 hr hq hn hn2 hc hk he, Or.inl rfl⟩
  · have hall : ∀ k : Nat, k < c → f k = g k := fun k hk => Classical.byContradiction (fun q => h ⟨k, hk, q⟩)
    rw [(same_itr hb c).1 hall]
    exact ⟨starts_1 hr hq hn hn2 hc hall, Or.inr rfl⟩
