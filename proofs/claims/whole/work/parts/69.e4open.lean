/-! revisions 2 to 4: entries opened -/
theorem opens_R {rv : Nat} {perm plain : Int32} {Xident Xsecret Xe0 Xe1 Xtext Xsum Xpad Xchk : gRow} {bk st mx : Nat → Int32} {Mid En Mk msg dg wd hh fill sn stream wk Pd : Nat → Int32} {Mids : Nat}
    (hrv : 2 ≤ rv ∧ rv ≤ 4) (hp : rowR 32 Xpad Pd 32) (he0 : rowR 48 Xe0 En 32) (he1 : rowR 48 Xe1 (fun k => En (48 + k)) 32) (hi : rowR 32 Xident Mid Mids) (hf : ∀ k : Nat, k < 32 → fill k = gTf 0 k) (hsn : ∀ k : Nat, k < 64 → sn k = gTf 1 k) (hbk : bA 32 Mk) :
    (F_X1_opensPadded rv perm plain Xident Xsecret Xe0 Xe1 bk st mx Xtext Xsum Xpad Xchk).1 = (F_X11_opensEarly rv Mid Mids plain perm En Mk msg dg wd hh fill sn stream wk Pd).1 ∧
    (((F_X11_opensEarly rv Mid Mids plain perm En Mk msg dg wd hh fill sn stream wk Pd).1 = 0 ∧ (F_X1_opensPadded rv perm plain Xident Xsecret Xe0 Xe1 bk st mx Xtext Xsum Xpad Xchk).2.1 = Xsecret) ∨
     ((F_X11_opensEarly rv Mid Mids plain perm En Mk msg dg wd hh fill sn stream wk Pd).1 = 1 ∧ rowR 32 (F_X1_opensPadded rv perm plain Xident Xsecret Xe0 Xe1 bk st mx Xtext Xsum Xpad Xchk).2.1 (F_X11_opensEarly rv Mid Mids plain perm En Mk msg dg wd hh fill sn stream wk Pd).2.1 (gks rv))) ∧
    bA 32 (F_X11_opensEarly rv Mid Mids plain perm En Mk msg dg wd hh fill sn stream wk Pd).2.1 := by
  have a37 := makeKey_R (Xtext := Xtext) (Xs := Xsum) (perm := perm) (plain := plain) hrv hp he0 hi hsn bk st Mk msg dg wd hh
  have bB : bA 32 (F_X11_makeKey rv Mid Mids plain perm En Mk msg dg wd hh sn Pd).1 := makeKey_bA hrv.2 hbk
  unfold F_X1_opensPadded F_X11_opensEarly
  simp only [gLet_p]
  generalize F_X1_gatherForKey rv perm plain Xident Xe0 Xtext Xpad = u35 at a37 ⊢
  generalize F_X1_sumToKey rv bk st u35 Xsum = u37 at a37 ⊢
  generalize F_X11_makeKey rv Mid Mids plain perm En Mk msg dg wd hh sn Pd = u197 at a37 bB ⊢
  obtain ⟨c1, c2, c3⟩ := check_R (fr := 0) (n2 := 32) (Xtext := u35) (q := Xchk) (said := u197.2.1) hrv a37 hi hf hsn (by decide) (by decide) u37.1 u37.2.1 mx u197.2.2.1 u197.2.2.2.1 u197.2.2.2.2.1 u197.2.2.2.2.2 stream wk
  generalize F_X1_beginCheck 32 rv Xident u37.1 u37.2.1 u35 Xchk = u39 at c1 ⊢
  generalize F_X1_shutSteps 32 rv mx u37.2.2 u39.2.2.2 = u41 at c1 ⊢
  generalize F_X11_check rv Mid Mids u197.1 u197.2.1 u197.2.2.1 u197.2.2.2.1 u197.2.2.2.2.1 u197.2.2.2.2.2 fill sn stream wk 0 = u199 at c1 c2 c3 ⊢
  have c1' : rowR 32 u41.2 u199.2.2.2.2.2.2 (if rv = 2 then 32 else 16) := c1.congr (fun k _ => by rw [Nat.zero_add])
  have en : 48 - 16 * min 2 (rv - 1) = (if rv = 2 then 32 else 16) := by split <;> omega
  have hb : ∀ i z, B_X11_opensEarly_17 rv u199 En i z = if z = 0 then 0 else if u199.2.2.2.2.2.2 i = (fun k => En (48 + k)) i then 1 else 0 := fun i z => by
    unfold B_X11_opensEarly_17
    by_cases h2 : rv = 2
    · rw [if_pos h2]
    · rw [if_neg h2]
  obtain ⟨s1, s2⟩ := starts_R c1' he1 (by decide) (by decide) (by split <;> omega) hb
  rw [en, show F_X5_count u41.2 = nI (if rv = 2 then 32 else 16) from c1'.1, s1]
  generalize itr (B_X11_opensEarly_17 rv u199 En) (if rv = 2 then 32 else 16) 1 = z at s2 ⊢
  have hcp : rowR 32 (F_X5_copy 32 32 Xsecret u37.2.2) u197.1 (gks rv) := rowR.copy a37 (by decide) (by decide) (by have := gks_le rv; omega)
  rcases s2 with rfl | rfl
  · by_cases h2 : rv = 2
    · rw [if_pos h2, if_pos rfl]
      exact ⟨rfl, Or.inl ⟨rfl, rfl⟩, bB⟩
    · rw [if_neg h2, if_pos rfl]
      exact ⟨rfl, Or.inl ⟨rfl, rfl⟩, bB⟩
  · by_cases h2 : rv = 2
    · rw [if_pos h2, if_neg (by decide)]
      exact ⟨rfl, Or.inr ⟨rfl, hcp⟩, bB⟩
    · rw [if_neg h2, if_neg (by decide)]
      exact ⟨rfl, Or.inr ⟨rfl, hcp⟩, bB⟩
theorem openEarly_R {rv : Nat} {perm plain : Int32} {Xtried Xident Xsecret Xe0 Xe1 Xtext Xsum Xpad Xchk : gRow} {bk st mx : Nat → Int32} {Mtried Mid En Mk msg dg wd hh fill sn stream wk pd own : Nat → Int32} {Mtries Mids : Nat}
    (hrv : 2 ≤ rv ∧ rv ≤ 4) (ht : rowR 127 Xtried Mtried Mtries) (he0 : rowR 48 Xe0 En 32) (he1 : rowR 48 Xe1 (fun k => En (48 + k)) 32) (hi : rowR 32 Xident Mid Mids) (hf : ∀ k : Nat, k < 32 → fill k = gTf 0 k) (hsn : ∀ k : Nat, k < 64 → sn k = gTf 1 k) (hbk : bA 32 Mk) :
    (F_X1_tryWord rv perm plain Xtried Xident Xsecret Xe0 Xe1 bk st mx Xtext Xsum Xpad Xchk).1 = (F_X11_openEarly rv Mtried Mtries Mid Mids plain perm En Mk msg dg wd hh fill sn stream wk pd own).1 ∧
    ((F_X11_openEarly rv Mtried Mtries Mid Mids plain perm En Mk msg dg wd hh fill sn stream wk pd own).1 = 0 ∨
     (((F_X11_openEarly rv Mtried Mtries Mid Mids plain perm En Mk msg dg wd hh fill sn stream wk pd own).1 = 1 ∨ (F_X11_openEarly rv Mtried Mtries Mid Mids plain perm En Mk msg dg wd hh fill sn stream wk pd own).1 = 2) ∧ rowR 32 (F_X1_tryWord rv perm plain Xtried Xident Xsecret Xe0 Xe1 bk st mx Xtext Xsum Xpad Xchk).2.1 (F_X11_openEarly rv Mtried Mtries Mid Mids plain perm En Mk msg dg wd hh fill sn stream wk pd own).2.1 (gks rv))) ∧
    bA 32 (F_X11_openEarly rv Mtried Mtries Mid Mids plain perm En Mk msg dg wd hh fill sn stream wk pd own).2.1 := by
  have a33 := pad_R (n2 := 32) (t := Xpad) ht (by decide) (by decide) (by decide) hf pd
  obtain ⟨o1, o2, o3⟩ := opens_R (perm := perm) (plain := plain) (Xsecret := Xsecret) (Xtext := Xtext) (Xsum := Xsum) (Xchk := Xchk) (bk := bk) (st := st) (mx := mx) (msg := msg) (dg := dg) (wd := wd) (hh := hh) (stream := stream) (wk := wk) hrv a33 he0 he1 hi hf hsn hbk
  unfold F_X1_tryWord F_X11_openEarly
  simp only [gLet_p]
  generalize F_X1_pad 127 32 Xtried Xpad = u33 at a33 o1 o2 ⊢
  generalize F_X11_pad fill pd Mtried Mtries = u205 at a33 o1 o2 o3 ⊢
  generalize F_X1_opensPadded rv perm plain Xident Xsecret Xe0 Xe1 bk st mx Xtext Xsum u33 Xchk = c at o1 o2 ⊢
  generalize F_X11_opensEarly rv Mid Mids plain perm En Mk msg dg wd hh fill sn stream wk u205 = w at o1 o2 o3 ⊢
  rw [o1]
  rcases o2 with ⟨h0, hs⟩ | ⟨h1, hs⟩
  · rw [if_pos h0, if_pos h0]
    have a38 := ownKey_R (rv := rv) (Xtext := c.2.2.2.2.2.1) (Xs := c.2.2.2.2.2.2.1) (fill := fill) (sn := sn) hrv ht rfl hf hsn c.2.2.1 c.2.2.2.1 w.2.2.2.1 w.2.2.2.2.1 w.2.2.2.2.2.1 w.2.2.2.2.2.2.1 u205 own
    have a42 : rowR 32 (F_X5_copy 32 48 u33 Xe0) (itr (B_X11_openEarly_39_t En) 32 (F_X11_pad fill u205 Mtried Mtries)) 32 := (rowR.copy he0 (by decide) (by decide) (by decide)).congr (fun k hk => (itr_fill (b := B_X11_openEarly_39_t En) (w := fun i => En i) (fun _ _ => rfl) 32 _ k hk).symm)
    generalize F_X1_findOwnersKey rv c.2.2.1 c.2.2.2.1 c.2.2.2.2.2.1 c.2.2.2.2.2.2.1 Xtried = u38 at a38 ⊢
    generalize F_X11_pad fill u205 Mtried Mtries = u210 at a38 a42 ⊢
    generalize F_X11_makeOwnerKey rv w.2.2.2.1 w.2.2.2.2.1 w.2.2.2.2.2.1 w.2.2.2.2.2.2.1 sn u210 own = u212 at a38 ⊢
    have a44 := turnsB_R (mx := c.2.2.2.2.1) (stream := w.2.2.2.2.2.2.2.1) hrv a38 a42 (by decide)
    generalize F_X1_openSteps 32 rv c.2.2.2.2.1 u38.2.2.2 (F_X5_copy 32 48 u33 Xe0) = u44 at a44 ⊢
    generalize itd (B_X11_openEarly_66_t u212 rv) 20 (w.2.2.2.2.2.2.2.1, itr (B_X11_openEarly_39_t En) 32 u210) = z302 at a44 ⊢
    obtain ⟨p1, p2, p3⟩ := opens_R (perm := perm) (plain := plain) (Xsecret := c.2.1) (Xtext := u38.2.2.1) (Xsum := u38.2.2.2) (Xchk := c.2.2.2.2.2.2.2) (bk := u38.1) (st := u38.2.1) (mx := u44.1) (msg := u212.2.1) (dg := u212.2.2.1) (wd := u212.2.2.2.1) (hh := u212.2.2.2.2.1) (stream := z302.1) (wk := w.2.2.2.2.2.2.2.2) hrv a44 he0 he1 hi hf hsn o3
    generalize F_X1_opensPadded rv perm plain Xident c.2.1 Xe0 Xe1 u38.1 u38.2.1 u44.1 u38.2.2.1 u38.2.2.2 u44.2 c.2.2.2.2.2.2.2 = c' at p1 p2 ⊢
    generalize F_X11_opensEarly rv Mid Mids plain perm En w.2.1 u212.2.1 u212.2.2.1 u212.2.2.2.1 u212.2.2.2.2.1 fill sn z302.1 w.2.2.2.2.2.2.2.2 z302.2 = w' at p1 p2 p3 ⊢
    rw [p1]
    rcases p2 with ⟨q0, qs⟩ | ⟨q1, qs⟩
    · rw [if_pos q0, if_pos q0]
      exact ⟨rfl, Or.inl rfl, p3⟩
    · rw [if_neg (by rw [q1]; decide), if_neg (by rw [q1]; decide)]
      exact ⟨rfl, Or.inr ⟨Or.inr rfl, qs⟩, p3⟩
  · rw [if_neg (by rw [h1]; decide), if_neg (by rw [h1]; decide)]
    exact ⟨rfl, Or.inr ⟨Or.inl rfl, hs⟩, o3⟩
