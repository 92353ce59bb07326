/-! messages, sums, cuts: the class's rows against the reference's arrays -/
theorem rowR.uniq {n : Nat} {r : gRow} {f g : Nat → Int32} {c : Nat} (h1 : rowR n r f c) (h2 : rowR n r g c) {k : Nat} (hk : k < c) : f k = g k := (h1.val hk).symm.trans (h2.val hk)
theorem copySay {n n2 : Nat} {r q : gRow} {msg g : Nat → Int32} {c : Nat} (hq : rowR n2 q g c) (hn : n < 2147483648) (hn2 : n2 < 2147483648) (hc : c ≤ n) :
    rowR n (F_X5_copy n n2 r q) (F_X11_sayRow 0 msg g 0 c).2 (F_X11_sayRow 0 msg g 0 c).1 ∧ (F_X11_sayRow 0 msg g 0 c).1 = c := by
  have h := (rowR.clear (n := n) (r := r) (f := msg) (g := r.2)).sayAll hq hn hn2 (by omega)
  exact ⟨h.1, h.2.trans (Nat.zero_add c)⟩
theorem say0_eq {n2 : Nat} {q : gRow} {msg g : Nat → Int32} {c : Nat} (hq : rowR n2 q g c) (hn2 : n2 < 2147483648) : (F_X11_sayRow 0 msg g 0 c).1 = c ∧ ∀ k : Nat, k < c → (F_X11_sayRow 0 msg g 0 c).2 k = g k := by
  have h1 := copySay (n := n2) (r := q) (msg := msg) hq hn2 hn2 hq.2.1
  have h2 := rowR.copy (n := n2) (r := q) hq hn2 hn2 hq.2.1
  refine ⟨h1.2, fun k hk => ?_⟩
  have h3 := h1.1
  rw [h1.2] at h3
  exact h3.uniq h2 hk
theorem become_at (Mo Y : Nat → Int32) (fr c : Nat) : (F_X11_become Mo Y fr c).2.1 = c ∧ ∀ k : Nat, k < c → (F_X11_become Mo Y fr c).2.2 k = Y (fr + k) :=
  ⟨rfl, fun k hk => itr_fill (b := B_X11_become_3 Y fr) (w := fun i => Y (fr + i)) (fun _ _ => rfl) c Mo k hk⟩
theorem rowR.become {n : Nat} {r : gRow} {f : Nat → Int32} {c : Nat} (h : rowR n r f c) (Mo : Nat → Int32) : rowR n r (F_X11_become Mo f 0 c).2.2 (F_X11_become Mo f 0 c).2.1 :=
  h.congr (fun k hk => by rw [(become_at Mo f 0 c).2 k hk, Nat.zero_add])
theorem cut_R {n : Nat} {r : gRow} {f : Nat → Int32} {c m : Nat} (h : rowR n r f c) (hn : n < 2147483648) (hm : m ≤ c) (g : Nat → Int32) (hg : r.2 = g) : rowR n ((F_X5_cut r (nI m)).1, g) f m := by
  have hc := h.2.1
  subst hg
  have e : (F_X5_cut r (nI m)).1 = nI m := by
    unfold F_X5_cut
    dsimp only [gLet]
    rw [h.1]
    by_cases h1 : m < c
    · rw [if_pos (nI_lt h1 (by omega))]
      by_cases h0 : 0 < m
      · exact if_pos (nI_lt (a := 0) h0 (by omega))
      · have : m = 0 := by omega
        subst this
        rfl
    · rw [if_neg (nI_nlt (by omega) (by omega))]
      have : m = c := by omega
      subst this
      by_cases h0 : 0 < m
      · exact if_pos (nI_lt (a := 0) h0 (by omega))
      · have : m = 0 := by omega
        subst this
        rfl
  exact ⟨e, by omega, fun k hk => h.2.2 k (by omega)⟩
/-- the four bytes behind a key for blocks -/
theorem salt_R {n : Nat} {r : gRow} {msg : Nat → Int32} {said : Nat} (h : rowR n r msg said) (hn : n < 2147483648) (hb : said + 4 ≤ n) :
    rowR n (F_X5_add n (F_X5_add n (F_X5_add n (F_X5_add n r 115) 65) 108) 84) (F_X11_sayLow said msg 1416380787 4).2 (F_X11_sayLow said msg 1416380787 4).1 ∧ (F_X11_sayLow said msg 1416380787 4).1 = said + 4 := by
  have e : F_X11_sayLow said msg 1416380787 4 = F_X11_say (F_X11_say (F_X11_say (F_X11_say said msg (1416380787 >>> ((nI (8 * 0)) &&& 31))).1 (F_X11_say said msg (1416380787 >>> ((nI (8 * 0)) &&& 31))).2 (1416380787 >>> ((nI (8 * 1)) &&& 31))).1 (F_X11_say (F_X11_say said msg (1416380787 >>> ((nI (8 * 0)) &&& 31))).1 (F_X11_say said msg (1416380787 >>> ((nI (8 * 0)) &&& 31))).2 (1416380787 >>> ((nI (8 * 1)) &&& 31))).2 (1416380787 >>> ((nI (8 * 2)) &&& 31))).1 (F_X11_say (F_X11_say (F_X11_say said msg (1416380787 >>> ((nI (8 * 0)) &&& 31))).1 (F_X11_say said msg (1416380787 >>> ((nI (8 * 0)) &&& 31))).2 (1416380787 >>> ((nI (8 * 1)) &&& 31))).1 (F_X11_say (F_X11_say said msg (1416380787 >>> ((nI (8 * 0)) &&& 31))).1 (F_X11_say said msg (1416380787 >>> ((nI (8 * 0)) &&& 31))).2 (1416380787 >>> ((nI (8 * 1)) &&& 31))).2 (1416380787 >>> ((nI (8 * 2)) &&& 31))).2 (1416380787 >>> ((nI (8 * 3)) &&& 31)) := by
    unfold F_X11_sayLow
    dsimp only [gLet]
    rw [itr_s, itr_s, itr_s, itr_s, itr_0]
    rfl
  rw [e]
  have h1 := h.say hn (by omega) (b := 115) (v := 1416380787 >>> ((nI (8 * 0)) &&& 31)) (by decide)
  have h2 := h1.say hn (by show said + 1 < n; omega) (b := 65) (v := 1416380787 >>> ((nI (8 * 1)) &&& 31)) (by decide)
  have h3 := h2.say hn (by show said + 1 + 1 < n; omega) (b := 108) (v := 1416380787 >>> ((nI (8 * 2)) &&& 31)) (by decide)
  have h4 := h3.say hn (by show said + 1 + 1 + 1 < n; omega) (b := 84) (v := 1416380787 >>> ((nI (8 * 3)) &&& 31)) (by decide)
  exact ⟨h4, rfl⟩
theorem gks_ge5 (rv : Nat) : 5 ≤ gks rv := (gks_le rv).1
theorem isOpen_R {rv : Nat} {r : gRow} {Mk : Nat → Int32} {o : Int32} (h : (o = 0 ∧ r.1 = 0) ∨ (o = 1 ∧ rowR 32 r Mk (gks rv))) : (if F_X5_count r ≤ 0 then (0 : Int32) else 1) = o := by
  unfold F_X5_count
  rcases h with ⟨h1, h2⟩ | ⟨h1, h2⟩
  · rw [h2, h1]; rfl
  · have g := gks_le rv
    rw [h2.1, h1, if_neg (nI_nle (by omega) (by omega))]
theorem gok_min (rv : Nat) (h : 2 ≤ rv ∧ rv ≤ 4) : (if (16 : Int32) < nI (gks rv) + 5 then (16 : Int32) else nI (gks rv) + 5) = nI (gok rv) := by
  rcases (show rv = 2 ∨ rv = 3 ∨ rv = 4 by omega) with h | h | h <;> subst h <;> decide +kernel
theorem okKey {rv : Nat} (h : ¬ rv = 5) (Mkey : Nat → Int32) (Mf : Int32) (said : Nat) (msg dg wd hh sn : Nat → Int32) (nu ge : Int32) :
    (F_X11_objectKey rv Mkey Mf said msg dg wd hh sn nu ge).2.2.2.1 = if Mf = 2 then (F_X11_small (F_X11_sayLow (F_X11_sayLow (F_X11_sayLow (F_X11_sayRow 0 msg Mkey 0 (gks rv)).1 (F_X11_sayRow 0 msg Mkey 0 (gks rv)).2 nu 3).1 (F_X11_sayLow (F_X11_sayRow 0 msg Mkey 0 (gks rv)).1 (F_X11_sayRow 0 msg Mkey 0 (gks rv)).2 nu 3).2 ge 2).1 (F_X11_sayLow (F_X11_sayLow (F_X11_sayRow 0 msg Mkey 0 (gks rv)).1 (F_X11_sayRow 0 msg Mkey 0 (gks rv)).2 nu 3).1 (F_X11_sayLow (F_X11_sayRow 0 msg Mkey 0 (gks rv)).1 (F_X11_sayRow 0 msg Mkey 0 (gks rv)).2 nu 3).2 ge 2).2 1416380787 4).1 (F_X11_sayLow (F_X11_sayLow (F_X11_sayLow (F_X11_sayRow 0 msg Mkey 0 (gks rv)).1 (F_X11_sayRow 0 msg Mkey 0 (gks rv)).2 nu 3).1 (F_X11_sayLow (F_X11_sayRow 0 msg Mkey 0 (gks rv)).1 (F_X11_sayRow 0 msg Mkey 0 (gks rv)).2 nu 3).2 ge 2).1 (F_X11_sayLow (F_X11_sayLow (F_X11_sayRow 0 msg Mkey 0 (gks rv)).1 (F_X11_sayRow 0 msg Mkey 0 (gks rv)).2 nu 3).1 (F_X11_sayLow (F_X11_sayRow 0 msg Mkey 0 (gks rv)).1 (F_X11_sayRow 0 msg Mkey 0 (gks rv)).2 nu 3).2 ge 2).2 1416380787 4).2 dg wd hh sn).2.2.1
      else (F_X11_small (F_X11_sayLow (F_X11_sayLow (F_X11_sayRow 0 msg Mkey 0 (gks rv)).1 (F_X11_sayRow 0 msg Mkey 0 (gks rv)).2 nu 3).1 (F_X11_sayLow (F_X11_sayRow 0 msg Mkey 0 (gks rv)).1 (F_X11_sayRow 0 msg Mkey 0 (gks rv)).2 nu 3).2 ge 2).1 (F_X11_sayLow (F_X11_sayLow (F_X11_sayRow 0 msg Mkey 0 (gks rv)).1 (F_X11_sayRow 0 msg Mkey 0 (gks rv)).2 nu 3).1 (F_X11_sayLow (F_X11_sayRow 0 msg Mkey 0 (gks rv)).1 (F_X11_sayRow 0 msg Mkey 0 (gks rv)).2 nu 3).2 ge 2).2 dg wd hh sn).2.2.1 := by
  unfold F_X11_objectKey
  rw [if_neg h]
  dsimp only [gLet]
  by_cases hf : Mf = 2
  · rw [if_pos hf, if_pos hf]
    by_cases h16 : 16 ≤ gks rv + 5
    · rw [if_pos h16]
    · rw [if_neg h16]
  · rw [if_neg hf, if_neg hf]
    by_cases h16 : 16 ≤ gks rv + 5
    · rw [if_pos h16]
    · rw [if_neg h16]
theorem objKey_R {rv n2 : Nat} {Xsecret Xtext q : gRow} {Mkey sn : Nat → Int32} {Mf fb : Int32} (hrv : 2 ≤ rv ∧ rv ≤ 4) (hs : rowR 32 Xsecret Mkey (gks rv)) (hn2 : n2 < 2147483648) (h16 : 16 ≤ n2) (hsn : ∀ k : Nat, k < 64 → sn k = gTf 1 k) (hfb : Mf = 2 ↔ ¬ fb = 0) (bk st : Nat → Int32) (said : Nat) (msg dg wd hh : Nat → Int32) (nu ge : Int32) :
    rowR n2 (F_X1_findObjectKey n2 Xsecret bk st Xtext q nu ge fb).2.2.2 (F_X11_objectKey rv Mkey Mf said msg dg wd hh sn nu ge).2.2.2.1 (gok rv) := by
  have g := gks_le16 hrv.2
  have g5 := gks_ge5 rv
  have gk : gok rv ≤ 16 := by unfold gok; split <;> omega
  rw [okKey (by omega)]
  obtain ⟨a1, b1⟩ := copySay (n := 432) (r := Xtext) (msg := msg) hs (by decide) (by decide) (by omega)
  obtain ⟨a2, b2⟩ := a1.sayLow (b := 3) (w := nu) (by decide) (by omega) (by decide)
  obtain ⟨a3, b3⟩ := a2.sayLow (b := 2) (w := ge) (by decide) (by omega) (by decide)
  unfold F_X1_findObjectKey
  dsimp only [gLet]
  have ec : F_X5_count Xsecret = nI (gks rv) := hs.1
  rw [ec, gok_min rv hrv]
  by_cases hf : Mf = 2
  · rw [if_pos hf, if_neg (hfb.mp hf)]
    obtain ⟨a4, b4⟩ := salt_R a3 (by decide) (by omega)
    have h6 := small_R (d := q) (n3 := n2) a4 (by decide) hn2 h16 (by have := a4.2.1; omega) hsn bk st dg wd hh
    exact cut_R h6 hn2 gk _ rfl
  · rw [if_neg hf, if_pos (Classical.not_not.mp (fun e => hf (hfb.mpr e)))]
    have h6 := small_R (d := q) (n3 := n2) a3 (by decide) hn2 h16 (by have := a3.2.1; omega) hsn bk st dg wd hh
    exact cut_R h6 hn2 gk _ rfl
theorem objKey5 (Mkey : Nat → Int32) (Mf : Int32) (said : Nat) (msg dg wd hh sn : Nat → Int32) (nu ge : Int32) (k : Nat) (hk : k < 32) : (F_X11_objectKey 5 Mkey Mf said msg dg wd hh sn nu ge).2.2.2.1 k = Mkey k :=
  itr_fill (b := B_X11_objectKey_10_t Mkey) (w := fun i => Mkey i) (fun _ _ => rfl) 32 dg k hk
