theorem shutBlocks_l_R {taken taped cn : Nat} {given cfor Mf : Int32} {Xtape Xsecret Xtext Xsum Xcol : gRow} {ky cl mv la : Nat → Int32} {rd : Int32} {tape Mkey bytes Mout msg dg wd hh sn bx rk sta ot work : Nat → Int32} {MoutSize said rds : Nat}
    (hg : given = nI taken ∧ taken ≤ taped ∧ taped ≤ 400) (ht : rowR 400 Xtape tape taped) (hs : rowR 32 Xsecret Mkey 32) (hcol : rowR 400 Xcol bytes cn) (hbx : ∀ k : Nat, k < 256 → bx k = gTf 5 k) (hbB : bA 256 bx) :
    (F_X10_shutBlocks_l given Xtape Xsecret rd ky cl mv la Xtext Xsum Xcol).1 = (F_X11_encipher_l tape taped taken Mkey Mf bytes cfor MoutSize Mout said msg dg wd hh sn bx rk rds sta ot work cn).1 ∧
    (((F_X10_shutBlocks_l given Xtape Xsecret rd ky cl mv la Xtext Xsum Xcol).1 = -2 ∧ (F_X10_shutBlocks_l given Xtape Xsecret rd ky cl mv la Xtext Xsum Xcol).2.1 = given ∧ (F_X11_encipher_l tape taped taken Mkey Mf bytes cfor MoutSize Mout said msg dg wd hh sn bx rk rds sta ot work cn).2.1 = taken ∧ (F_X11_encipher_l tape taped taken Mkey Mf bytes cfor MoutSize Mout said msg dg wd hh sn bx rk rds sta ot work cn).2.2.1 = MoutSize ∧ (F_X11_encipher_l tape taped taken Mkey Mf bytes cfor MoutSize Mout said msg dg wd hh sn bx rk rds sta ot work cn).2.2.2.1 = Mout) ∨
     (¬ (F_X10_shutBlocks_l given Xtape Xsecret rd ky cl mv la Xtext Xsum Xcol).1 < 0 ∧ (F_X10_shutBlocks_l given Xtape Xsecret rd ky cl mv la Xtext Xsum Xcol).2.1 = nI (F_X11_encipher_l tape taped taken Mkey Mf bytes cfor MoutSize Mout said msg dg wd hh sn bx rk rds sta ot work cn).2.1 ∧ (F_X11_encipher_l tape taped taken Mkey Mf bytes cfor MoutSize Mout said msg dg wd hh sn bx rk rds sta ot work cn).2.1 ≤ taped ∧ rowR 432 (F_X10_shutBlocks_l given Xtape Xsecret rd ky cl mv la Xtext Xsum Xcol).2.2.2.2.2.2.2.1 (F_X11_encipher_l tape taped taken Mkey Mf bytes cfor MoutSize Mout said msg dg wd hh sn bx rk rds sta ot work cn).2.2.2.1 (F_X11_encipher_l tape taped taken Mkey Mf bytes cfor MoutSize Mout said msg dg wd hh sn bx rk rds sta ot work cn).2.2.1)) := by
  have hc := hcol.2.1
  have el : F_X9_tapeLeft_l given Xtape = nI (taped - taken) := by
    unfold F_X9_tapeLeft_l F_X5_count
    dsimp only [gLet]
    rw [ht.1, hg.1, nI_sub hg.2.1]
  unfold F_X10_shutBlocks_l F_X11_encipher_l
  rw [gLet_p, el]
  by_cases h16 : 16 ≤ taped - taken
  · rw [if_pos h16, if_pos (show (16 : Int32) ≤ nI (taped - taken) from nI_le (a := 16) h16 (by omega))]
    have hk : rowR 32 (F_X5_copy 32 32 Xsum Xsecret) (F_X11_objectKey 5 Mkey Mf said msg dg wd hh sn cfor 0).2.2.2.1 32 := (rowR.copy hs (by decide) (by decide) (by decide)).congr (fun k hk => (objKey5 Mkey Mf said msg dg wd hh sn cfor 0 k hk).symm)
    unfold F_X3_findObjectKey
    simp only [gLet_p]
    generalize F_X5_copy 32 32 Xsum Xsecret = u46 at hk ⊢
    generalize (F_X11_objectKey 5 Mkey Mf said msg dg wd hh sn cfor 0).2 = u263 at hk ⊢
    obtain ⟨g1, g2⟩ := giveTape_R (n2 := 432) (b := 16) (c0 := 0) (q := ((F_X5_clear Xtext).1, Xtext.2)) (f := tape) (e := fun k => tape (taken + k)) hg.1 ht (by omega) rowR.clear (by decide) (by decide) (fun k hk => absurd hk (Nat.not_lt_zero k)) (fun k _ => by rw [Nat.zero_add])
    rw [Nat.zero_add] at g2
    rw [show nI 16 = (16 : Int32) from rfl] at g1 g2
    have hrow := encRow (work := work) (b19 := B_X11_encipher_l_19_t tape) (b54 := B_X11_encipher_l_54_t cn bytes) hcol g2 (fun _ _ => rfl) (fun _ _ => rfl)
    have hsp := keys32_R (ky := ky) (la := la) (rk := rk) hk (by decide) hbx hbB
    have hrkB : bA 240 (F_X11_setKey_32 bx rk u263.2.2.1).1 := L_setKey32_all (fun k h => hk.byt h) hbB
    have hch := shutChain_R (n := 14) (cl := cl) (mv := mv) (st := sta) (ot := ot) (by decide) hsp hrkB hbx hbB (by decide) hrow
    have eb : (cn / 16 * 16 + 16) / 16 = cn / 16 + 1 := by omega
    have es : 16 + (cn / 16 * 16 + 16) = 16 * (cn / 16 + 1) + 16 := by omega
    have hb := hch.become Mout
    have et := (tape_itr (fr := 0) (t := taken) (n := 16) (s := work) (b := B_X11_encipher_l_19_t tape) (tape := tape) (fun i z => by rw [Nat.zero_add]; rfl)).1
    rw [eb, es]
    refine ⟨hch.1, Or.inr ⟨?_, ?_, ?_, hb⟩⟩
    · have e9 := hch.1
      exact fun e => nI_pos (n := 16 * (cn / 16 + 1) + 16) (by omega) (by rw [← e9]; exact e)
    · exact g1.trans (congrArg nI et.symm)
    · show (itr (B_X11_encipher_l_19_t tape) 16 (taken, work)).1 ≤ taped
      omega
  · rw [if_neg h16, if_neg (show ¬ (16 : Int32) ≤ nI (taped - taken) from fun e => h16 ((nI_le_iff (a := 16) (by omega) (by omega)).mp e))]
    exact ⟨rfl, Or.inl ⟨rfl, rfl, rfl, rfl, rfl⟩⟩
theorem g_first_congr {p q : Nat → Bool} : ∀ {n : Nat}, (∀ k : Nat, k < n → p k = q k) → g_first p n = g_first q n
  | 0, _ => rfl
  | n + 1, h => by
    have ih := g_first_congr (p := p) (q := q) (n := n) (fun k hk => h k (by omega))
    unfold g_first
    rw [ih, h n (by omega)]
theorem last_itr {P : Nat → Prop} [DecidablePred P] {b : Nat → Int32 → Int32} {m : Nat} (hm : 1 ≤ m) (hb : ∀ i z, b i z = if P i then 1 else 0) :
    itr b (min m (g_first (fun k => decide (¬ P k)) m + 1)) 1 = if g_first (fun k => decide (¬ P k)) m = m then 1 else 0 := by
  have hle := g_first_le (fun k => decide (¬ P k)) m
  by_cases h : g_first (fun k => decide (¬ P k)) m = m
  · rw [if_pos h, h, Nat.min_eq_left (by omega)]
    have hno := g_first_no (fun k => decide (¬ P k)) m (m - 1) (by omega)
    simp only [decide_eq_false_iff_not, Classical.not_not] at hno
    rw [show m = (m - 1) + 1 by omega, itr_s, hb, if_pos hno]
  · rw [if_neg h, Nat.min_eq_right (by omega), itr_s, hb]
    have hy := g_first_yes (fun k => decide (¬ P k)) m (by omega)
    simp only [decide_eq_true_eq] at hy
    rw [if_neg hy]
theorem ends_R {n cn m : Nat} {r : gRow} {D : Nat → Int32} {b : Nat → Int32 → Int32} (h : rowR n r D cn) (hn : n < 2147483648) (hm : 1 ≤ m) (hm16 : m ≤ 16) (hc : 16 ≤ cn) (hf : D (cn - 1) = nI m) (hb : ∀ i z, b i z = if D (cn - 1 - i) = D (cn - 1) then 1 else 0) :
    F_X10_endsWithFill n r (nI m) = itr b (min m (g_first (fun k => decide (¬ D (cn - 1 - k) = D (cn - 1))) m + 1)) 1 ∧ (F_X10_endsWithFill n r (nI m) = 0 ∨ F_X10_endsWithFill n r (nI m) = 1) := by
  have hcn := h.2.1
  rw [last_itr (P := fun k => D (cn - 1 - k) = D (cn - 1)) hm hb]
  have e : g_first (fun k => decide (¬ F_X5_at n r (F_X5_count r - nI (1 + k)) = nI m)) m = g_first (fun k => decide (¬ D (cn - 1 - k) = D (cn - 1))) m := g_first_congr (fun k hk => by
    rw [show F_X5_count r = nI cn from h.1, nI_sub (by omega), h.at hn (by omega), hf, show cn - (1 + k) = cn - 1 - k by omega])
  have hle := g_first_le (fun k => decide (¬ D (cn - 1 - k) = D (cn - 1))) m
  unfold F_X10_endsWithFill
  rw [if_neg (show ¬ nI m < 1 from nI_nlt (b := 1) hm (by omega)), if_pos (show nI m ≤ 16 from nI_le (b := 16) hm16 (by decide)), nI_clamp (by omega), e]
  by_cases hg : g_first (fun k => decide (¬ D (cn - 1 - k) = D (cn - 1))) m = m
  · rw [if_pos hg, if_pos (by omega)]
    exact ⟨rfl, Or.inr rfl⟩
  · rw [if_neg hg, if_neg (by omega)]
    exact ⟨rfl, Or.inl rfl⟩
theorem ends_not {n : Nat} {r : gRow} {x : Int32} (h : x ≤ 0 ∨ 17 ≤ x) : F_X10_endsWithFill n r x = 0 := by
  unfold F_X10_endsWithFill
  by_cases h1 : x < 1
  · rw [if_pos h1]
  · rw [if_neg h1]
    have h2 : ¬ x ≤ 16 := by
      rw [Int32.lt_iff_toInt_lt] at h1
      rw [Int32.le_iff_toInt_le, Int32.le_iff_toInt_le] at h
      rw [Int32.le_iff_toInt_le]
      have : (1 : Int32).toInt = 1 := rfl
      have : (0 : Int32).toInt = 0 := rfl
      have : (16 : Int32).toInt = 16 := rfl
      have : (17 : Int32).toInt = 17 := rfl
      omega
    rw [if_neg h2]
theorem drop_R {n c : Nat} {r : gRow} {D : Nat → Int32} (h : rowR n r D c) (hn : n < 2147483648) (h16 : 16 ≤ c) : rowR n (F_X5_drop n r 16) (fun t => D (16 + t)) (c - 16) := by
  have hc := h.2.1
  have ev : (if (0 : Int32) < (r.1 - 16) then (r.1 - 16) else 0) = nI (c - 16) := by
    rw [h.1, show (16 : Int32) = nI 16 from rfl, nI_sub h16]
    by_cases h0 : 0 < c - 16
    · exact if_pos (nI_lt (a := 0) h0 (by omega))
    · rw [show c - 16 = 0 by omega]; rfl
  have key : (fun (i : Nat) (z : gRow) => rowR n z (fun t => if t < i then D (16 + t) else D t) c) (c - 16) (itr (B_X5_drop_13 n 16) (c - 16) r) := by
    refine itr_inv (fun (i : Nat) (z : gRow) => rowR n z (fun t => if t < i then D (16 + t) else D t) c) (h.congr (fun k _ => by rw [if_neg (by omega)])) ?_
    intro i z hi hz
    have ha : F_X5_at n z ((nI i) + 16) = D (16 + i) := by
      rw [show (16 : Int32) = nI 16 from rfl, nI_add, hz.at hn (by omega), if_neg (by omega), Nat.add_comm]
    have eb : B_X5_drop_13 n 16 i z = F_X5_put n z (nI i) (D (16 + i)) := by
      unfold B_X5_drop_13
      rw [gLet_p, gLet_p, ha]
    rw [eb]
    refine (hz.put hn (k := i) (by omega) (h.byt (by omega))).congr (fun k hk => ?_)
    by_cases hki : k = i
    · rw [hki, upd_s, if_pos (by omega)]
    · rw [upd_n _ hki]
      by_cases h2 : k < i
      · rw [if_pos h2, if_pos (by omega)]
      · rw [if_neg h2, if_neg (by omega)]
  unfold F_X5_drop
  simp only [gLet_p]
  rw [ev, nI_clamp (by omega)]
  exact (cut_R (m := c - 16) key hn (by omega) _ rfl).congr (fun k hk => by rw [if_pos hk])
