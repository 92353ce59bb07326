/-! the end of a run of bytes: tape, padding, blocks -/
theorem and15 {c : Nat} (h : c < 2147483648) : nI c &&& 15 = nI (c % 16) := by
  apply Int32.toBitVec_inj.mp
  apply BitVec.eq_of_toNat_eq
  rw [Int32.toBitVec_and, BitVec.toNat_and, pk_tn (by omega), show (15 : Int32).toBitVec.toNat = 2 ^ 4 - 1 by decide, pk_tn (by omega), Nat.and_two_pow_sub_one_eq_mod]
theorem tape_itr {fr t n : Nat} {tape s : Nat → Int32} {b : Nat → Nat × (Nat → Int32) → Nat × (Nat → Int32)} (hb : ∀ i z, b i z = (z.1 + 1, upd z.2 (fr + i) (tape z.1))) :
    (itr b n (t, s)).1 = t + n ∧ (∀ k : Nat, k < n → (itr b n (t, s)).2 (fr + k) = tape (t + k)) ∧ ∀ x : Nat, (x < fr ∨ fr + n ≤ x) → (itr b n (t, s)).2 x = s x := by
  refine itr_inv (fun (n : Nat) (z : Nat × (Nat → Int32)) => z.1 = t + n ∧ (∀ k : Nat, k < n → z.2 (fr + k) = tape (t + k)) ∧ ∀ x : Nat, (x < fr ∨ fr + n ≤ x) → z.2 x = s x) ⟨rfl, fun k hk => absurd hk (Nat.not_lt_zero k), fun x _ => rfl⟩ ?_
  intro i z _ hz
  obtain ⟨h1, h2, h3⟩ := hz
  rw [hb]
  refine ⟨by show z.1 + 1 = _; omega, fun k hk => ?_, fun x hx => ?_⟩
  · show upd z.2 (fr + i) (tape z.1) (fr + k) = _
    by_cases hki : k = i
    · rw [hki, upd_s, h1]
    · rw [upd_n _ (by omega), h2 k (by omega)]
  · show upd z.2 (fr + i) (tape z.1) x = _
    rw [upd_n _ (by omega), h3 x (by omega)]
theorem giveTape_R {n2 taken taped b c0 : Nat} {given : Int32} {Xt q : gRow} {tape f e : Nat → Int32} (hg : given = nI taken) (ht : rowR 400 Xt tape taped) (hb : taken + b ≤ taped) (hq : rowR n2 q f c0) (hn2 : n2 < 2147483648) (hc : c0 + b ≤ n2) (e1 : ∀ k : Nat, k < c0 → e k = f k) (e2 : ∀ k : Nat, k < b → e (c0 + k) = tape (taken + k)) :
    (F_X9_giveTape_e n2 given Xt q (nI b)).1 = nI (taken + b) ∧ rowR n2 (F_X9_giveTape_e n2 given Xt q (nI b)).2 e (c0 + b) := by
  have h4 := ht.2.1
  subst hg
  have el : F_X9_tapeLeft_e (nI taken) Xt = nI (taped - taken) := by
    unfold F_X9_tapeLeft_e F_X5_count
    dsimp only [gLet]
    rw [ht.1, nI_sub (by omega)]
  unfold F_X9_giveTape_e
  rw [el, gLet_p, if_neg (nI_nlt (by omega) (by omega)), gLet_p, gLet_p]
  exact ⟨nI_add _ _, hq.part ht hn2 (by decide) hb hc e1 e2⟩
theorem encRow {cn taken : Nat} {Xcol u51 : gRow} {tape bytes work : Nat → Int32} {b19 : Nat → Nat × (Nat → Int32) → Nat × (Nat → Int32)} {b54 : Nat → (Nat → Int32) → (Nat → Int32)} (hcol : rowR 400 Xcol bytes cn) (hu : rowR 432 u51 (fun k => tape (taken + k)) 16)
    (h19 : ∀ i z, b19 i z = (z.1 + 1, upd z.2 i (tape z.1))) (h54 : ∀ i z, b54 i z = if cn ≤ i then upd z (16 + i) (nI (((cn / 16) * 16 + 16) - cn)) else upd z (16 + i) (bytes i)) :
    rowR 432 (F_X5_addSame 432 (F_X5_addAll 432 400 u51 Xcol) (16 - (F_X5_count Xcol &&& 15)) (16 - (F_X5_count Xcol &&& 15))) (itr b54 (cn / 16 * 16 + 16) (itr b19 16 (taken, work)).2) (16 * (cn / 16 + 1) + 16) := by
  have hc := hcol.2.1
  obtain ⟨t1, t2, t3⟩ := tape_itr (fr := 0) (t := taken) (n := 16) (s := work) (b := b19) (tape := tape) (fun i z => by rw [h19, Nat.zero_add])
  obtain ⟨w1, w2⟩ := itr_off (b := b54) (fr := 16) (w := fun i => if cn ≤ i then nI (((cn / 16) * 16 + 16) - cn) else bytes i) (fun i z => by
    rw [h54]
    by_cases h : cn ≤ i
    · rw [if_pos h, if_pos h]
    · rw [if_neg h, if_neg h]) (cn / 16 * 16 + 16) (itr b19 16 (taken, work)).2
  generalize itr b54 (cn / 16 * 16 + 16) (itr b19 16 (taken, work)).2 = W at w1 w2 ⊢
  have ec : (16 : Int32) - (F_X5_count Xcol &&& 15) = nI (16 - cn % 16) := by
    rw [show F_X5_count Xcol = nI cn from hcol.1, and15 (by omega)]
    exact nI_sub (a := 16) (by omega)
  rw [ec]
  have h1 : rowR 432 (F_X5_addPart 432 400 u51 Xcol (nI 0) (nI cn)) W (16 + cn) := hu.part hcol (by decide) (by decide) (by omega) (by omega) (fun k hk => by
    rw [w2 k (by omega)]
    have := t2 k hk
    rw [Nat.zero_add] at this
    exact this) (fun k hk => by
    rw [w1 k (by omega), if_neg (by omega), Nat.zero_add])
  have h2 : rowR 432 (F_X5_addAll 432 400 u51 Xcol) W (16 + cn) := by
    have e : F_X5_addAll 432 400 u51 Xcol = F_X5_addPart 432 400 u51 Xcol (nI 0) (nI cn) := by
      unfold F_X5_addAll
      rw [gLet_p, gLet_p, show F_X5_count Xcol = nI cn from hcol.1]
      rfl
    rw [e]
    exact h1
  have h3 := addSame_R (b := 16 - cn % 16) (e := W) (x := nI (16 - cn % 16)) (v := nI (16 - cn % 16)) h2 (by decide) (by omega) (fun _ _ => rfl) (and255_of (isB_of (by omega))) (fun k hk => by
    have := w1 (cn + k) (by omega)
    rw [if_pos (by omega)] at this
    rw [show 16 + cn + k = 16 + (cn + k) by omega, this]
    congr 1
    omega)
  rw [show 16 + cn + (16 - cn % 16) = 16 * (cn / 16 + 1) + 16 by omega] at h3
  exact h3
theorem shutBlocks_e_R {taken taped cn : Nat} {cfor given Mf : Int32} {Xtape Xsecret Xtext Xsum Xcol : gRow} {bk st ky cl mv la : Nat → Int32} {rd : Int32} {tape Mkey bytes Mout msg dg wd hh sn bx rk sta ot work : Nat → Int32} {MoutSize said rds : Nat}
    (hg : given = nI taken ∧ taken ≤ taped ∧ taped ≤ 400) (ht : rowR 400 Xtape tape taped) (hs : rowR 32 Xsecret Mkey (gks 4)) (hcol : rowR 400 Xcol bytes cn) (hsn : ∀ k : Nat, k < 64 → sn k = gTf 1 k) (hbx : ∀ k : Nat, k < 256 → bx k = gTf 5 k) (hbB : bA 256 bx) (hf : Mf = 2) :
    (F_X10_shutBlocks_e cfor given Xtape Xsecret bk st rd ky cl mv la Xtext Xsum Xcol).1 = (F_X11_encipher_e 4 tape taped taken Mkey Mf bytes cfor MoutSize Mout said msg dg wd hh sn bx rk rds sta ot work cn).1 ∧
    (((F_X10_shutBlocks_e cfor given Xtape Xsecret bk st rd ky cl mv la Xtext Xsum Xcol).1 = -2 ∧ (F_X10_shutBlocks_e cfor given Xtape Xsecret bk st rd ky cl mv la Xtext Xsum Xcol).2.1 = given ∧ (F_X11_encipher_e 4 tape taped taken Mkey Mf bytes cfor MoutSize Mout said msg dg wd hh sn bx rk rds sta ot work cn).2.1 = taken ∧ (F_X11_encipher_e 4 tape taped taken Mkey Mf bytes cfor MoutSize Mout said msg dg wd hh sn bx rk rds sta ot work cn).2.2.1 = MoutSize ∧ (F_X11_encipher_e 4 tape taped taken Mkey Mf bytes cfor MoutSize Mout said msg dg wd hh sn bx rk rds sta ot work cn).2.2.2.1 = Mout) ∨
     (¬ (F_X10_shutBlocks_e cfor given Xtape Xsecret bk st rd ky cl mv la Xtext Xsum Xcol).1 < 0 ∧ (F_X10_shutBlocks_e cfor given Xtape Xsecret bk st rd ky cl mv la Xtext Xsum Xcol).2.1 = nI (F_X11_encipher_e 4 tape taped taken Mkey Mf bytes cfor MoutSize Mout said msg dg wd hh sn bx rk rds sta ot work cn).2.1 ∧ (F_X11_encipher_e 4 tape taped taken Mkey Mf bytes cfor MoutSize Mout said msg dg wd hh sn bx rk rds sta ot work cn).2.1 ≤ taped ∧ rowR 432 (F_X10_shutBlocks_e cfor given Xtape Xsecret bk st rd ky cl mv la Xtext Xsum Xcol).2.2.2.2.2.2.2.2.2.1 (F_X11_encipher_e 4 tape taped taken Mkey Mf bytes cfor MoutSize Mout said msg dg wd hh sn bx rk rds sta ot work cn).2.2.2.1 (F_X11_encipher_e 4 tape taped taken Mkey Mf bytes cfor MoutSize Mout said msg dg wd hh sn bx rk rds sta ot work cn).2.2.1)) := by
  have hc := hcol.2.1
  have el : F_X9_tapeLeft_e given Xtape = nI (taped - taken) := by
    unfold F_X9_tapeLeft_e F_X5_count
    dsimp only [gLet]
    rw [ht.1, hg.1, nI_sub hg.2.1]
  unfold F_X10_shutBlocks_e F_X11_encipher_e
  rw [gLet_p, el]
  by_cases h16 : 16 ≤ taped - taken
  · rw [if_pos h16, if_pos (show (16 : Int32) ≤ nI (taped - taken) from nI_le (a := 16) h16 (by omega))]
    have hk := objKey_R (n2 := 32) (Xtext := Xtext) (q := Xsum) (Mf := Mf) (fb := 1) (by decide) hs (by decide) (by decide) hsn ⟨fun _ => (by decide), fun _ => hf⟩ bk st said msg dg wd hh cfor 0
    simp only [gLet_p]
    generalize F_X1_findObjectKey 32 Xsecret bk st Xtext Xsum cfor 0 1 = u46 at hk ⊢
    generalize (F_X11_objectKey 4 Mkey Mf said msg dg wd hh sn cfor 0).2 = u263 at hk ⊢
    have hk16 : rowR 32 u46.2.2.2 u263.2.2.1 16 := hk
    obtain ⟨g1, g2⟩ := giveTape_R (n2 := 432) (b := 16) (c0 := 0) (q := ((F_X5_clear u46.2.2.1).1, u46.2.2.1.2)) (f := tape) (e := fun k => tape (taken + k)) hg.1 ht (by omega) rowR.clear (by decide) (by decide) (fun k hk => absurd hk (Nat.not_lt_zero k)) (fun k _ => by rw [Nat.zero_add])
    rw [Nat.zero_add] at g2
    rw [show nI 16 = (16 : Int32) from rfl] at g1 g2
    have hrow := encRow (work := work) (b19 := B_X11_encipher_e_19_t tape) (b54 := B_X11_encipher_e_54_t cn bytes) hcol g2 (fun _ _ => rfl) (fun _ _ => rfl)
    have hsp := keys16_R (ky := ky) (la := la) (rk := rk) hk16 (by decide) hbx hbB
    have hrkB : bA 176 (F_X11_setKey_16 bx rk u263.2.2.1).1 := L_setKey16_all (fun k hk => hk16.byt hk) hbB
    have hch := shutChain_R (n := 10) (cl := cl) (mv := mv) (st := sta) (ot := ot) (by decide) hsp hrkB hbx hbB (by decide) hrow
    have eb : (cn / 16 * 16 + 16) / 16 = cn / 16 + 1 := by omega
    have es : 16 + (cn / 16 * 16 + 16) = 16 * (cn / 16 + 1) + 16 := by omega
    have hb := hch.become Mout
    have et := (tape_itr (fr := 0) (t := taken) (n := 16) (s := work) (b := B_X11_encipher_e_19_t tape) (tape := tape) (fun i z => by rw [Nat.zero_add]; rfl)).1
    rw [eb, es]
    refine ⟨hch.1, Or.inr ⟨?_, ?_, ?_, hb⟩⟩
    · have e9 := hch.1
      exact fun e => nI_pos (n := 16 * (cn / 16 + 1) + 16) (by omega) (by rw [← e9]; exact e)
    · exact g1.trans (congrArg nI et.symm)
    · show (itr (B_X11_encipher_e_19_t tape) 16 (taken, work)).1 ≤ taped
      omega
  · rw [if_neg h16, if_neg (show ¬ (16 : Int32) ≤ nI (taped - taken) from fun e => h16 ((nI_le_iff (a := 16) (by omega) (by omega)).mp e))]
    exact ⟨rfl, Or.inl ⟨rfl, rfl, rfl, rfl, rfl⟩⟩
