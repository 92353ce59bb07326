/-! revisions 2 to 4: entries made -/
theorem addSame_R {n : Nat} {r : gRow} {f e : Nat → Int32} {c b : Nat} {x v : Int32} (h : rowR n r f c) (hn : n < 2147483648) (hb : c + b ≤ n) (e1 : ∀ k : Nat, k < c → e k = f k) (hv : x &&& 255 = v) (e2 : ∀ k : Nat, k < b → e (c + k) = v) :
    rowR n (F_X5_addSame n r x (nI b)) e (c + b) := by
  have key : rowR n (itr (B_X5_addSame_2 n x) b r) e (c + b) := by
    refine itr_inv (fun (i : Nat) (z : gRow) => rowR n z e (c + i)) (h.congr (fun k hk => (e1 k hk).symm)) ?_
    intro i z hi hz
    have h1 := hz.add hn (by omega) (b := x) (v := v) hv
    refine h1.congr (fun k hk => ?_)
    by_cases hk2 : k = c + i
    · rw [hk2, upd_s, e2 i hi]
    · rw [upd_n _ hk2]
  unfold F_X5_addSame
  rw [nI_clamp (by omega)]
  exact key
theorem makeKey_bA {rv : Nat} {Id En Pd sn Mk msg dg wd hh : Nat → Int32} {ids : Nat} {plain perm : Int32} (h4 : rv ≤ 4) (hk : bA 32 Mk) : bA 32 (F_X11_makeKey rv Id ids plain perm En Mk msg dg wd hh sn Pd).1 := by
  intro k hk2
  by_cases h1 : k < gks rv
  · exact L_mk_B h4 k h1
  · have e : (F_X11_makeKey rv Id ids plain perm En Mk msg dg wd hh sn Pd).1 k = Mk k := by
      unfold F_X11_makeKey
      simp only [gLet_p]
      by_cases h5 : rv = 4
      · rw [if_pos h5]
        by_cases h0 : plain = 0
        · rw [if_pos h0]
          exact itr_fill_out (b := B_X11_makeKey_80_tt _) (w := fun i => _) (fun _ _ => rfl) (gks rv) Mk k (by omega)
        · rw [if_neg h0]
          exact itr_fill_out (b := B_X11_makeKey_80_tf _) (w := fun i => _) (fun _ _ => rfl) (gks rv) Mk k (by omega)
      · rw [if_neg h5]
        exact itr_fill_out (b := B_X11_makeKey_80_f _) (w := fun i => _) (fun _ _ => rfl) (gks rv) Mk k (by omega)
    rw [e]
    exact hk k hk2
theorem makeCore {rv : Nat} {perm plain : Int32} {Xuser Xident Xe0 Xe1 Xtext Xsum Xpad q u110 u112 u116 u126 : gRow} {bksm stsm mxsr : Nat → Int32} {u108 : (Nat → Int32) × (Nat → Int32) × gRow × gRow} {u114 u122 : (Nat → Int32) × gRow} {u118 : (Nat → Int32) × (Nat → Int32) × gRow} {u120 : (Nat → Int32) × (Nat → Int32) × gRow × gRow}
    {Muser Y Mid fill sn En Mk msg dg wd hh pd own stream p1 p2 z1 W : Nat → Int32} {Musers cn Mids : Nat} {o : Nat × (Nat → Int32) × (Nat → Int32) × (Nat → Int32) × (Nat → Int32) × (Nat → Int32)} {z2 : (Nat → Int32) × (Nat → Int32)} {k : (Nat → Int32) × Nat × (Nat → Int32) × (Nat → Int32) × (Nat → Int32) × (Nat → Int32)}
    (hrv : 2 ≤ rv ∧ rv ≤ 4) (hq : rowR 127 q Y cn) (hu : rowR 127 Xuser Muser Musers) (hi : rowR 32 Xident Mid Mids) (hf : ∀ k : Nat, k < 32 → fill k = gTf 0 k) (hsn : ∀ k : Nat, k < 64 → sn k = gTf 1 k) (hbe : bA 240 En) (hbk : bA 32 Mk)
    (h108 : u108 = F_X1_findOwnersKey rv bksm stsm Xtext Xsum q) (h110 : u110 = F_X1_pad 127 32 Xuser Xpad) (h112 : u112 = F_X5_copy 48 32 Xe0 u110) (h114 : u114 = F_X1_shutSteps 48 rv mxsr u108.2.2.2 u112)
    (h116 : u116 = F_X1_gatherForKey rv perm plain Xident u114.2 u108.2.2.1 u110) (h118 : u118 = F_X1_sumToKey rv u108.1 u108.2.1 u116 u108.2.2.2) (h120 : u120 = F_X1_beginCheck 48 rv Xident u118.1 u118.2.1 u116 Xe1)
    (h122 : u122 = F_X1_shutSteps 48 rv u114.1 u118.2.2 u120.2.2.2) (h126 : u126 = F_X5_addSame 48 u122.2 0 (32 - F_X5_count u122.2))
    (hp1 : p1 = F_X11_pad fill pd Y cn) (ho : o = F_X11_makeOwnerKey rv msg dg wd hh sn p1 own) (hp2 : p2 = F_X11_pad fill p1 Muser Musers) (hz1 : z1 = itr (B_X11_makeEarly_68_f p2) 32 En) (hz2 : z2 = itr (B_X11_makeEarly_94_f o rv) 20 (z1, stream))
    (hkk : k = F_X11_makeKey rv Mid Mids plain perm z2.1 Mk o.2.1 o.2.2.1 o.2.2.2.1 o.2.2.2.2.1 sn p2) (hW : W = (F_X11_check rv Mid Mids k.1 k.2.1 k.2.2.1 k.2.2.2.1 k.2.2.2.2.1 k.2.2.2.2.2 fill sn z2.2 z2.1 48).2.2.2.2.2.2) :
    rowR 48 u114.2 W 32 ∧ rowR 48 u126 (fun t => W (48 + t)) 32 ∧ bA 240 W ∧ bA 32 k.1 := by
  have a108 : rowR 32 u108.2.2.2 o.2.2.2.2.2 (gks rv) := by
    rw [h108, ho, hp1]
    exact ownKey_R hrv hq rfl hf hsn _ _ _ _ _ _ _ _
  have a110 : rowR 32 u110 p2 32 := by
    rw [h110, hp2]
    exact pad_R hu (by decide) (by decide) (by decide) hf _
  have a112 : rowR 48 u112 z1 32 := by
    rw [h112, hz1]
    exact (rowR.copy a110 (by decide) (by decide) (by decide)).congr (fun k hk => (itr_fill (b := B_X11_makeEarly_68_f p2) (w := fun i => p2 i) (fun _ _ => rfl) 32 En k hk).symm)
  obtain ⟨a114, b114⟩ := turnsF_R (mx := mxsr) (stream := stream) hrv a108 a112 (by decide)
  rw [← h114, ← hz2] at a114
  rw [← hz2] at b114
  have a118 : rowR 32 u118.2.2 k.1 (gks rv) := by
    rw [h118, hkk, h116]
    exact makeKey_R hrv a110 a114 hi hsn _ _ _ _ _ _ _
  obtain ⟨c1, c2, c3⟩ := check_R (fr := 48) (n2 := 48) (Xtext := u116) (q := Xe1) (said := k.2.1) hrv a118 hi hf hsn (by decide) (by decide) u118.1 u118.2.1 u114.1 k.2.2.1 k.2.2.2.1 k.2.2.2.2.1 k.2.2.2.2.2 z2.2 z2.1
  rw [← hW] at c1 c2 c3
  rw [← h120, ← h122] at c1
  have r0 : rowR 48 u114.2 W 32 := a114.congr (fun t ht => (c2 t (by omega)).symm)
  have e32 : (32 : Int32) - F_X5_count u122.2 = nI (32 - (if rv = 2 then 32 else 16)) := by
    rw [show F_X5_count u122.2 = nI (if rv = 2 then 32 else 16) from c1.1]
    exact nI_sub (a := 32) (by split <;> omega)
  have r1 : rowR 48 u126 (fun t => W (48 + t)) 32 := by
    rw [h126, e32]
    have := addSame_R (b := 32 - (if rv = 2 then 32 else 16)) (e := fun t => W (48 + t)) (x := 0) (v := 0) c1 (by decide) (by split <;> omega) (fun _ _ => rfl) (by decide) (fun k hk => by
      by_cases h2 : rv = 2
      · rw [if_pos h2] at hk; omega
      · rw [if_neg h2] at hk ⊢
        exact c3 h2 (16 + k) (by omega) (by omega))
    rw [show (if rv = 2 then 32 else 16) + (32 - (if rv = 2 then 32 else 16)) = 32 by split <;> omega] at this
    exact this
  refine ⟨r0, r1, fun t ht => ?_, ?_⟩
  · by_cases t1 : t < 32
    · exact r0.byt t1
    · by_cases t2 : 48 ≤ t ∧ t < 80
      · have := r1.byt (k := t - 48) (by omega)
        rw [show 48 + (t - 48) = t by omega] at this
        exact this
      · rw [c2 t (by omega), b114 t (by omega), hz1, itr_fill_out (b := B_X11_makeEarly_68_f p2) (w := fun i => p2 i) (fun _ _ => rfl) 32 En t (by omega)]
        exact hbe t ht
  · rw [hkk]
    exact makeKey_bA hrv.2 hbk
theorem makeEarly_R {rv : Nat} {perm plain : Int32} {Xuser Xowner Xident Xe0 Xe1 Xtext Xsum Xpad : gRow} {bksm stsm mxsr : Nat → Int32}
    {Muser Mowner Mid fill sn En Ms Mk msg dg wd hh pd own stream : Nat → Int32} {Musers Mowners Mids : Nat}
    (hrv : 2 ≤ rv ∧ rv ≤ 4) (ho : rowR 127 Xowner Mowner Mowners) (hu : rowR 127 Xuser Muser Musers) (hi : rowR 32 Xident Mid Mids) (hf : ∀ k : Nat, k < 32 → fill k = gTf 0 k) (hsn : ∀ k : Nat, k < 64 → sn k = gTf 1 k) (hbe : bA 240 En) (hbk : bA 32 Mk) :
    (F_X11_makeEarly rv Muser Musers Mowner Mowners Mid Mids plain perm En Ms Mk msg dg wd hh fill sn stream pd own).1 = 2 ∧
    (F_X11_makeEarly rv Muser Musers Mowner Mowners Mid Mids plain perm En Ms Mk msg dg wd hh fill sn stream pd own).2.2.1 = upd (upd Ms 0 32) 1 32 ∧
    rowR 48 (F_X1_makeEntries rv perm plain Xuser Xowner Xident Xe0 Xe1 bksm stsm mxsr Xtext Xsum Xpad).1 (F_X11_makeEarly rv Muser Musers Mowner Mowners Mid Mids plain perm En Ms Mk msg dg wd hh fill sn stream pd own).2.1 32 ∧
    rowR 48 (F_X1_makeEntries rv perm plain Xuser Xowner Xident Xe0 Xe1 bksm stsm mxsr Xtext Xsum Xpad).2.1 (fun t => (F_X11_makeEarly rv Muser Musers Mowner Mowners Mid Mids plain perm En Ms Mk msg dg wd hh fill sn stream pd own).2.1 (48 + t)) 32 ∧
    bA 240 (F_X11_makeEarly rv Muser Musers Mowner Mowners Mid Mids plain perm En Ms Mk msg dg wd hh fill sn stream pd own).2.1 ∧
    bA 32 (F_X11_makeEarly rv Muser Musers Mowner Mowners Mid Mids plain perm En Ms Mk msg dg wd hh fill sn stream pd own).2.2.2.1 := by
  have hoc := ho.2.1
  have ec : F_X5_count Xowner = nI Mowners := ho.1
  unfold F_X1_makeEntries F_X11_makeEarly
  rw [gLet_p (F_X5_count Xowner), ec]
  by_cases h0 : Mowners = 0
  · rw [if_pos h0, if_pos (by rw [h0]; decide)]
    simp only [gLet_p]
    exact ⟨trivial, trivial, makeCore (stream := stream) hrv hu hu hi hf hsn hbe hbk rfl rfl rfl rfl rfl rfl rfl rfl rfl rfl rfl rfl rfl rfl rfl rfl⟩
  · rw [if_neg h0, if_neg (nI_ne0 (by omega) (by omega))]
    simp only [gLet_p]
    exact ⟨trivial, trivial, makeCore (stream := stream) hrv ho hu hi hf hsn hbe hbk rfl rfl rfl rfl rfl rfl rfl rfl rfl rfl rfl rfl rfl rfl rfl rfl⟩
