theorem P_told_l {cfor : Int32} {cback : Int32} {filt : Int32} {given : Int32} {perm : Int32} {plain : Int32} {Xuser : gRow} {Xowner : gRow} {Xtried : gRow} {Xident : gRow} {Xtape : gRow} {Xsecret : gRow} {Xe0 : gRow} {Xe1 : gRow} {Xe2 : gRow} {Xe3 : gRow} {Xe4 : gRow} {Xnoe : gRow} {rdbl : Int32} {kybl : Nat → Int32} {clbl : Nat → Int32} {mvbl : Nat → Int32} {labl : Nat → Int32} {Xtext : gRow} {Xcol : gRow} {Xans : gRow} {Muser : Nat → Int32} {Musers : Nat} {Mowner : Nat → Int32} {Mowners : Nat} {Mtried : Nat → Int32} {Mtries : Nat} {Mid : Nat → Int32} {Mids : Nat} {Mtape : Nat → Int32} {Mtaped : Nat} {Mtaken : Nat} {MisPlain : Int32} {Mpermissions : Int32} {Mentries : Nat → Int32} {Msizes : Nat → Int32} {Mkey : Nat → Int32} {MisOpen : Int32} {Mfilter : Int32} {Mcollected : Nat} {Mbytes : Nat → Int32} {Mobject : Int32} {MisBack : Int32} {MoutSize : Nat} {Mout : Nat → Int32} {MfillBytes : Nat → Int32} {Msines : Nat → Int32} {Mroots : Nat → Int32} {Mbox : Nat → Int32} {MbackBox : Nat → Int32} {MroundKeys : Nat → Int32} {Mrounds : Nat} {Mstate : Nat → Int32} {Mother : Nat → Int32} {Mwork : Nat → Int32} {gg : Nat → Int64} (hR : RelL given perm plain Xuser Xowner Xtried Xident Xtape Xsecret Xe0 Xe1 Xe2 Xe3 Xe4 Xnoe cfor cback filt Xcol Xans Muser Musers Mowner Mowners Mtried Mtries Mid Mids Mtape Mtaped Mtaken MisPlain Mpermissions Mentries Msizes Mkey MisOpen Mfilter Mcollected Mbytes Mobject MisBack MoutSize Mout MfillBytes Msines Mroots Mbox MbackBox) (arg0 : Int32) :
    (F_X11_told_l Mtaped Mtaken Mpermissions Mentries Mkey MisOpen Mcollected MoutSize Mbox MbackBox MroundKeys Mrounds Mstate Mother Mwork arg0).2.1 = (F_L_told_l given perm Xtape Xsecret Xe4 rdbl kybl clbl mvbl labl Xtext Xcol Xans gg arg0).1 ∧ ((F_L_told_l given perm Xtape Xsecret Xe4 rdbl kybl clbl mvbl labl Xtext Xcol Xans gg arg0).1 = 0 → ((F_L_told_l given perm Xtape Xsecret Xe4 rdbl kybl clbl mvbl labl Xtext Xcol Xans gg arg0).2.2.2.2.2.2.2 (0 : Int32).toNatClampNeg) = ((F_X11_told_l Mtaped Mtaken Mpermissions Mentries Mkey MisOpen Mcollected MoutSize Mbox MbackBox MroundKeys Mrounds Mstate Mother Mwork arg0).1).toInt64) ∧ RelL given perm plain Xuser Xowner Xtried Xident Xtape Xsecret Xe0 Xe1 Xe2 Xe3 Xe4 Xnoe cfor cback filt Xcol Xans Muser Musers Mowner Mowners Mtried Mtries Mid Mids Mtape Mtaped Mtaken MisPlain Mpermissions Mentries Msizes Mkey MisOpen Mfilter Mcollected Mbytes Mobject MisBack MoutSize Mout MfillBytes Msines Mroots Mbox MbackBox := by
  have hc := RelL_col hR
  have ho := RelL_ans hR
  have ht := RelL_tape hR
  have hg := RelL_given hR
  have hp := RelL_perm hR
  have hio := isOpen_R (RelL_open hR)
  have hbB : bA 256 Mbox := fun k hk => by rw [RelL_tbox hR k hk]; exact T5_B k hk
  have hbbB : bA 256 MbackBox := fun k hk => by rw [RelL_tbb hR k hk]; exact T6_B k hk
  have e1 : F_X9_tapeLeft_l given Xtape = nI (Mtaped - Mtaken) := by
    unfold F_X9_tapeLeft_l F_X5_count
    dsimp only [gLet]
    rw [ht.1, hg.1, nI_sub hg.2.1]
  have ecc : F_X5_count Xcol = nI Mcollected := hc.1
  have eca : F_X5_count Xans = nI MoutSize := ho.1
  unfold F_L_told_l F_X10_told_l F_X11_told_l
  rw [e1, ecc, eca]
  subst hp
  by_cases k0 : arg0 = 0
  · subst k0
    simp (config := {decide := true}) only [gLet_p, if_true, if_false]
    exact ⟨(by first | exact trivial | rfl), fun _ => updL_s _ _ _, hR⟩
  · skip
    by_cases k1 : arg0 = 1
    · subst k1
      simp (config := {decide := true}) only [gLet_p, if_true, if_false]
      exact ⟨(by first | exact trivial | rfl), fun _ => updL_s _ _ _, hR⟩
    · skip
      by_cases k2 : arg0 = 2
      · subst k2
        simp (config := {decide := true}) only [gLet_p, if_true, if_false]
        exact ⟨(by first | exact trivial | rfl), fun _ => updL_s _ _ _, hR⟩
      · skip
        by_cases k3 : arg0 = 3
        · subst k3
          rcases RelL_open hR with ⟨q1, q2⟩ | ⟨q1, q2⟩
          · have hx : F_X9_isOpen_l Xsecret = 0 := hio.trans q1
            unfold F_X3_tellPermissions
            simp (config := {decide := true}) only [gLet_p, if_true, if_false, hx, if_pos q1]
            exact ⟨(by first | exact trivial | rfl), fun _ => updL_s _ _ _, hR⟩
          · have q3 : ¬ MisOpen = 0 := by rw [q1]; decide
            have he := (RelL_ent hR).resolve_left (fun e => (RelL_mop hR).elim (fun q => q3 q) (fun q => q e.1))
            have htl := tell_R (perm := perm) (rd := rdbl) (ky := kybl) (cl := clbl) (mv := mvbl) (la := labl) (Xt := Xtext) (rk := MroundKeys) (st := Mstate) (ot := Mother) (wk := Mwork) q2 he.2.2.2.2.2.2.2.2.2 (RelL_tbox hR) hbB (RelL_tbb hR) hbbB
            simp (config := {decide := true}) only [gLet_p, if_true, if_false, if_neg q3]
            exact ⟨(by first | exact trivial | rfl), fun _ => (updL_s _ _ _).trans (congrArg Int32.toInt64 htl), hR⟩
        · skip
          rcases i32_4 k0 k1 k2 k3 with h | h
          · simp (config := {decide := true}) only [gLet_p, if_true, if_false, if_neg k0, if_neg k1, if_neg k2, if_neg k3, if_pos h]
            exact ⟨(by first | exact trivial | rfl), fun h => absurd h (by decide), hR⟩
          · have hng : ¬ arg0 < 0 := i32_ng3 h
            have hn3 : ¬ arg0 ≤ 3 := fun e => g_nle h e
            simp (config := {decide := true}) only [gLet_p, if_true, if_false, if_neg k0, if_neg k1, if_neg k2, if_neg k3, if_neg hng, if_neg hn3]
            exact ⟨(by first | exact trivial | rfl), fun h => absurd h (by decide), hR⟩
