theorem P_weak_e {rv : Nat} {cfor : Int32} {cback : Int32} {filt : Int32} {given : Int32} {perm : Int32} {plain : Int32} {Xuser : gRow} {Xowner : gRow} {Xtried : gRow} {Xident : gRow} {Xtape : gRow} {Xsecret : gRow} {Xe0 : gRow} {Xe1 : gRow} {Xnoe : gRow} {Xcol : gRow} {Xans : gRow} {Muser : Nat → Int32} {Musers : Nat} {Mowner : Nat → Int32} {Mowners : Nat} {Mtried : Nat → Int32} {Mtries : Nat} {Mid : Nat → Int32} {Mids : Nat} {Mtape : Nat → Int32} {Mtaped : Nat} {Mtaken : Nat} {MisPlain : Int32} {Mpermissions : Int32} {Mentries : Nat → Int32} {Msizes : Nat → Int32} {Mkey : Nat → Int32} {MisOpen : Int32} {Mfilter : Int32} {Mcollected : Nat} {Mbytes : Nat → Int32} {Mobject : Int32} {MisBack : Int32} {MoutSize : Nat} {Mout : Nat → Int32} {MfillBytes : Nat → Int32} {Msines : Nat → Int32} {Mroots : Nat → Int32} {Mbox : Nat → Int32} {MbackBox : Nat → Int32} (hR : RelE rv given perm plain Xuser Xowner Xtried Xident Xtape Xsecret Xe0 Xe1 Xnoe cfor cback filt Xcol Xans Muser Musers Mowner Mowners Mtried Mtries Mid Mids Mtape Mtaped Mtaken MisPlain Mpermissions Mentries Msizes Mkey MisOpen Mfilter Mcollected Mbytes Mobject MisBack MoutSize Mout MfillBytes Msines Mroots Mbox MbackBox) :
    (F_X10_weak_e rv filt) = (F_X11_weak rv Mfilter).1 ∧ True ∧ RelE rv given perm plain Xuser Xowner Xtried Xident Xtape Xsecret Xe0 Xe1 Xnoe cfor cback filt Xcol Xans Muser Musers Mowner Mowners Mtried Mtries Mid Mids Mtape Mtaped Mtaken MisPlain Mpermissions Mentries Msizes Mkey MisOpen Mfilter Mcollected Mbytes Mobject MisBack MoutSize Mout MfillBytes Msines Mroots Mbox MbackBox := by
  refine ⟨?_, trivial, hR⟩
  have h2 := RelE_rv hR
  have hf := RelE_filt hR
  unfold F_X10_weak_e F_X9_keyBytes_e F_X11_weak
  rw [hf.1]
  rcases (show rv = 2 ∨ rv = 3 ∨ rv = 4 by omega) with h | h | h <;> subst h <;> by_cases h0 : Mfilter = 0 <;> simp (config := {decide := true}) [gLet, h0]
theorem P_filter_e {rv : Nat} {cfor : Int32} {cback : Int32} {filt : Int32} {given : Int32} {perm : Int32} {plain : Int32} {Xuser : gRow} {Xowner : gRow} {Xtried : gRow} {Xident : gRow} {Xtape : gRow} {Xsecret : gRow} {Xe0 : gRow} {Xe1 : gRow} {Xnoe : gRow} {Xcol : gRow} {Xans : gRow} {Muser : Nat → Int32} {Musers : Nat} {Mowner : Nat → Int32} {Mowners : Nat} {Mtried : Nat → Int32} {Mtries : Nat} {Mid : Nat → Int32} {Mids : Nat} {Mtape : Nat → Int32} {Mtaped : Nat} {Mtaken : Nat} {MisPlain : Int32} {Mpermissions : Int32} {Mentries : Nat → Int32} {Msizes : Nat → Int32} {Mkey : Nat → Int32} {MisOpen : Int32} {Mfilter : Int32} {Mcollected : Nat} {Mbytes : Nat → Int32} {Mobject : Int32} {MisBack : Int32} {MoutSize : Nat} {Mout : Nat → Int32} {MfillBytes : Nat → Int32} {Msines : Nat → Int32} {Mroots : Nat → Int32} {Mbox : Nat → Int32} {MbackBox : Nat → Int32} {gg : Nat → Int64} (hR : RelE rv given perm plain Xuser Xowner Xtried Xident Xtape Xsecret Xe0 Xe1 Xnoe cfor cback filt Xcol Xans Muser Musers Mowner Mowners Mtried Mtries Mid Mids Mtape Mtaped Mtaken MisPlain Mpermissions Mentries Msizes Mkey MisOpen Mfilter Mcollected Mbytes Mobject MisBack MoutSize Mout MfillBytes Msines Mroots Mbox MbackBox) (arg0 : Int32) :
    (F_X11_filter rv Mfilter arg0).2.1 = (F_L_filter_e rv filt gg arg0).1 ∧ ((F_L_filter_e rv filt gg arg0).1 = 0 → ((F_L_filter_e rv filt gg arg0).2.2 (0 : Int32).toNatClampNeg) = ((F_X11_filter rv Mfilter arg0).1).toInt64) ∧ RelE rv given perm plain Xuser Xowner Xtried Xident Xtape Xsecret Xe0 Xe1 Xnoe cfor cback ((F_L_filter_e rv filt gg arg0).2.1) Xcol Xans Muser Musers Mowner Mowners Mtried Mtries Mid Mids Mtape Mtaped Mtaken MisPlain Mpermissions Mentries Msizes Mkey MisOpen ((F_X11_filter rv Mfilter arg0).2.2) Mcollected Mbytes Mobject MisBack MoutSize Mout MfillBytes Msines Mroots Mbox MbackBox := by
  have hf := RelE_filt hR
  have h2 := RelE_rv hR
  unfold F_L_filter_e F_X10_filter_e F_X1_knowsFilter F_X11_filter
  by_cases k0 : arg0 = 0
  · subst k0
    simp (config := {decide := true}) only [gLet, if_true, if_false]
    exact ⟨(by first | exact trivial | rfl), fun _ => (updL_s _ _ _).trans (congrArg Int32.toInt64 hf.1), (RelE_mk (RelE_rv hR) (RelE_user hR) (RelE_owner hR) (RelE_tried hR) (RelE_ident hR) (RelE_tape hR) (RelE_given hR) (RelE_perm hR) (RelE_plain hR) (RelE_ent hR) (RelE_ent2 hR) (RelE_noe hR) (RelE_open hR) (RelE_col hR) (RelE_cfor hR) (RelE_back hR) ⟨rfl, Or.inl rfl⟩ (fun h => absurd h (by decide)) (RelE_ans hR) (RelE_btape hR) (RelE_bent hR) (RelE_bkey hR) (RelE_bbyt hR) (RelE_tfill hR) (RelE_tsin hR) (RelE_troot hR) (RelE_tbox hR) (RelE_tbb hR))⟩
  · by_cases k1 : arg0 = 1
    · subst k1
      have h5 : ¬ rv = 5 := by omega
      simp (config := {decide := true}) only [gLet, if_true, if_false, and_true, if_neg h5]
      exact ⟨(by first | exact trivial | rfl), fun _ => (updL_s _ _ _).trans (congrArg Int32.toInt64 hf.1), (RelE_mk (RelE_rv hR) (RelE_user hR) (RelE_owner hR) (RelE_tried hR) (RelE_ident hR) (RelE_tape hR) (RelE_given hR) (RelE_perm hR) (RelE_plain hR) (RelE_ent hR) (RelE_ent2 hR) (RelE_noe hR) (RelE_open hR) (RelE_col hR) (RelE_cfor hR) (RelE_back hR) ⟨rfl, Or.inr (Or.inl rfl)⟩ (fun h => absurd h (by decide)) (RelE_ans hR) (RelE_btape hR) (RelE_bent hR) (RelE_bkey hR) (RelE_bbyt hR) (RelE_tfill hR) (RelE_tsin hR) (RelE_troot hR) (RelE_tbox hR) (RelE_tbb hR))⟩
    · by_cases k2 : arg0 = 2
      · subst k2
        by_cases h4 : rv = 4
        · have h4b : ¬ rv < 4 := by omega
          simp (config := {decide := true}) only [gLet, if_true, if_false, and_true, if_pos h4, if_neg h4b]
          exact ⟨(by first | exact trivial | rfl), fun _ => (updL_s _ _ _).trans (congrArg Int32.toInt64 hf.1), (RelE_mk (RelE_rv hR) (RelE_user hR) (RelE_owner hR) (RelE_tried hR) (RelE_ident hR) (RelE_tape hR) (RelE_given hR) (RelE_perm hR) (RelE_plain hR) (RelE_ent hR) (RelE_ent2 hR) (RelE_noe hR) (RelE_open hR) (RelE_col hR) (RelE_cfor hR) (RelE_back hR) ⟨rfl, Or.inr (Or.inr rfl)⟩ (fun _ => h4) (RelE_ans hR) (RelE_btape hR) (RelE_bent hR) (RelE_bkey hR) (RelE_bbyt hR) (RelE_tfill hR) (RelE_tsin hR) (RelE_troot hR) (RelE_tbox hR) (RelE_tbb hR))⟩
        · have h4b : rv < 4 := by omega
          simp (config := {decide := true}) only [gLet, if_true, if_false, and_true, if_neg h4, if_pos h4b]
          exact ⟨(by first | exact trivial | rfl), fun h => absurd h (by decide), hR⟩
      · rcases i32_3 k0 k1 k2 with h | h
        · simp (config := {decide := true}) only [gLet, if_true, if_false, and_true, if_neg k0, if_neg k1, if_neg k2, if_pos h]
          exact ⟨(by first | exact trivial | rfl), fun h => absurd h (by decide), hR⟩
        · have hng : ¬ arg0 < 0 := i32_ng h
          simp (config := {decide := true}) only [gLet, if_true, if_false, and_true, if_neg k0, if_neg k1, if_neg k2, if_neg hng, if_pos h]
          exact ⟨(by first | exact trivial | rfl), fun h => absurd h (by decide), hR⟩
theorem P_out_e {rv : Nat} {cfor : Int32} {cback : Int32} {filt : Int32} {given : Int32} {perm : Int32} {plain : Int32} {Xuser : gRow} {Xowner : gRow} {Xtried : gRow} {Xident : gRow} {Xtape : gRow} {Xsecret : gRow} {Xe0 : gRow} {Xe1 : gRow} {Xnoe : gRow} {Xcol : gRow} {Xans : gRow} {Muser : Nat → Int32} {Musers : Nat} {Mowner : Nat → Int32} {Mowners : Nat} {Mtried : Nat → Int32} {Mtries : Nat} {Mid : Nat → Int32} {Mids : Nat} {Mtape : Nat → Int32} {Mtaped : Nat} {Mtaken : Nat} {MisPlain : Int32} {Mpermissions : Int32} {Mentries : Nat → Int32} {Msizes : Nat → Int32} {Mkey : Nat → Int32} {MisOpen : Int32} {Mfilter : Int32} {Mcollected : Nat} {Mbytes : Nat → Int32} {Mobject : Int32} {MisBack : Int32} {MoutSize : Nat} {Mout : Nat → Int32} {MfillBytes : Nat → Int32} {Msines : Nat → Int32} {Mroots : Nat → Int32} {Mbox : Nat → Int32} {MbackBox : Nat → Int32} {gg : Nat → Int64} (hR : RelE rv given perm plain Xuser Xowner Xtried Xident Xtape Xsecret Xe0 Xe1 Xnoe cfor cback filt Xcol Xans Muser Musers Mowner Mowners Mtried Mtries Mid Mids Mtape Mtaped Mtaken MisPlain Mpermissions Mentries Msizes Mkey MisOpen Mfilter Mcollected Mbytes Mobject MisBack MoutSize Mout MfillBytes Msines Mroots Mbox MbackBox) (arg0 : Int32) :
    (F_X11_out MoutSize Mout arg0).2 = (F_L_out_e Xans gg arg0).1 ∧ ((F_L_out_e Xans gg arg0).1 = 0 → ((F_L_out_e Xans gg arg0).2 (0 : Int32).toNatClampNeg) = ((F_X11_out MoutSize Mout arg0).1).toInt64) ∧ RelE rv given perm plain Xuser Xowner Xtried Xident Xtape Xsecret Xe0 Xe1 Xnoe cfor cback filt Xcol Xans Muser Musers Mowner Mowners Mtried Mtries Mid Mids Mtape Mtaped Mtaken MisPlain Mpermissions Mentries Msizes Mkey MisOpen Mfilter Mcollected Mbytes Mobject MisBack MoutSize Mout MfillBytes Msines Mroots Mbox MbackBox := by
  have ho := RelE_ans hR
  have hc := ho.2.1
  unfold F_L_out_e F_X10_out_e F_X11_out F_X5_count
  rw [ho.1]
  by_cases h1 : arg0 < 0
  · simp (config := {decide := true}) only [gLet, if_true, if_false, if_pos h1]
    exact ⟨(by first | exact trivial | rfl), fun h => absurd h (by decide), hR⟩
  · have e1 := g_nat h1
    have hcl := g_clamp_lt arg0
    generalize arg0.toNatClampNeg = m at e1 hcl
    subst e1
    by_cases h2 : nI m < nI MoutSize
    · have h2n := (nI_lt_iff hcl (by omega)).mp h2
      have ha : F_X5_at 432 Xans (nI m) = Mout m := ho.at (by decide) h2n
      have hcm : (nI m).toNatClampNeg = m := nI_clamp hcl
      simp (config := {decide := true}) only [gLet, if_true, if_false, if_neg h1, if_pos h2, ha, hcm]
      exact ⟨(by first | exact trivial | rfl), fun _ => updL_s _ _ _, hR⟩
    · simp (config := {decide := true}) only [gLet, if_true, if_false, if_neg h1, if_neg h2]
      exact ⟨(by first | exact trivial | rfl), fun h => absurd h (by decide), hR⟩
theorem P_told_e {rv : Nat} {cfor : Int32} {cback : Int32} {filt : Int32} {given : Int32} {perm : Int32} {plain : Int32} {Xuser : gRow} {Xowner : gRow} {Xtried : gRow} {Xident : gRow} {Xtape : gRow} {Xsecret : gRow} {Xe0 : gRow} {Xe1 : gRow} {Xnoe : gRow} {Xcol : gRow} {Xans : gRow} {Muser : Nat → Int32} {Musers : Nat} {Mowner : Nat → Int32} {Mowners : Nat} {Mtried : Nat → Int32} {Mtries : Nat} {Mid : Nat → Int32} {Mids : Nat} {Mtape : Nat → Int32} {Mtaped : Nat} {Mtaken : Nat} {MisPlain : Int32} {Mpermissions : Int32} {Mentries : Nat → Int32} {Msizes : Nat → Int32} {Mkey : Nat → Int32} {MisOpen : Int32} {Mfilter : Int32} {Mcollected : Nat} {Mbytes : Nat → Int32} {Mobject : Int32} {MisBack : Int32} {MoutSize : Nat} {Mout : Nat → Int32} {MfillBytes : Nat → Int32} {Msines : Nat → Int32} {Mroots : Nat → Int32} {Mbox : Nat → Int32} {MbackBox : Nat → Int32} {gg : Nat → Int64} (hR : RelE rv given perm plain Xuser Xowner Xtried Xident Xtape Xsecret Xe0 Xe1 Xnoe cfor cback filt Xcol Xans Muser Musers Mowner Mowners Mtried Mtries Mid Mids Mtape Mtaped Mtaken MisPlain Mpermissions Mentries Msizes Mkey MisOpen Mfilter Mcollected Mbytes Mobject MisBack MoutSize Mout MfillBytes Msines Mroots Mbox MbackBox) (arg0 : Int32) :
    (F_X11_told_e Mtaped Mtaken Mpermissions Mcollected MoutSize arg0).2 = (F_L_told_e given perm Xtape Xcol Xans gg arg0).1 ∧ ((F_L_told_e given perm Xtape Xcol Xans gg arg0).1 = 0 → ((F_L_told_e given perm Xtape Xcol Xans gg arg0).2 (0 : Int32).toNatClampNeg) = ((F_X11_told_e Mtaped Mtaken Mpermissions Mcollected MoutSize arg0).1).toInt64) ∧ RelE rv given perm plain Xuser Xowner Xtried Xident Xtape Xsecret Xe0 Xe1 Xnoe cfor cback filt Xcol Xans Muser Musers Mowner Mowners Mtried Mtries Mid Mids Mtape Mtaped Mtaken MisPlain Mpermissions Mentries Msizes Mkey MisOpen Mfilter Mcollected Mbytes Mobject MisBack MoutSize Mout MfillBytes Msines Mroots Mbox MbackBox := by
  have hc := RelE_col hR
  have ho := RelE_ans hR
  have ht := RelE_tape hR
  have hg := RelE_given hR
  have hp := RelE_perm hR
  have e1 : F_X9_tapeLeft_e given Xtape = nI (Mtaped - Mtaken) := by
    unfold F_X9_tapeLeft_e F_X5_count
    dsimp only [gLet]
    rw [ht.1, hg.1, nI_sub hg.2.1]
  unfold F_L_told_e F_X10_told_e F_X1_tellPermissions F_X11_told_e F_X5_count
  rw [e1, hc.1, ho.1]
  subst hp
  by_cases k0 : arg0 = 0
  · subst k0
    simp (config := {decide := true}) only [gLet, if_true, if_false]
    exact ⟨(by first | exact trivial | rfl), fun _ => updL_s _ _ _, hR⟩
  · skip
    by_cases k1 : arg0 = 1
    · subst k1
      simp (config := {decide := true}) only [gLet, if_true, if_false]
      exact ⟨(by first | exact trivial | rfl), fun _ => updL_s _ _ _, hR⟩
    · skip
      by_cases k2 : arg0 = 2
      · subst k2
        simp (config := {decide := true}) only [gLet, if_true, if_false]
        exact ⟨(by first | exact trivial | rfl), fun _ => updL_s _ _ _, hR⟩
      · skip
        by_cases k3 : arg0 = 3
        · subst k3
          simp (config := {decide := true}) only [gLet, if_true, if_false]
          exact ⟨(by first | exact trivial | rfl), fun _ => updL_s _ _ _, hR⟩
        · skip
          rcases i32_4 k0 k1 k2 k3 with h | h
          · simp (config := {decide := true}) only [gLet, if_true, if_false, if_neg k0, if_neg k1, if_neg k2, if_neg k3, if_pos h]
            exact ⟨(by first | exact trivial | rfl), fun h => absurd h (by decide), hR⟩
          · have hng : ¬ arg0 < 0 := i32_ng3 h
            have hn3 : ¬ arg0 ≤ 3 := fun e => g_nle h e
            simp (config := {decide := true}) only [gLet, if_true, if_false, if_neg k0, if_neg k1, if_neg k2, if_neg k3, if_neg hng, if_neg hn3]
            exact ⟨(by first | exact trivial | rfl), fun h => absurd h (by decide), hR⟩
theorem P_entry_e {rv : Nat} {cfor : Int32} {cback : Int32} {filt : Int32} {given : Int32} {perm : Int32} {plain : Int32} {Xuser : gRow} {Xowner : gRow} {Xtried : gRow} {Xident : gRow} {Xtape : gRow} {Xsecret : gRow} {Xe0 : gRow} {Xe1 : gRow} {Xnoe : gRow} {Xcol : gRow} {Xans : gRow} {Muser : Nat → Int32} {Musers : Nat} {Mowner : Nat → Int32} {Mowners : Nat} {Mtried : Nat → Int32} {Mtries : Nat} {Mid : Nat → Int32} {Mids : Nat} {Mtape : Nat → Int32} {Mtaped : Nat} {Mtaken : Nat} {MisPlain : Int32} {Mpermissions : Int32} {Mentries : Nat → Int32} {Msizes : Nat → Int32} {Mkey : Nat → Int32} {MisOpen : Int32} {Mfilter : Int32} {Mcollected : Nat} {Mbytes : Nat → Int32} {Mobject : Int32} {MisBack : Int32} {MoutSize : Nat} {Mout : Nat → Int32} {MfillBytes : Nat → Int32} {Msines : Nat → Int32} {Mroots : Nat → Int32} {Mbox : Nat → Int32} {MbackBox : Nat → Int32} {gg : Nat → Int64} (hR : RelE rv given perm plain Xuser Xowner Xtried Xident Xtape Xsecret Xe0 Xe1 Xnoe cfor cback filt Xcol Xans Muser Musers Mowner Mowners Mtried Mtries Mid Mids Mtape Mtaped Mtaken MisPlain Mpermissions Mentries Msizes Mkey MisOpen Mfilter Mcollected Mbytes Mobject MisBack MoutSize Mout MfillBytes Msines Mroots Mbox MbackBox) (arg0 : Int32) (arg1 : Int32) :
    (F_X11_entry Mentries Msizes arg0 arg1).2 = (F_L_entry_e Xe0 Xe1 Xnoe gg arg0 arg1).1 ∧ ((F_L_entry_e Xe0 Xe1 Xnoe gg arg0 arg1).1 = 0 → ((F_L_entry_e Xe0 Xe1 Xnoe gg arg0 arg1).2 (0 : Int32).toNatClampNeg) = ((F_X11_entry Mentries Msizes arg0 arg1).1).toInt64) ∧ RelE rv given perm plain Xuser Xowner Xtried Xident Xtape Xsecret Xe0 Xe1 Xnoe cfor cback filt Xcol Xans Muser Musers Mowner Mowners Mtried Mtries Mid Mids Mtape Mtaped Mtaken MisPlain Mpermissions Mentries Msizes Mkey MisOpen Mfilter Mcollected Mbytes Mobject MisBack MoutSize Mout MfillBytes Msines Mroots Mbox MbackBox := by
  have hn0 := RelE_noe hR
  have h20 := RelE_ent2 hR
  have eq : F_X10_entry_e Xe0 Xe1 Xnoe arg0 arg1 = if arg0 = 0 then gEn 48 Xe0 arg1 else if arg0 = 1 then gEn 48 Xe1 arg1 else gEn 0 Xnoe arg1 := rfl
  unfold F_L_entry_e
  rw [eq]
  rcases RelE_ent hR with he | he
  · skip
    by_cases h0 : arg0 = 0
    · rw [if_pos h0]
      have q : rowR 48 Xe0 (fun k => Mentries (48 * 0 + k)) 0 := rowR.empty he.2.2.1
      have hs : Msizes 0 = nI 0 := he.1
      have hf := ent_fin (gg := gg) (ent_R arg1 q (by decide) (by decide) (by decide) hs)
      rw [show nI 0 = arg0 from h0.symm] at hf
      exact ⟨hf.1, hf.2, hR⟩
    · skip
      by_cases h1 : arg0 = 1
      · rw [if_neg h0, if_pos h1]
        have q : rowR 48 Xe1 (fun k => Mentries (48 * 1 + k)) 0 := rowR.empty he.2.2.2
        have hs : Msizes 1 = nI 0 := he.2.1
        have hf := ent_fin (gg := gg) (ent_R arg1 q (by decide) (by decide) (by decide) hs)
        rw [show nI 1 = arg0 from h1.symm] at hf
        exact ⟨hf.1, hf.2, hR⟩
      · skip
        by_cases h2 : arg0 = 2
        · rw [if_neg h0, if_neg h1]
          have q : rowR 0 Xnoe (fun k => Mentries (48 * 2 + k)) 0 := rowR.empty hn0
          have hs : Msizes 2 = nI 0 := h20.1
          have hf := ent_fin (gg := gg) (ent_R arg1 q (by decide) (by decide) (by decide) hs)
          rw [show nI 2 = arg0 from h2.symm] at hf
          exact ⟨hf.1, hf.2, hR⟩
        · skip
          by_cases h3 : arg0 = 3
          · rw [if_neg h0, if_neg h1]
            have q : rowR 0 Xnoe (fun k => Mentries (48 * 3 + k)) 0 := rowR.empty hn0
            have hs : Msizes 3 = nI 0 := h20.2.1
            have hf := ent_fin (gg := gg) (ent_R arg1 q (by decide) (by decide) (by decide) hs)
            rw [show nI 3 = arg0 from h3.symm] at hf
            exact ⟨hf.1, hf.2, hR⟩
          · skip
            by_cases h4 : arg0 = 4
            · rw [if_neg h0, if_neg h1]
              have q : rowR 0 Xnoe (fun k => Mentries (48 * 4 + k)) 0 := rowR.empty hn0
              have hs : Msizes 4 = nI 0 := h20.2.2
              have hf := ent_fin (gg := gg) (ent_R arg1 q (by decide) (by decide) (by decide) hs)
              rw [show nI 4 = arg0 from h4.symm] at hf
              exact ⟨hf.1, hf.2, hR⟩
            · skip
              have hx := ent_out (Me := Mentries) (Ms := Msizes) (vi := arg1) (i32_5 h0 h1 h2 h3 h4)
              rw [if_neg h0, if_neg h1]
              have hf := ent_fin (gg := gg) (X := F_X11_entry Mentries Msizes arg0 arg1) (t := gEn 0 Xnoe arg1) (by rw [hx, gEn_0 arg1 hn0]; exact ⟨rfl, fun h => absurd (show (4 : Nat) = 0 from h) (by decide)⟩)
              exact ⟨hf.1, hf.2, hR⟩
  · skip
    by_cases h0 : arg0 = 0
    · rw [if_pos h0]
      have q : rowR 48 Xe0 (fun k => Mentries (48 * 0 + k)) 32 := row_e0 he.2.2.1
      have hs : Msizes 0 = nI 32 := he.1
      have hf := ent_fin (gg := gg) (ent_R arg1 q (by decide) (by decide) (by decide) hs)
      rw [show nI 0 = arg0 from h0.symm] at hf
      exact ⟨hf.1, hf.2, hR⟩
    · skip
      by_cases h1 : arg0 = 1
      · rw [if_neg h0, if_pos h1]
        have q : rowR 48 Xe1 (fun k => Mentries (48 * 1 + k)) 32 := he.2.2.2
        have hs : Msizes 1 = nI 32 := he.2.1
        have hf := ent_fin (gg := gg) (ent_R arg1 q (by decide) (by decide) (by decide) hs)
        rw [show nI 1 = arg0 from h1.symm] at hf
        exact ⟨hf.1, hf.2, hR⟩
      · skip
        by_cases h2 : arg0 = 2
        · rw [if_neg h0, if_neg h1]
          have q : rowR 0 Xnoe (fun k => Mentries (48 * 2 + k)) 0 := rowR.empty hn0
          have hs : Msizes 2 = nI 0 := h20.1
          have hf := ent_fin (gg := gg) (ent_R arg1 q (by decide) (by decide) (by decide) hs)
          rw [show nI 2 = arg0 from h2.symm] at hf
          exact ⟨hf.1, hf.2, hR⟩
        · skip
          by_cases h3 : arg0 = 3
          · rw [if_neg h0, if_neg h1]
            have q : rowR 0 Xnoe (fun k => Mentries (48 * 3 + k)) 0 := rowR.empty hn0
            have hs : Msizes 3 = nI 0 := h20.2.1
            have hf := ent_fin (gg := gg) (ent_R arg1 q (by decide) (by decide) (by decide) hs)
            rw [show nI 3 = arg0 from h3.symm] at hf
            exact ⟨hf.1, hf.2, hR⟩
          · skip
            by_cases h4 : arg0 = 4
            · rw [if_neg h0, if_neg h1]
              have q : rowR 0 Xnoe (fun k => Mentries (48 * 4 + k)) 0 := rowR.empty hn0
              have hs : Msizes 4 = nI 0 := h20.2.2
              have hf := ent_fin (gg := gg) (ent_R arg1 q (by decide) (by decide) (by decide) hs)
              rw [show nI 4 = arg0 from h4.symm] at hf
              exact ⟨hf.1, hf.2, hR⟩
            · skip
              have hx := ent_out (Me := Mentries) (Ms := Msizes) (vi := arg1) (i32_5 h0 h1 h2 h3 h4)
              rw [if_neg h0, if_neg h1]
              have hf := ent_fin (gg := gg) (X := F_X11_entry Mentries Msizes arg0 arg1) (t := gEn 0 Xnoe arg1) (by rw [hx, gEn_0 arg1 hn0]; exact ⟨rfl, fun h => absurd (show (4 : Nat) = 0 from h) (by decide)⟩)
              exact ⟨hf.1, hf.2, hR⟩
theorem P_alter_e {rv : Nat} {cfor : Int32} {cback : Int32} {filt : Int32} {given : Int32} {perm : Int32} {plain : Int32} {Xuser : gRow} {Xowner : gRow} {Xtried : gRow} {Xident : gRow} {Xtape : gRow} {Xsecret : gRow} {Xe0 : gRow} {Xe1 : gRow} {Xnoe : gRow} {Xcol : gRow} {Xans : gRow} {Muser : Nat → Int32} {Musers : Nat} {Mowner : Nat → Int32} {Mowners : Nat} {Mtried : Nat → Int32} {Mtries : Nat} {Mid : Nat → Int32} {Mids : Nat} {Mtape : Nat → Int32} {Mtaped : Nat} {Mtaken : Nat} {MisPlain : Int32} {Mpermissions : Int32} {Mentries : Nat → Int32} {Msizes : Nat → Int32} {Mkey : Nat → Int32} {MisOpen : Int32} {Mfilter : Int32} {Mcollected : Nat} {Mbytes : Nat → Int32} {Mobject : Int32} {MisBack : Int32} {MoutSize : Nat} {Mout : Nat → Int32} {MfillBytes : Nat → Int32} {Msines : Nat → Int32} {Mroots : Nat → Int32} {Mbox : Nat → Int32} {MbackBox : Nat → Int32} (hR : RelE rv given perm plain Xuser Xowner Xtried Xident Xtape Xsecret Xe0 Xe1 Xnoe cfor cback filt Xcol Xans Muser Musers Mowner Mowners Mtried Mtries Mid Mids Mtape Mtaped Mtaken MisPlain Mpermissions Mentries Msizes Mkey MisOpen Mfilter Mcollected Mbytes Mobject MisBack MoutSize Mout MfillBytes Msines Mroots Mbox MbackBox) (arg0 : Int32) (arg1 : Int32) (arg2 : Int32) :
    (F_X11_alter Mentries Msizes MisOpen Mcollected arg0 arg1 arg2).1 = (F_L_alter_e Xsecret Xe0 Xe1 Xnoe Xcol arg0 arg1 arg2).1 ∧ True ∧ RelE rv given perm plain Xuser Xowner Xtried Xident Xtape ((F_L_alter_e Xsecret Xe0 Xe1 Xnoe Xcol arg0 arg1 arg2).2.1.1, Xsecret.2) ((F_L_alter_e Xsecret Xe0 Xe1 Xnoe Xcol arg0 arg1 arg2).2.2.1) ((F_L_alter_e Xsecret Xe0 Xe1 Xnoe Xcol arg0 arg1 arg2).2.2.2.1) ((F_L_alter_e Xsecret Xe0 Xe1 Xnoe Xcol arg0 arg1 arg2).2.2.2.2.1) cfor cback filt ((F_L_alter_e Xsecret Xe0 Xe1 Xnoe Xcol arg0 arg1 arg2).2.2.2.2.2.1, Xcol.2) Xans Muser Musers Mowner Mowners Mtried Mtries Mid Mids Mtape Mtaped Mtaken MisPlain Mpermissions ((F_X11_alter Mentries Msizes MisOpen Mcollected arg0 arg1 arg2).2.1) Msizes Mkey ((F_X11_alter Mentries Msizes MisOpen Mcollected arg0 arg1 arg2).2.2.1) Mfilter ((F_X11_alter Mentries Msizes MisOpen Mcollected arg0 arg1 arg2).2.2.2) Mbytes Mobject MisBack MoutSize Mout MfillBytes Msines Mroots Mbox MbackBox := by
  have hn0 := RelE_noe hR
  have h20 := RelE_ent2 hR
  have hbe := RelE_bent hR
  unfold F_L_alter_e F_X10_alter_e F_X11_alter F_X10_shut_e F_X5_clear F_X5_count F_X11_shutAll
  rcases RelE_ent hR with he | he
  · skip
    by_cases h0 : arg0 = 0
    · have q : rowR 48 Xe0 (fun k => Mentries (48 * 0 + k)) 0 := rowR.empty he.2.2.1
      have hs : Msizes 0 = nI 0 := he.1
      have hi := alt_is arg1 q (by decide) (by decide) hs
      rw [show nI 0 = arg0 from h0.symm] at hi
      by_cases v1 : arg1 < 0
      · rw [if_pos v1] at hi
        simp (config := {decide := true}) only [gLet, if_true, if_false, hi, if_pos v1, if_pos h0]
        exact ⟨(by first | exact trivial | rfl), trivial, hR⟩
      · by_cases v2 : arg1 < Xe0.1
        · rw [if_neg v1, if_pos v2] at hi
          obtain ⟨m, hm, hx, hp⟩ := alt_R arg2 q (by decide) (by decide) (by decide) v1 v2
          exact absurd hm (Nat.not_lt_zero _)
        · rw [if_neg v1, if_neg v2] at hi
          simp (config := {decide := true}) only [gLet, if_true, if_false, hi, if_neg v1, if_neg v2, if_pos h0]
          exact ⟨(by first | exact trivial | rfl), trivial, hR⟩
    · skip
      by_cases h1 : arg0 = 1
      · have q : rowR 48 Xe1 (fun k => Mentries (48 * 1 + k)) 0 := rowR.empty he.2.2.2
        have hs : Msizes 1 = nI 0 := he.2.1
        have hi := alt_is arg1 q (by decide) (by decide) hs
        rw [show nI 1 = arg0 from h1.symm] at hi
        by_cases v1 : arg1 < 0
        · rw [if_pos v1] at hi
          simp (config := {decide := true}) only [gLet, if_true, if_false, hi, if_pos v1, if_neg h0, if_pos h1]
          exact ⟨(by first | exact trivial | rfl), trivial, hR⟩
        · by_cases v2 : arg1 < Xe1.1
          · rw [if_neg v1, if_pos v2] at hi
            obtain ⟨m, hm, hx, hp⟩ := alt_R arg2 q (by decide) (by decide) (by decide) v1 v2
            exact absurd hm (Nat.not_lt_zero _)
          · rw [if_neg v1, if_neg v2] at hi
            simp (config := {decide := true}) only [gLet, if_true, if_false, hi, if_neg v1, if_neg v2, if_neg h0, if_pos h1]
            exact ⟨(by first | exact trivial | rfl), trivial, hR⟩
      · skip
        by_cases h2 : arg0 = 2
        · have q : rowR 0 Xnoe (fun k => Mentries (48 * 2 + k)) 0 := rowR.empty hn0
          have hs : Msizes 2 = nI 0 := h20.1
          have hi := alt_is arg1 q (by decide) (by decide) hs
          rw [show nI 2 = arg0 from h2.symm] at hi
          by_cases v1 : arg1 < 0
          · rw [if_pos v1] at hi
            simp (config := {decide := true}) only [gLet, if_true, if_false, hi, if_pos v1, if_neg h0, if_neg h1]
            exact ⟨(by first | exact trivial | rfl), trivial, hR⟩
          · by_cases v2 : arg1 < Xnoe.1
            · rw [if_neg v1, if_pos v2] at hi
              obtain ⟨m, hm, hx, hp⟩ := alt_R arg2 q (by decide) (by decide) (by decide) v1 v2
              exact absurd hm (Nat.not_lt_zero _)
            · rw [if_neg v1, if_neg v2] at hi
              simp (config := {decide := true}) only [gLet, if_true, if_false, hi, if_neg v1, if_neg v2, if_neg h0, if_neg h1]
              exact ⟨(by first | exact trivial | rfl), trivial, hR⟩
        · skip
          by_cases h3 : arg0 = 3
          · have q : rowR 0 Xnoe (fun k => Mentries (48 * 3 + k)) 0 := rowR.empty hn0
            have hs : Msizes 3 = nI 0 := h20.2.1
            have hi := alt_is arg1 q (by decide) (by decide) hs
            rw [show nI 3 = arg0 from h3.symm] at hi
            by_cases v1 : arg1 < 0
            · rw [if_pos v1] at hi
              simp (config := {decide := true}) only [gLet, if_true, if_false, hi, if_pos v1, if_neg h0, if_neg h1]
              exact ⟨(by first | exact trivial | rfl), trivial, hR⟩
            · by_cases v2 : arg1 < Xnoe.1
              · rw [if_neg v1, if_pos v2] at hi
                obtain ⟨m, hm, hx, hp⟩ := alt_R arg2 q (by decide) (by decide) (by decide) v1 v2
                exact absurd hm (Nat.not_lt_zero _)
              · rw [if_neg v1, if_neg v2] at hi
                simp (config := {decide := true}) only [gLet, if_true, if_false, hi, if_neg v1, if_neg v2, if_neg h0, if_neg h1]
                exact ⟨(by first | exact trivial | rfl), trivial, hR⟩
          · skip
            by_cases h4 : arg0 = 4
            · have q : rowR 0 Xnoe (fun k => Mentries (48 * 4 + k)) 0 := rowR.empty hn0
              have hs : Msizes 4 = nI 0 := h20.2.2
              have hi := alt_is arg1 q (by decide) (by decide) hs
              rw [show nI 4 = arg0 from h4.symm] at hi
              by_cases v1 : arg1 < 0
              · rw [if_pos v1] at hi
                simp (config := {decide := true}) only [gLet, if_true, if_false, hi, if_pos v1, if_neg h0, if_neg h1]
                exact ⟨(by first | exact trivial | rfl), trivial, hR⟩
              · by_cases v2 : arg1 < Xnoe.1
                · rw [if_neg v1, if_pos v2] at hi
                  obtain ⟨m, hm, hx, hp⟩ := alt_R arg2 q (by decide) (by decide) (by decide) v1 v2
                  exact absurd hm (Nat.not_lt_zero _)
                · rw [if_neg v1, if_neg v2] at hi
                  simp (config := {decide := true}) only [gLet, if_true, if_false, hi, if_neg v1, if_neg v2, if_neg h0, if_neg h1]
                  exact ⟨(by first | exact trivial | rfl), trivial, hR⟩
            · skip
              have hx := isE_out (Ms := Msizes) (i := arg1) (i32_5 h0 h1 h2 h3 h4)
              by_cases v1 : arg1 < 0
              · simp (config := {decide := true}) only [gLet, if_true, if_false, hx, if_pos v1, if_neg h0, if_neg h1]
                exact ⟨(by first | exact trivial | rfl), trivial, hR⟩
              · have v2 : ¬ arg1 < Xnoe.1 := by rw [hn0]; exact v1
                simp (config := {decide := true}) only [gLet, if_true, if_false, hx, if_neg v1, if_neg v2, if_neg h0, if_neg h1]
                exact ⟨(by first | exact trivial | rfl), trivial, hR⟩
  · skip
    by_cases h0 : arg0 = 0
    · have q : rowR 48 Xe0 (fun k => Mentries (48 * 0 + k)) 32 := row_e0 he.2.2.1
      have hs : Msizes 0 = nI 32 := he.1
      have hi := alt_is arg1 q (by decide) (by decide) hs
      rw [show nI 0 = arg0 from h0.symm] at hi
      by_cases v1 : arg1 < 0
      · rw [if_pos v1] at hi
        simp (config := {decide := true}) only [gLet, if_true, if_false, hi, if_pos v1, if_pos h0]
        exact ⟨(by first | exact trivial | rfl), trivial, hR⟩
      · by_cases v2 : arg1 < Xe0.1
        · rw [if_neg v1, if_pos v2] at hi
          obtain ⟨m, hm, hx, hp⟩ := alt_R arg2 q (by decide) (by decide) (by decide) v1 v2
          rw [show nI 0 = arg0 from h0.symm] at hx
          have o1 : rowR 48 Xe1 (fun k => Mentries (48 * 1 + k)) 32 := he.2.2.2
          simp (config := {decide := true}) only [gLet, if_true, if_false, hi, hx, if_neg v1, if_pos v2, if_pos h0]
          exact ⟨(by first | exact trivial | rfl), trivial, (RelE_mk (RelE_rv hR) (RelE_user hR) (RelE_owner hR) (RelE_tried hR) (RelE_ident hR) (RelE_tape hR) (RelE_given hR) (RelE_perm hR) (RelE_plain hR) (Or.inr ⟨he.1, he.2.1, (row_0e hp), (row_other (w := 0) o1 (by decide) (by decide) (show m < 48 by omega))⟩) (RelE_ent2 hR) (RelE_noe hR) (Or.inl ⟨rfl, rfl⟩) (rowR.empty rfl) (Or.inl rfl) (RelE_back hR) (RelE_filt hR) (RelE_flt2 hR) (RelE_ans hR) (RelE_btape hR) (bA_upd hbe (isB_and _)) (RelE_bkey hR) (RelE_bbyt hR) (RelE_tfill hR) (RelE_tsin hR) (RelE_troot hR) (RelE_tbox hR) (RelE_tbb hR))⟩
        · rw [if_neg v1, if_neg v2] at hi
          simp (config := {decide := true}) only [gLet, if_true, if_false, hi, if_neg v1, if_neg v2, if_pos h0]
          exact ⟨(by first | exact trivial | rfl), trivial, hR⟩
    · skip
      by_cases h1 : arg0 = 1
      · have q : rowR 48 Xe1 (fun k => Mentries (48 * 1 + k)) 32 := he.2.2.2
        have hs : Msizes 1 = nI 32 := he.2.1
        have hi := alt_is arg1 q (by decide) (by decide) hs
        rw [show nI 1 = arg0 from h1.symm] at hi
        by_cases v1 : arg1 < 0
        · rw [if_pos v1] at hi
          simp (config := {decide := true}) only [gLet, if_true, if_false, hi, if_pos v1, if_neg h0, if_pos h1]
          exact ⟨(by first | exact trivial | rfl), trivial, hR⟩
        · by_cases v2 : arg1 < Xe1.1
          · rw [if_neg v1, if_pos v2] at hi
            obtain ⟨m, hm, hx, hp⟩ := alt_R arg2 q (by decide) (by decide) (by decide) v1 v2
            rw [show nI 1 = arg0 from h1.symm] at hx
            have o0 : rowR 48 Xe0 (fun k => Mentries (48 * 0 + k)) 32 := row_e0 he.2.2.1
            simp (config := {decide := true}) only [gLet, if_true, if_false, hi, hx, if_neg v1, if_pos v2, if_neg h0, if_pos h1]
            exact ⟨(by first | exact trivial | rfl), trivial, (RelE_mk (RelE_rv hR) (RelE_user hR) (RelE_owner hR) (RelE_tried hR) (RelE_ident hR) (RelE_tape hR) (RelE_given hR) (RelE_perm hR) (RelE_plain hR) (Or.inr ⟨he.1, he.2.1, (row_0e (row_other (w := 1) o0 (by decide) (by decide) (show m < 48 by omega))), hp⟩) (RelE_ent2 hR) (RelE_noe hR) (Or.inl ⟨rfl, rfl⟩) (rowR.empty rfl) (Or.inl rfl) (RelE_back hR) (RelE_filt hR) (RelE_flt2 hR) (RelE_ans hR) (RelE_btape hR) (bA_upd hbe (isB_and _)) (RelE_bkey hR) (RelE_bbyt hR) (RelE_tfill hR) (RelE_tsin hR) (RelE_troot hR) (RelE_tbox hR) (RelE_tbb hR))⟩
          · rw [if_neg v1, if_neg v2] at hi
            simp (config := {decide := true}) only [gLet, if_true, if_false, hi, if_neg v1, if_neg v2, if_neg h0, if_pos h1]
            exact ⟨(by first | exact trivial | rfl), trivial, hR⟩
      · skip
        by_cases h2 : arg0 = 2
        · have q : rowR 0 Xnoe (fun k => Mentries (48 * 2 + k)) 0 := rowR.empty hn0
          have hs : Msizes 2 = nI 0 := h20.1
          have hi := alt_is arg1 q (by decide) (by decide) hs
          rw [show nI 2 = arg0 from h2.symm] at hi
          by_cases v1 : arg1 < 0
          · rw [if_pos v1] at hi
            simp (config := {decide := true}) only [gLet, if_true, if_false, hi, if_pos v1, if_neg h0, if_neg h1]
            exact ⟨(by first | exact trivial | rfl), trivial, hR⟩
          · by_cases v2 : arg1 < Xnoe.1
            · rw [if_neg v1, if_pos v2] at hi
              obtain ⟨m, hm, hx, hp⟩ := alt_R arg2 q (by decide) (by decide) (by decide) v1 v2
              exact absurd hm (Nat.not_lt_zero _)
            · rw [if_neg v1, if_neg v2] at hi
              simp (config := {decide := true}) only [gLet, if_true, if_false, hi, if_neg v1, if_neg v2, if_neg h0, if_neg h1]
              exact ⟨(by first | exact trivial | rfl), trivial, hR⟩
        · skip
          by_cases h3 : arg0 = 3
          · have q : rowR 0 Xnoe (fun k => Mentries (48 * 3 + k)) 0 := rowR.empty hn0
            have hs : Msizes 3 = nI 0 := h20.2.1
            have hi := alt_is arg1 q (by decide) (by decide) hs
            rw [show nI 3 = arg0 from h3.symm] at hi
            by_cases v1 : arg1 < 0
            · rw [if_pos v1] at hi
              simp (config := {decide := true}) only [gLet, if_true, if_false, hi, if_pos v1, if_neg h0, if_neg h1]
              exact ⟨(by first | exact trivial | rfl), trivial, hR⟩
            · by_cases v2 : arg1 < Xnoe.1
              · rw [if_neg v1, if_pos v2] at hi
                obtain ⟨m, hm, hx, hp⟩ := alt_R arg2 q (by decide) (by decide) (by decide) v1 v2
                exact absurd hm (Nat.not_lt_zero _)
              · rw [if_neg v1, if_neg v2] at hi
                simp (config := {decide := true}) only [gLet, if_true, if_false, hi, if_neg v1, if_neg v2, if_neg h0, if_neg h1]
                exact ⟨(by first | exact trivial | rfl), trivial, hR⟩
          · skip
            by_cases h4 : arg0 = 4
            · have q : rowR 0 Xnoe (fun k => Mentries (48 * 4 + k)) 0 := rowR.empty hn0
              have hs : Msizes 4 = nI 0 := h20.2.2
              have hi := alt_is arg1 q (by decide) (by decide) hs
              rw [show nI 4 = arg0 from h4.symm] at hi
              by_cases v1 : arg1 < 0
              · rw [if_pos v1] at hi
                simp (config := {decide := true}) only [gLet, if_true, if_false, hi, if_pos v1, if_neg h0, if_neg h1]
                exact ⟨(by first | exact trivial | rfl), trivial, hR⟩
              · by_cases v2 : arg1 < Xnoe.1
                · rw [if_neg v1, if_pos v2] at hi
                  obtain ⟨m, hm, hx, hp⟩ := alt_R arg2 q (by decide) (by decide) (by decide) v1 v2
                  exact absurd hm (Nat.not_lt_zero _)
                · rw [if_neg v1, if_neg v2] at hi
                  simp (config := {decide := true}) only [gLet, if_true, if_false, hi, if_neg v1, if_neg v2, if_neg h0, if_neg h1]
                  exact ⟨(by first | exact trivial | rfl), trivial, hR⟩
            · skip
              have hx := isE_out (Ms := Msizes) (i := arg1) (i32_5 h0 h1 h2 h3 h4)
              by_cases v1 : arg1 < 0
              · simp (config := {decide := true}) only [gLet, if_true, if_false, hx, if_pos v1, if_neg h0, if_neg h1]
                exact ⟨(by first | exact trivial | rfl), trivial, hR⟩
              · have v2 : ¬ arg1 < Xnoe.1 := by rw [hn0]; exact v1
                simp (config := {decide := true}) only [gLet, if_true, if_false, hx, if_neg v1, if_neg v2, if_neg h0, if_neg h1]
                exact ⟨(by first | exact trivial | rfl), trivial, hR⟩
