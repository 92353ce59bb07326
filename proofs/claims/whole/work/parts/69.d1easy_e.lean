theorem P_apply_e {rv : Nat} {cfor : Int32} {cback : Int32} {filt : Int32} {given : Int32} {perm : Int32} {plain : Int32} {Xuser : gRow} {Xowner : gRow} {Xtried : gRow} {Xident : gRow} {Xtape : gRow} {Xsecret : gRow} {Xe0 : gRow} {Xe1 : gRow} {Xnoe : gRow} {Xcol : gRow} {Xans : gRow} {Muser : Nat → Int32} {Musers : Nat} {Mowner : Nat → Int32} {Mowners : Nat} {Mtried : Nat → Int32} {Mtries : Nat} {Mid : Nat → Int32} {Mids : Nat} {Mtape : Nat → Int32} {Mtaped : Nat} {Mtaken : Nat} {MisPlain : Int32} {Mpermissions : Int32} {Mentries : Nat → Int32} {Msizes : Nat → Int32} {Mkey : Nat → Int32} {MisOpen : Int32} {Mfilter : Int32} {Mcollected : Nat} {Mbytes : Nat → Int32} {Mobject : Int32} {MisBack : Int32} {MoutSize : Nat} {Mout : Nat → Int32} {MfillBytes : Nat → Int32} {Msines : Nat → Int32} {Mroots : Nat → Int32} {Mbox : Nat → Int32} {MbackBox : Nat → Int32} {gg : Nat → Int64} (hR : RelE rv given perm plain Xuser Xowner Xtried Xident Xtape Xsecret Xe0 Xe1 Xnoe cfor cback filt Xcol Xans Muser Musers Mowner Mowners Mtried Mtries Mid Mids Mtape Mtaped Mtaken MisPlain Mpermissions Mentries Msizes Mkey MisOpen Mfilter Mcollected Mbytes Mobject MisBack MoutSize Mout MfillBytes Msines Mroots Mbox MbackBox) (arg0 : Int32) (arg1 : Int32) (arg2 : Int32) (hbk : arg1 = 0 ∨ arg1 = 1) :
    (F_X11_apply MisOpen Mcollected Mbytes Mobject MisBack arg0 arg1 arg2).2.1 = (F_L_apply_e cfor cback Xsecret Xcol gg arg0 arg1 arg2).1 ∧ ((F_L_apply_e cfor cback Xsecret Xcol gg arg0 arg1 arg2).1 = 0 → ((F_L_apply_e cfor cback Xsecret Xcol gg arg0 arg1 arg2).2.2.2.2 (0 : Int32).toNatClampNeg) = ((F_X11_apply MisOpen Mcollected Mbytes Mobject MisBack arg0 arg1 arg2).1).toInt64) ∧ RelE rv given perm plain Xuser Xowner Xtried Xident Xtape Xsecret Xe0 Xe1 Xnoe ((F_L_apply_e cfor cback Xsecret Xcol gg arg0 arg1 arg2).2.1) ((F_L_apply_e cfor cback Xsecret Xcol gg arg0 arg1 arg2).2.2.1) filt ((F_L_apply_e cfor cback Xsecret Xcol gg arg0 arg1 arg2).2.2.2.1) Xans Muser Musers Mowner Mowners Mtried Mtries Mid Mids Mtape Mtaped Mtaken MisPlain Mpermissions Mentries Msizes Mkey MisOpen Mfilter ((F_X11_apply MisOpen Mcollected Mbytes Mobject MisBack arg0 arg1 arg2).2.2.1) ((F_X11_apply MisOpen Mcollected Mbytes Mobject MisBack arg0 arg1 arg2).2.2.2.1) ((F_X11_apply MisOpen Mcollected Mbytes Mobject MisBack arg0 arg1 arg2).2.2.2.2.1) ((F_X11_apply MisOpen Mcollected Mbytes Mobject MisBack arg0 arg1 arg2).2.2.2.2.2) MoutSize Mout MfillBytes Msines Mroots Mbox MbackBox := by
  have hu := RelE_col hR
  have hc := hu.2.1
  have hf := RelE_cfor hR
  have hio := isOpen_R (RelE_open hR)
  have hbb := RelE_bbyt hR
  have r1 : F_X5_hasRoom 400 Xcol 1 = if 400 - Mcollected < 1 then 0 else 1 := hasRoom_R (k := 1) hu (by decide) (by decide)
  have ec : F_X5_count Xcol = nI Mcollected := hu.1
  have ho := RelE_open hR
  unfold F_L_apply_e F_X10_apply_e F_X9_isOpen_e F_X11_apply
  dsimp only [gLet]
  rw [hio, r1, ec]
  by_cases h0 : MisOpen = 0
  · simp (config := {decide := true}) only [gLet, if_true, if_false, if_pos h0]
    exact ⟨(by first | exact trivial | rfl), fun h => absurd h (by decide), hR⟩
  · by_cases h1 : Mcollected = 0
    · have e1 : nI Mcollected ≤ 0 := by rw [h1]; decide
      have e2 : ¬ Mcollected = 400 := by omega
      have e3 : ¬ 400 - Mcollected < 1 := by omega
      have ha := hu.add (by decide) (by omega) (b := arg2) (v := arg2 &&& 255) rfl
      have eca : F_X5_count (F_X5_add 400 Xcol arg2) = nI (Mcollected + 1) := ha.1
      simp (config := {decide := true}) only [gLet, if_true, if_false, if_neg h0, if_pos h1, if_pos e1, if_neg e2, if_neg e3, eca]
      exact ⟨(by first | exact trivial | rfl), fun _ => updL_s _ _ _, (RelE_mk (RelE_rv hR) (RelE_user hR) (RelE_owner hR) (RelE_tried hR) (RelE_ident hR) (RelE_tape hR) (RelE_given hR) (RelE_perm hR) (RelE_plain hR) (RelE_ent hR) (RelE_ent2 hR) (RelE_noe hR) (RelE_open hR) ha (Or.inr ⟨(ho.resolve_left (fun e => h0 e.1)).1, rfl, rfl⟩) ⟨hbk, hbk⟩ (RelE_filt hR) (RelE_flt2 hR) (RelE_ans hR) (RelE_btape hR) (RelE_bent hR) (RelE_bkey hR) (bA_upd hbb (isB_and _)) (RelE_tfill hR) (RelE_tsin hR) (RelE_troot hR) (RelE_tbox hR) (RelE_tbb hR))⟩
    · have e1 : ¬ nI Mcollected ≤ 0 := nI_nle (by omega) (by omega)
      have hf2 := (hf.resolve_left h1).2
      by_cases h2 : arg0 = cfor
      · by_cases h3 : arg1 = cback
        · by_cases h4 : Mcollected = 400
          · have e3 : 400 - Mcollected < 1 := by omega
            simp (config := {decide := true}) only [gLet, if_true, if_false, if_neg h0, if_neg h1, if_neg e1, if_pos h2, if_pos h3, if_pos h4, if_pos e3, if_pos (h2.trans hf2.1), if_pos (h3.trans hf2.2)]
            exact ⟨(by first | exact trivial | rfl), fun h => absurd h (by decide), hR⟩
          · have e3 : ¬ 400 - Mcollected < 1 := by omega
            have ha := hu.add (by decide) (by omega) (b := arg2) (v := arg2 &&& 255) rfl
            have eca : F_X5_count (F_X5_add 400 Xcol arg2) = nI (Mcollected + 1) := ha.1
            simp (config := {decide := true}) only [gLet, if_true, if_false, if_neg h0, if_neg h1, if_neg e1, if_pos h2, if_pos h3, if_neg h4, if_neg e3, if_pos (h2.trans hf2.1), if_pos (h3.trans hf2.2), eca]
            exact ⟨(by first | exact trivial | rfl), fun _ => updL_s _ _ _, (RelE_mk (RelE_rv hR) (RelE_user hR) (RelE_owner hR) (RelE_tried hR) (RelE_ident hR) (RelE_tape hR) (RelE_given hR) (RelE_perm hR) (RelE_plain hR) (RelE_ent hR) (RelE_ent2 hR) (RelE_noe hR) (RelE_open hR) ha (Or.inr ⟨(ho.resolve_left (fun e => h0 e.1)).1, rfl, rfl⟩) ⟨hbk, hbk⟩ (RelE_filt hR) (RelE_flt2 hR) (RelE_ans hR) (RelE_btape hR) (RelE_bent hR) (RelE_bkey hR) (bA_upd hbb (isB_and _)) (RelE_tfill hR) (RelE_tsin hR) (RelE_troot hR) (RelE_tbox hR) (RelE_tbb hR))⟩
        · have h3m : ¬ arg1 = MisBack := fun e => h3 (e.trans hf2.2.symm)
          simp (config := {decide := true}) only [gLet, if_true, if_false, if_neg h0, if_neg h1, if_neg e1, if_pos h2, if_neg h3, if_pos (h2.trans hf2.1), if_neg h3m]
          exact ⟨(by first | exact trivial | rfl), fun h => absurd h (by decide), hR⟩
      · have h2m : ¬ arg0 = Mobject := fun e => h2 (e.trans hf2.1.symm)
        simp (config := {decide := true}) only [gLet, if_true, if_false, if_neg h0, if_neg h1, if_neg e1, if_neg h2, if_neg h2m]
        exact ⟨(by first | exact trivial | rfl), fun h => absurd h (by decide), hR⟩
theorem P_digest_e {rv : Nat} {cfor : Int32} {cback : Int32} {filt : Int32} {given : Int32} {perm : Int32} {plain : Int32} {Xuser : gRow} {Xowner : gRow} {Xtried : gRow} {Xident : gRow} {Xtape : gRow} {Xsecret : gRow} {Xe0 : gRow} {Xe1 : gRow} {Xnoe : gRow} {bksm : Nat → Int32} {stsm : Nat → Int32} {wdgr : Nat → Int32} {stgr : Nat → Int32} {Xcol : gRow} {Xans : gRow} {Muser : Nat → Int32} {Musers : Nat} {Mowner : Nat → Int32} {Mowners : Nat} {Mtried : Nat → Int32} {Mtries : Nat} {Mid : Nat → Int32} {Mids : Nat} {Mtape : Nat → Int32} {Mtaped : Nat} {Mtaken : Nat} {MisPlain : Int32} {Mpermissions : Int32} {Mentries : Nat → Int32} {Msizes : Nat → Int32} {Mkey : Nat → Int32} {MisOpen : Int32} {Mfilter : Int32} {Mcollected : Nat} {Mbytes : Nat → Int32} {Mobject : Int32} {MisBack : Int32} {MoutSize : Nat} {Mout : Nat → Int32} {Msaid : Nat} {Mmessage : Nat → Int32} {Mdigest : Nat → Int32} {Mwords : Nat → Int32} {Mh : Nat → Int32} {Mv : Nat → Int32} {MfillBytes : Nat → Int32} {Msines : Nat → Int32} {Mroots : Nat → Int32} {Mbox : Nat → Int32} {MbackBox : Nat → Int32} {gg : Nat → Int64} (hR : RelE rv given perm plain Xuser Xowner Xtried Xident Xtape Xsecret Xe0 Xe1 Xnoe cfor cback filt Xcol Xans Muser Musers Mowner Mowners Mtried Mtries Mid Mids Mtape Mtaped Mtaken MisPlain Mpermissions Mentries Msizes Mkey MisOpen Mfilter Mcollected Mbytes Mobject MisBack MoutSize Mout MfillBytes Msines Mroots Mbox MbackBox) (arg0 : Int32) :
    (F_X11_digest Mcollected Mbytes MoutSize Mout Msaid Mmessage Mdigest Mwords Mh Mv Msines Mroots arg0).2.1 = (F_L_digest_e bksm stsm wdgr stgr Xcol Xans gg arg0).1 ∧ ((F_L_digest_e bksm stsm wdgr stgr Xcol Xans gg arg0).1 = 0 → ((F_L_digest_e bksm stsm wdgr stgr Xcol Xans gg arg0).2.2.2.2.2.2 (0 : Int32).toNatClampNeg) = ((F_X11_digest Mcollected Mbytes MoutSize Mout Msaid Mmessage Mdigest Mwords Mh Mv Msines Mroots arg0).1).toInt64) ∧ RelE rv given perm plain Xuser Xowner Xtried Xident Xtape Xsecret Xe0 Xe1 Xnoe cfor cback filt Xcol ((F_L_digest_e bksm stsm wdgr stgr Xcol Xans gg arg0).2.2.2.2.2.1) Muser Musers Mowner Mowners Mtried Mtries Mid Mids Mtape Mtaped Mtaken MisPlain Mpermissions Mentries Msizes Mkey MisOpen Mfilter Mcollected Mbytes Mobject MisBack ((F_X11_digest Mcollected Mbytes MoutSize Mout Msaid Mmessage Mdigest Mwords Mh Mv Msines Mroots arg0).2.2.1) ((F_X11_digest Mcollected Mbytes MoutSize Mout Msaid Mmessage Mdigest Mwords Mh Mv Msines Mroots arg0).2.2.2.1) MfillBytes Msines Mroots Mbox MbackBox := by
  have hu := RelE_col hR
  have hc := hu.2.1
  have hm := hu.said Mmessage (by decide)
  have hmc : (F_X11_sayRow 0 Mmessage Mbytes 0 Mcollected).1 ≤ 400 := hm.2.1
  unfold F_L_digest_e F_X10_digest_e F_X11_digest
  dsimp only [gLet]
  by_cases k0 : arg0 = 0
  · subst k0
    have h6 := small_R (d := Xans) (n3 := 432) hm (by decide) (by decide) (by decide) (by omega) (RelE_tsin hR) bksm stsm Mdigest Mwords Mh
    have hb := h6.become Mout
    have ec : F_X5_count (F_X6_sum 400 432 bksm stsm Xcol Xans).2.2 = nI 16 := h6.1
    simp (config := {decide := true}) only [gLet, if_true, if_false, ec]
    exact ⟨(by first | exact trivial | rfl), fun _ => updL_s _ _ _, (RelE_mk (RelE_rv hR) (RelE_user hR) (RelE_owner hR) (RelE_tried hR) (RelE_ident hR) (RelE_tape hR) (RelE_given hR) (RelE_perm hR) (RelE_plain hR) (RelE_ent hR) (RelE_ent2 hR) (RelE_noe hR) (RelE_open hR) (RelE_col hR) (RelE_cfor hR) (RelE_back hR) (RelE_filt hR) (RelE_flt2 hR) hb (RelE_btape hR) (RelE_bent hR) (RelE_bkey hR) (RelE_bbyt hR) (RelE_tfill hR) (RelE_tsin hR) (RelE_troot hR) (RelE_tbox hR) (RelE_tbb hR))⟩
  · by_cases k1 : arg0 = 1
    · subst k1
      have h6 := great_R (d := Xans) (n3 := 432) hm (by decide) (by decide) (by decide) (by omega) (RelE_troot hR) wdgr stgr Mdigest Mwords Mh Mv
      have hb := h6.become Mout
      have ec : F_X5_count (F_X2_sum 400 432 wdgr stgr Xcol Xans).2.2 = nI 32 := h6.1
      simp (config := {decide := true}) only [gLet, if_true, if_false, ec]
      exact ⟨(by first | exact trivial | rfl), fun _ => updL_s _ _ _, (RelE_mk (RelE_rv hR) (RelE_user hR) (RelE_owner hR) (RelE_tried hR) (RelE_ident hR) (RelE_tape hR) (RelE_given hR) (RelE_perm hR) (RelE_plain hR) (RelE_ent hR) (RelE_ent2 hR) (RelE_noe hR) (RelE_open hR) (RelE_col hR) (RelE_cfor hR) (RelE_back hR) (RelE_filt hR) (RelE_flt2 hR) hb (RelE_btape hR) (RelE_bent hR) (RelE_bkey hR) (RelE_bbyt hR) (RelE_tfill hR) (RelE_tsin hR) (RelE_troot hR) (RelE_tbox hR) (RelE_tbb hR))⟩
    · rcases i32_2 k0 k1 with h | h
      · simp (config := {decide := true}) only [gLet, if_true, if_false, if_neg k0, if_neg k1, if_pos h]
        exact ⟨(by first | exact trivial | rfl), fun h => absurd h (by decide), hR⟩
      · have hng : ¬ arg0 < 0 := i32_ng1 h
        have hn1 : ¬ arg0 ≤ 1 := fun e => g_nle h e
        simp (config := {decide := true}) only [gLet, if_true, if_false, if_neg k0, if_neg k1, if_neg hng, if_neg hn1]
        exact ⟨(by first | exact trivial | rfl), fun h => absurd h (by decide), hR⟩
theorem P_key_e {rv : Nat} {cfor : Int32} {cback : Int32} {filt : Int32} {given : Int32} {perm : Int32} {plain : Int32} {Xuser : gRow} {Xowner : gRow} {Xtried : gRow} {Xident : gRow} {Xtape : gRow} {Xsecret : gRow} {Xe0 : gRow} {Xe1 : gRow} {Xnoe : gRow} {bksm : Nat → Int32} {stsm : Nat → Int32} {Xtext : gRow} {Xcol : gRow} {Xans : gRow} {Muser : Nat → Int32} {Musers : Nat} {Mowner : Nat → Int32} {Mowners : Nat} {Mtried : Nat → Int32} {Mtries : Nat} {Mid : Nat → Int32} {Mids : Nat} {Mtape : Nat → Int32} {Mtaped : Nat} {Mtaken : Nat} {MisPlain : Int32} {Mpermissions : Int32} {Mentries : Nat → Int32} {Msizes : Nat → Int32} {Mkey : Nat → Int32} {MisOpen : Int32} {Mfilter : Int32} {Mcollected : Nat} {Mbytes : Nat → Int32} {Mobject : Int32} {MisBack : Int32} {MoutSize : Nat} {Mout : Nat → Int32} {Msaid : Nat} {Mmessage : Nat → Int32} {Mdigest : Nat → Int32} {Mwords : Nat → Int32} {Mh : Nat → Int32} {MfillBytes : Nat → Int32} {Msines : Nat → Int32} {Mroots : Nat → Int32} {Mbox : Nat → Int32} {MbackBox : Nat → Int32} {gg : Nat → Int64} (hR : RelE rv given perm plain Xuser Xowner Xtried Xident Xtape Xsecret Xe0 Xe1 Xnoe cfor cback filt Xcol Xans Muser Musers Mowner Mowners Mtried Mtries Mid Mids Mtape Mtaped Mtaken MisPlain Mpermissions Mentries Msizes Mkey MisOpen Mfilter Mcollected Mbytes Mobject MisBack MoutSize Mout MfillBytes Msines Mroots Mbox MbackBox) (arg0 : Int32) (arg1 : Int32) :
    (F_X11_key_e rv Mkey MisOpen Mfilter MoutSize Mout Msaid Mmessage Mdigest Mwords Mh Msines arg0 arg1).2.1 = (F_L_key_e filt Xsecret bksm stsm Xtext Xans gg arg0 arg1).1 ∧ ((F_L_key_e filt Xsecret bksm stsm Xtext Xans gg arg0 arg1).1 = 0 → ((F_L_key_e filt Xsecret bksm stsm Xtext Xans gg arg0 arg1).2.2.2.2.2 (0 : Int32).toNatClampNeg) = ((F_X11_key_e rv Mkey MisOpen Mfilter MoutSize Mout Msaid Mmessage Mdigest Mwords Mh Msines arg0 arg1).1).toInt64) ∧ RelE rv given perm plain Xuser Xowner Xtried Xident Xtape Xsecret Xe0 Xe1 Xnoe cfor cback filt Xcol ((F_L_key_e filt Xsecret bksm stsm Xtext Xans gg arg0 arg1).2.2.2.2.1) Muser Musers Mowner Mowners Mtried Mtries Mid Mids Mtape Mtaped Mtaken MisPlain Mpermissions Mentries Msizes Mkey MisOpen Mfilter Mcollected Mbytes Mobject MisBack ((F_X11_key_e rv Mkey MisOpen Mfilter MoutSize Mout Msaid Mmessage Mdigest Mwords Mh Msines arg0 arg1).2.2.1) ((F_X11_key_e rv Mkey MisOpen Mfilter MoutSize Mout Msaid Mmessage Mdigest Mwords Mh Msines arg0 arg1).2.2.2.1) MfillBytes Msines Mroots Mbox MbackBox := by
  have hio := isOpen_R (RelE_open hR)
  obtain ⟨hf, -⟩ := RelE_filt hR
  subst hf
  have h2 := RelE_rv hR
  unfold F_L_key_e F_X10_key_e F_X9_isOpen_e F_X11_key_e
  dsimp only [gLet]
  rw [hio]
  by_cases h0 : MisOpen = 0
  · simp (config := {decide := true}) only [gLet, if_true, if_false, if_pos h0]
    exact ⟨(by first | exact trivial | rfl), fun h => absurd h (by decide), hR⟩
  · have hs := ((RelE_open hR).resolve_left (fun e => h0 e.1)).2
    by_cases h1 : filt = 2
    · have hk := objKey_R (n2 := 432) (Xtext := Xtext) (q := Xans) (Mf := filt) (fb := 1) h2 hs (by decide) (by decide) (RelE_tsin hR) ⟨fun _ => (by decide), fun _ => h1⟩ bksm stsm Msaid Mmessage Mdigest Mwords Mh arg0 arg1
      have hb := hk.become Mout
      have ec : F_X5_count (F_X1_findObjectKey 432 Xsecret bksm stsm Xtext Xans arg0 arg1 1).2.2.2 = nI (gok rv) := hk.1
      simp (config := {decide := true}) only [gLet, if_true, if_false, if_neg h0, if_pos h1, ec]
      exact ⟨(by first | exact trivial | rfl), fun _ => updL_s _ _ _, (RelE_mk (RelE_rv hR) (RelE_user hR) (RelE_owner hR) (RelE_tried hR) (RelE_ident hR) (RelE_tape hR) (RelE_given hR) (RelE_perm hR) (RelE_plain hR) (RelE_ent hR) (RelE_ent2 hR) (RelE_noe hR) (RelE_open hR) (RelE_col hR) (RelE_cfor hR) (RelE_back hR) (RelE_filt hR) (RelE_flt2 hR) hb (RelE_btape hR) (RelE_bent hR) (RelE_bkey hR) (RelE_bbyt hR) (RelE_tfill hR) (RelE_tsin hR) (RelE_troot hR) (RelE_tbox hR) (RelE_tbb hR))⟩
    · have hk := objKey_R (n2 := 432) (Xtext := Xtext) (q := Xans) (Mf := filt) (fb := 0) h2 hs (by decide) (by decide) (RelE_tsin hR) ⟨fun _ => absurd ‹_› h1, fun _ => absurd rfl ‹_›⟩ bksm stsm Msaid Mmessage Mdigest Mwords Mh arg0 arg1
      have hb := hk.become Mout
      have ec : F_X5_count (F_X1_findObjectKey 432 Xsecret bksm stsm Xtext Xans arg0 arg1 0).2.2.2 = nI (gok rv) := hk.1
      simp (config := {decide := true}) only [gLet, if_true, if_false, if_neg h0, if_neg h1, ec]
      exact ⟨(by first | exact trivial | rfl), fun _ => updL_s _ _ _, (RelE_mk (RelE_rv hR) (RelE_user hR) (RelE_owner hR) (RelE_tried hR) (RelE_ident hR) (RelE_tape hR) (RelE_given hR) (RelE_perm hR) (RelE_plain hR) (RelE_ent hR) (RelE_ent2 hR) (RelE_noe hR) (RelE_open hR) (RelE_col hR) (RelE_cfor hR) (RelE_back hR) (RelE_filt hR) (RelE_flt2 hR) hb (RelE_btape hR) (RelE_bent hR) (RelE_bkey hR) (RelE_bbyt hR) (RelE_tfill hR) (RelE_tsin hR) (RelE_troot hR) (RelE_tbox hR) (RelE_tbb hR))⟩
