theorem P_end_l {cfor : Int32} {cback : Int32} {filt : Int32} {given : Int32} {perm : Int32} {plain : Int32} {Xuser : gRow} {Xowner : gRow} {Xtried : gRow} {Xident : gRow} {Xtape : gRow} {Xsecret : gRow} {Xe0 : gRow} {Xe1 : gRow} {Xe2 : gRow} {Xe3 : gRow} {Xe4 : gRow} {Xnoe : gRow} {mxsr : Nat → Int32} {rdbl : Int32} {kybl : Nat → Int32} {clbl : Nat → Int32} {mvbl : Nat → Int32} {labl : Nat → Int32} {Xtext : gRow} {Xsum : gRow} {Xcol : gRow} {Xans : gRow} {Muser : Nat → Int32} {Musers : Nat} {Mowner : Nat → Int32} {Mowners : Nat} {Mtried : Nat → Int32} {Mtries : Nat} {Mid : Nat → Int32} {Mids : Nat} {Mtape : Nat → Int32} {Mtaped : Nat} {Mtaken : Nat} {MisPlain : Int32} {Mpermissions : Int32} {Mentries : Nat → Int32} {Msizes : Nat → Int32} {Mkey : Nat → Int32} {MisOpen : Int32} {Mfilter : Int32} {Mcollected : Nat} {Mbytes : Nat → Int32} {Mobject : Int32} {MisBack : Int32} {MoutSize : Nat} {Mout : Nat → Int32} {Msaid : Nat} {Mmessage : Nat → Int32} {Mdigest : Nat → Int32} {Mwords : Nat → Int32} {Mh : Nat → Int32} {MfillBytes : Nat → Int32} {Msines : Nat → Int32} {Mroots : Nat → Int32} {Mbox : Nat → Int32} {MbackBox : Nat → Int32} {MroundKeys : Nat → Int32} {Mrounds : Nat} {Mstate : Nat → Int32} {Mother : Nat → Int32} {Mstream : Nat → Int32} {Mwork : Nat → Int32} (hR : RelL given perm plain Xuser Xowner Xtried Xident Xtape Xsecret Xe0 Xe1 Xe2 Xe3 Xe4 Xnoe cfor cback filt Xcol Xans Muser Musers Mowner Mowners Mtried Mtries Mid Mids Mtape Mtaped Mtaken MisPlain Mpermissions Mentries Msizes Mkey MisOpen Mfilter Mcollected Mbytes Mobject MisBack MoutSize Mout MfillBytes Msines Mroots Mbox MbackBox) :
    (F_X10_end_l cback filt given Xtape Xsecret mxsr rdbl kybl clbl mvbl labl Xtext Xsum Xcol Xans).1 = (F_X11_end_l Mtape Mtaped Mtaken Mkey Mfilter Mcollected Mbytes Mobject MisBack MoutSize Mout Msaid Mmessage Mdigest Mwords Mh Msines Mbox MbackBox MroundKeys Mrounds Mstate Mother Mstream Mwork).1 ∧ True ∧ RelL ((F_X10_end_l cback filt given Xtape Xsecret mxsr rdbl kybl clbl mvbl labl Xtext Xsum Xcol Xans).2.1) perm plain Xuser Xowner Xtried Xident Xtape Xsecret Xe0 Xe1 Xe2 Xe3 Xe4 Xnoe cfor cback filt ((F_X10_end_l cback filt given Xtape Xsecret mxsr rdbl kybl clbl mvbl labl Xtext Xsum Xcol Xans).2.2.2.2.2.2.2.2.2.2.1) ((F_X10_end_l cback filt given Xtape Xsecret mxsr rdbl kybl clbl mvbl labl Xtext Xsum Xcol Xans).2.2.2.2.2.2.2.2.2.2.2) Muser Musers Mowner Mowners Mtried Mtries Mid Mids Mtape Mtaped ((F_X11_end_l Mtape Mtaped Mtaken Mkey Mfilter Mcollected Mbytes Mobject MisBack MoutSize Mout Msaid Mmessage Mdigest Mwords Mh Msines Mbox MbackBox MroundKeys Mrounds Mstate Mother Mstream Mwork).2.2.1) MisPlain Mpermissions Mentries Msizes Mkey MisOpen Mfilter ((F_X11_end_l Mtape Mtaped Mtaken Mkey Mfilter Mcollected Mbytes Mobject MisBack MoutSize Mout Msaid Mmessage Mdigest Mwords Mh Msines Mbox MbackBox MroundKeys Mrounds Mstate Mother Mstream Mwork).2.2.2.1) ((F_X11_end_l Mtape Mtaped Mtaken Mkey Mfilter Mcollected Mbytes Mobject MisBack MoutSize Mout Msaid Mmessage Mdigest Mwords Mh Msines Mbox MbackBox MroundKeys Mrounds Mstate Mother Mstream Mwork).2.2.2.2.1) Mobject MisBack ((F_X11_end_l Mtape Mtaped Mtaken Mkey Mfilter Mcollected Mbytes Mobject MisBack MoutSize Mout Msaid Mmessage Mdigest Mwords Mh Msines Mbox MbackBox MroundKeys Mrounds Mstate Mother Mstream Mwork).2.2.2.2.2.1) ((F_X11_end_l Mtape Mtaped Mtaken Mkey Mfilter Mcollected Mbytes Mobject MisBack MoutSize Mout Msaid Mmessage Mdigest Mwords Mh Msines Mbox MbackBox MroundKeys Mrounds Mstate Mother Mstream Mwork).2.2.2.2.2.2.1) MfillBytes Msines Mroots Mbox MbackBox := by
  obtain ⟨hf, hf2⟩ := RelL_filt hR
  subst hf
  have hu := RelL_col hR
  have hc := hu.2.1
  have hg := RelL_given hR
  have ht := RelL_tape hR
  have ec : F_X5_count Xcol = nI Mcollected := hu.1
  have hbB : bA 256 Mbox := fun k hk => by rw [RelL_tbox hR k hk]; exact T5_B k hk
  have hbbB : bA 256 MbackBox := fun k hk => by rw [RelL_tbb hR k hk]; exact T6_B k hk
  unfold F_X10_end_l F_X11_end_l
  rw [gLet_p, ec]
  by_cases h0 : Mcollected = 0
  · subst h0
    rw [if_pos rfl, if_pos (show nI 0 = 0 from rfl)]
    exact ⟨rfl, trivial, hR⟩
  · rw [if_neg h0, if_neg (show ¬ nI Mcollected = 0 from nI_ne0 (by omega) (by omega))]
    obtain ⟨hop, hcf, hcb⟩ := (RelL_cfor hR).resolve_left h0
    subst hcf
    subst hcb
    have hs := ((RelL_open hR).resolve_left (fun e => by rw [hop] at e; exact absurd e.1 (by decide))).2
    by_cases h2 : filt = 2
    · rw [if_pos h2, if_pos h2]
      by_cases hb0 : cback = 0
      · rw [if_pos hb0, if_pos hb0]
        obtain ⟨s1, s2⟩ := shutBlocks_l_R (Mf := filt) (Xsum := Xsum) (Xtext := Xtext) (rd := rdbl) (ky := kybl) (cl := clbl) (mv := mvbl) (la := labl) (Mout := Mout) (MoutSize := MoutSize) (said := Msaid) (msg := Mmessage) (dg := Mdigest) (wd := Mwords) (hh := Mh) (sn := Msines) (rk := MroundKeys) (rds := Mrounds) (sta := Mstate) (ot := Mother) (work := Mwork) (cfor := cfor) hg ht hs hu (RelL_tbox hR) hbB
        simp only [gLet_p]
        generalize F_X10_shutBlocks_l given Xtape Xsecret rdbl kybl clbl mvbl labl Xtext Xsum Xcol = c at s1 s2 ⊢
        generalize F_X11_encipher_l Mtape Mtaped Mtaken Mkey filt Mbytes cfor MoutSize Mout Msaid Mmessage Mdigest Mwords Mh Msines Mbox MroundKeys Mrounds Mstate Mother Mwork Mcollected = w at s1 s2 ⊢
        rcases s2 with ⟨q1, q2, q3, q4, q5⟩ | ⟨q1, q2, q3, q4⟩
        · have q0 : c.1 < 0 := by rw [q1]; decide
          rw [if_pos q0]
          exact ⟨s1, trivial, (RelL_mk (RelL_user hR) (RelL_owner hR) (RelL_tried hR) (RelL_ident hR) (RelL_tape hR) ⟨by rw [q3]; exact q2.trans hg.1, by rw [q3]; exact hg.2⟩ (RelL_perm hR) (RelL_plain hR) (RelL_ent hR) (RelL_noe hR) (RelL_open hR) (RelL_mop hR) (rowR.empty rfl) (Or.inl rfl) (RelL_back hR) (RelL_filt hR) (RelL_flt2 hR) (by rw [q4, q5]; exact RelL_ans hR) (RelL_btape hR) (RelL_bent hR) (RelL_bkey hR) (RelL_bbyt hR) (RelL_tfill hR) (RelL_tsin hR) (RelL_troot hR) (RelL_tbox hR) (RelL_tbb hR))⟩
        · rw [if_neg q1]
          have hcp := rowR.copy (n := 432) (r := Xans) q4 (by decide) (by decide) q4.2.1
          exact ⟨s1, trivial, (RelL_mk (RelL_user hR) (RelL_owner hR) (RelL_tried hR) (RelL_ident hR) (RelL_tape hR) ⟨q2, q3, hg.2.2⟩ (RelL_perm hR) (RelL_plain hR) (RelL_ent hR) (RelL_noe hR) (RelL_open hR) (RelL_mop hR) (rowR.empty rfl) (Or.inl rfl) (RelL_back hR) (RelL_filt hR) (RelL_flt2 hR) hcp (RelL_btape hR) (RelL_bent hR) (RelL_bkey hR) (RelL_bbyt hR) (RelL_tfill hR) (RelL_tsin hR) (RelL_troot hR) (RelL_tbox hR) (RelL_tbb hR))⟩
      · rw [if_neg hb0, if_neg hb0]
        obtain ⟨s1, s2⟩ := openBlocks_l_R (bk := kybl) (st := kybl) (Mf := filt) (cfor := cfor) (Xsum := Xsum) (Xtext := Xtext) (rd := rdbl) (ky := kybl) (cl := clbl) (mv := mvbl) (la := labl) (Mout := Mout) (MoutSize := MoutSize) (said := Msaid) (msg := Mmessage) (dg := Mdigest) (wd := Mwords) (hh := Mh) (sn := Msines) (rk := MroundKeys) (rds := Mrounds) (sta := Mstate) (ot := Mother) (work := Mwork) hs hu (RelL_tbox hR) hbB (RelL_tbb hR) hbbB
        simp only [gLet_p]
        generalize F_X10_openBlocks_l Xsecret rdbl kybl clbl mvbl labl Xtext Xsum Xcol = c at s1 s2 ⊢
        generalize F_X11_decipher_l Mkey filt Mbytes cfor MoutSize Mout Msaid Mmessage Mdigest Mwords Mh Msines Mbox MbackBox MroundKeys Mrounds Mstate Mother Mwork Mcollected = w at s1 s2 ⊢
        rcases s2 with ⟨q1, q4, q5⟩ | ⟨q1, q4⟩
        · rw [if_pos q1]
          exact ⟨s1, trivial, (RelL_mk (RelL_user hR) (RelL_owner hR) (RelL_tried hR) (RelL_ident hR) (RelL_tape hR) (RelL_given hR) (RelL_perm hR) (RelL_plain hR) (RelL_ent hR) (RelL_noe hR) (RelL_open hR) (RelL_mop hR) (rowR.empty rfl) (Or.inl rfl) (RelL_back hR) (RelL_filt hR) (RelL_flt2 hR) (by rw [q4, q5]; exact RelL_ans hR) (RelL_btape hR) (RelL_bent hR) (RelL_bkey hR) (RelL_bbyt hR) (RelL_tfill hR) (RelL_tsin hR) (RelL_troot hR) (RelL_tbox hR) (RelL_tbb hR))⟩
        · rw [if_neg q1]
          have hcp := rowR.copy (n := 432) (r := Xans) q4 (by decide) (by decide) q4.2.1
          exact ⟨s1, trivial, (RelL_mk (RelL_user hR) (RelL_owner hR) (RelL_tried hR) (RelL_ident hR) (RelL_tape hR) (RelL_given hR) (RelL_perm hR) (RelL_plain hR) (RelL_ent hR) (RelL_noe hR) (RelL_open hR) (RelL_mop hR) (rowR.empty rfl) (Or.inl rfl) (RelL_back hR) (RelL_filt hR) (RelL_flt2 hR) hcp (RelL_btape hR) (RelL_bent hR) (RelL_bkey hR) (RelL_bbyt hR) (RelL_tfill hR) (RelL_tsin hR) (RelL_troot hR) (RelL_tbox hR) (RelL_tbb hR))⟩
    · rw [if_neg h2, if_neg h2]
      unfold F_X10_turnBytes_l
      have h1 := RelL_flt2 hR
      rw [if_neg h1, if_neg h1]
      have hcol : rowR 432 (F_X5_copy 432 400 Xtext Xcol) Mbytes Mcollected := rowR.copy hu (by decide) (by decide) (by omega)
      simp only [gLet_p]
      generalize F_X5_copy 432 400 Xtext Xcol = u32 at hcol ⊢
      have e32 : F_X5_count u32 = nI Mcollected := hcol.1
      rw [e32, if_neg (nI_pos (by omega))]
      have hcp := rowR.copy (n := 432) (r := Xans) (hcol.become Mout) (by decide) (by decide) (by show Mcollected ≤ 432; omega)
      exact ⟨rfl, trivial, (RelL_mk (RelL_user hR) (RelL_owner hR) (RelL_tried hR) (RelL_ident hR) (RelL_tape hR) (RelL_given hR) (RelL_perm hR) (RelL_plain hR) (RelL_ent hR) (RelL_noe hR) (RelL_open hR) (RelL_mop hR) (rowR.empty rfl) (Or.inl rfl) (RelL_back hR) (RelL_filt hR) (RelL_flt2 hR) hcp (RelL_btape hR) (RelL_bent hR) (RelL_bkey hR) (RelL_bbyt hR) (RelL_tfill hR) (RelL_tsin hR) (RelL_troot hR) (RelL_tbox hR) (RelL_tbb hR))⟩
