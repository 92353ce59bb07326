theorem P_end_e {rv : Nat} {cfor : Int32} {cback : Int32} {filt : Int32} {given : Int32} {perm : Int32} {plain : Int32} {Xuser : gRow} {Xowner : gRow} {Xtried : gRow} {Xident : gRow} {Xtape : gRow} {Xsecret : gRow} {Xe0 : gRow} {Xe1 : gRow} {Xnoe : gRow} {bksm : Nat → Int32} {stsm : Nat → Int32} {mxsr : Nat → Int32} {rdbl : Int32} {kybl : Nat → Int32} {clbl : Nat → Int32} {mvbl : Nat → Int32} {labl : Nat → Int32} {Xtext : gRow} {Xsum : gRow} {Xcol : gRow} {Xans : gRow} {Muser : Nat → Int32} {Musers : Nat} {Mowner : Nat → Int32} {Mowners : Nat} {Mtried : Nat → Int32} {Mtries : Nat} {Mid : Nat → Int32} {Mids : Nat} {Mtape : Nat → Int32} {Mtaped : Nat} {Mtaken : Nat} {MisPlain : Int32} {Mpermissions : Int32} {Mentries : Nat → Int32} {Msizes : Nat → Int32} {Mkey : Nat → Int32} {MisOpen : Int32} {Mfilter : Int32} {Mcollected : Nat} {Mbytes : Nat → Int32} {Mobject : Int32} {MisBack : Int32} {MoutSize : Nat} {Mout : Nat → Int32} {Msaid : Nat} {Mmessage : Nat → Int32} {Mdigest : Nat → Int32} {Mwords : Nat → Int32} {Mh : Nat → Int32} {MfillBytes : Nat → Int32} {Msines : Nat → Int32} {Mroots : Nat → Int32} {Mbox : Nat → Int32} {MbackBox : Nat → Int32} {MroundKeys : Nat → Int32} {Mrounds : Nat} {Mstate : Nat → Int32} {Mother : Nat → Int32} {Mstream : Nat → Int32} {Mwork : Nat → Int32} (hR : RelE rv given perm plain Xuser Xowner Xtried Xident Xtape Xsecret Xe0 Xe1 Xnoe cfor cback filt Xcol Xans Muser Musers Mowner Mowners Mtried Mtries Mid Mids Mtape Mtaped Mtaken MisPlain Mpermissions Mentries Msizes Mkey MisOpen Mfilter Mcollected Mbytes Mobject MisBack MoutSize Mout MfillBytes Msines Mroots Mbox MbackBox) :
    (F_X10_end_e cfor cback filt given Xtape Xsecret bksm stsm mxsr rdbl kybl clbl mvbl labl Xtext Xsum Xcol Xans).1 = (F_X11_end_e rv Mtape Mtaped Mtaken Mkey Mfilter Mcollected Mbytes Mobject MisBack MoutSize Mout Msaid Mmessage Mdigest Mwords Mh Msines Mbox MbackBox MroundKeys Mrounds Mstate Mother Mstream Mwork).1 ∧ True ∧ RelE rv ((F_X10_end_e cfor cback filt given Xtape Xsecret bksm stsm mxsr rdbl kybl clbl mvbl labl Xtext Xsum Xcol Xans).2.1) perm plain Xuser Xowner Xtried Xident Xtape Xsecret Xe0 Xe1 Xnoe cfor cback filt ((F_X10_end_e cfor cback filt given Xtape Xsecret bksm stsm mxsr rdbl kybl clbl mvbl labl Xtext Xsum Xcol Xans).2.2.2.2.2.2.2.2.2.2.2.2.1) ((F_X10_end_e cfor cback filt given Xtape Xsecret bksm stsm mxsr rdbl kybl clbl mvbl labl Xtext Xsum Xcol Xans).2.2.2.2.2.2.2.2.2.2.2.2.2) Muser Musers Mowner Mowners Mtried Mtries Mid Mids Mtape Mtaped ((F_X11_end_e rv Mtape Mtaped Mtaken Mkey Mfilter Mcollected Mbytes Mobject MisBack MoutSize Mout Msaid Mmessage Mdigest Mwords Mh Msines Mbox MbackBox MroundKeys Mrounds Mstate Mother Mstream Mwork).2.2.1) MisPlain Mpermissions Mentries Msizes Mkey MisOpen Mfilter ((F_X11_end_e rv Mtape Mtaped Mtaken Mkey Mfilter Mcollected Mbytes Mobject MisBack MoutSize Mout Msaid Mmessage Mdigest Mwords Mh Msines Mbox MbackBox MroundKeys Mrounds Mstate Mother Mstream Mwork).2.2.2.1) ((F_X11_end_e rv Mtape Mtaped Mtaken Mkey Mfilter Mcollected Mbytes Mobject MisBack MoutSize Mout Msaid Mmessage Mdigest Mwords Mh Msines Mbox MbackBox MroundKeys Mrounds Mstate Mother Mstream Mwork).2.2.2.2.1) Mobject MisBack ((F_X11_end_e rv Mtape Mtaped Mtaken Mkey Mfilter Mcollected Mbytes Mobject MisBack MoutSize Mout Msaid Mmessage Mdigest Mwords Mh Msines Mbox MbackBox MroundKeys Mrounds Mstate Mother Mstream Mwork).2.2.2.2.2.1) ((F_X11_end_e rv Mtape Mtaped Mtaken Mkey Mfilter Mcollected Mbytes Mobject MisBack MoutSize Mout Msaid Mmessage Mdigest Mwords Mh Msines Mbox MbackBox MroundKeys Mrounds Mstate Mother Mstream Mwork).2.2.2.2.2.2.1) MfillBytes Msines Mroots Mbox MbackBox := by
  obtain ⟨hf, hf2⟩ := RelE_filt hR
  subst hf
  have hu := RelE_col hR
  have hc := hu.2.1
  have hg := RelE_given hR
  have ht := RelE_tape hR
  have ec : F_X5_count Xcol = nI Mcollected := hu.1
  have hbB : bA 256 Mbox := fun k hk => by rw [RelE_tbox hR k hk]; exact T5_B k hk
  have hbbB : bA 256 MbackBox := fun k hk => by rw [RelE_tbb hR k hk]; exact T6_B k hk
  unfold F_X10_end_e F_X11_end_e
  rw [gLet_p, ec]
  by_cases h0 : Mcollected = 0
  · subst h0
    rw [if_pos rfl, if_pos (show nI 0 = 0 from rfl)]
    exact ⟨rfl, trivial, hR⟩
  · rw [if_neg h0, if_neg (show ¬ nI Mcollected = 0 from nI_ne0 (by omega) (by omega))]
    obtain ⟨hop, hcf, hcb⟩ := (RelE_cfor hR).resolve_left h0
    subst hcf
    subst hcb
    have hs := ((RelE_open hR).resolve_left (fun e => by rw [hop] at e; exact absurd e.1 (by decide))).2
    by_cases h2 : filt = 2
    · rw [if_pos h2, if_pos h2]
      obtain rfl : rv = 4 := RelE_flt2 hR h2
      by_cases hb0 : cback = 0
      · rw [if_pos hb0, if_pos hb0]
        obtain ⟨s1, s2⟩ := shutBlocks_e_R (bk := bksm) (st := stsm) (Mf := filt) (Xsum := Xsum) (Xtext := Xtext) (rd := rdbl) (ky := kybl) (cl := clbl) (mv := mvbl) (la := labl) (Mout := Mout) (MoutSize := MoutSize) (said := Msaid) (msg := Mmessage) (dg := Mdigest) (wd := Mwords) (hh := Mh) (sn := Msines) (rk := MroundKeys) (rds := Mrounds) (sta := Mstate) (ot := Mother) (work := Mwork) (cfor := cfor) hg ht hs hu (RelE_tsin hR) (RelE_tbox hR) hbB h2
        simp only [gLet_p]
        generalize F_X10_shutBlocks_e cfor given Xtape Xsecret bksm stsm rdbl kybl clbl mvbl labl Xtext Xsum Xcol = c at s1 s2 ⊢
        generalize F_X11_encipher_e 4 Mtape Mtaped Mtaken Mkey filt Mbytes cfor MoutSize Mout Msaid Mmessage Mdigest Mwords Mh Msines Mbox MroundKeys Mrounds Mstate Mother Mwork Mcollected = w at s1 s2 ⊢
        rcases s2 with ⟨q1, q2, q3, q4, q5⟩ | ⟨q1, q2, q3, q4⟩
        · have q0 : c.1 < 0 := by rw [q1]; decide
          rw [if_pos q0]
          exact ⟨s1, trivial, (RelE_mk (RelE_rv hR) (RelE_user hR) (RelE_owner hR) (RelE_tried hR) (RelE_ident hR) (RelE_tape hR) ⟨by rw [q3]; exact q2.trans hg.1, by rw [q3]; exact hg.2⟩ (RelE_perm hR) (RelE_plain hR) (RelE_ent hR) (RelE_ent2 hR) (RelE_noe hR) (RelE_open hR) (rowR.empty rfl) (Or.inl rfl) (RelE_back hR) (RelE_filt hR) (RelE_flt2 hR) (by rw [q4, q5]; exact RelE_ans hR) (RelE_btape hR) (RelE_bent hR) (RelE_bkey hR) (RelE_bbyt hR) (RelE_tfill hR) (RelE_tsin hR) (RelE_troot hR) (RelE_tbox hR) (RelE_tbb hR))⟩
        · rw [if_neg q1]
          have hcp := rowR.copy (n := 432) (r := Xans) q4 (by decide) (by decide) q4.2.1
          exact ⟨s1, trivial, (RelE_mk (RelE_rv hR) (RelE_user hR) (RelE_owner hR) (RelE_tried hR) (RelE_ident hR) (RelE_tape hR) ⟨q2, q3, hg.2.2⟩ (RelE_perm hR) (RelE_plain hR) (RelE_ent hR) (RelE_ent2 hR) (RelE_noe hR) (RelE_open hR) (rowR.empty rfl) (Or.inl rfl) (RelE_back hR) (RelE_filt hR) (RelE_flt2 hR) hcp (RelE_btape hR) (RelE_bent hR) (RelE_bkey hR) (RelE_bbyt hR) (RelE_tfill hR) (RelE_tsin hR) (RelE_troot hR) (RelE_tbox hR) (RelE_tbb hR))⟩
      · rw [if_neg hb0, if_neg hb0]
        obtain ⟨s1, s2⟩ := openBlocks_e_R (bk := bksm) (st := stsm) (Mf := filt) (cfor := cfor) (Xsum := Xsum) (Xtext := Xtext) (rd := rdbl) (ky := kybl) (cl := clbl) (mv := mvbl) (la := labl) (Mout := Mout) (MoutSize := MoutSize) (said := Msaid) (msg := Mmessage) (dg := Mdigest) (wd := Mwords) (hh := Mh) (sn := Msines) (rk := MroundKeys) (rds := Mrounds) (sta := Mstate) (ot := Mother) (work := Mwork) hs hu (RelE_tsin hR) (RelE_tbox hR) hbB (RelE_tbb hR) hbbB h2
        simp only [gLet_p]
        generalize F_X10_openBlocks_e cfor Xsecret bksm stsm rdbl kybl clbl mvbl labl Xtext Xsum Xcol = c at s1 s2 ⊢
        generalize F_X11_decipher_e 4 Mkey filt Mbytes cfor MoutSize Mout Msaid Mmessage Mdigest Mwords Mh Msines Mbox MbackBox MroundKeys Mrounds Mstate Mother Mwork Mcollected = w at s1 s2 ⊢
        rcases s2 with ⟨q1, q4, q5⟩ | ⟨q1, q4⟩
        · rw [if_pos q1]
          exact ⟨s1, trivial, (RelE_mk (RelE_rv hR) (RelE_user hR) (RelE_owner hR) (RelE_tried hR) (RelE_ident hR) (RelE_tape hR) (RelE_given hR) (RelE_perm hR) (RelE_plain hR) (RelE_ent hR) (RelE_ent2 hR) (RelE_noe hR) (RelE_open hR) (rowR.empty rfl) (Or.inl rfl) (RelE_back hR) (RelE_filt hR) (RelE_flt2 hR) (by rw [q4, q5]; exact RelE_ans hR) (RelE_btape hR) (RelE_bent hR) (RelE_bkey hR) (RelE_bbyt hR) (RelE_tfill hR) (RelE_tsin hR) (RelE_troot hR) (RelE_tbox hR) (RelE_tbb hR))⟩
        · rw [if_neg q1]
          have hcp := rowR.copy (n := 432) (r := Xans) q4 (by decide) (by decide) q4.2.1
          exact ⟨s1, trivial, (RelE_mk (RelE_rv hR) (RelE_user hR) (RelE_owner hR) (RelE_tried hR) (RelE_ident hR) (RelE_tape hR) (RelE_given hR) (RelE_perm hR) (RelE_plain hR) (RelE_ent hR) (RelE_ent2 hR) (RelE_noe hR) (RelE_open hR) (rowR.empty rfl) (Or.inl rfl) (RelE_back hR) (RelE_filt hR) (RelE_flt2 hR) hcp (RelE_btape hR) (RelE_bent hR) (RelE_bkey hR) (RelE_bbyt hR) (RelE_tfill hR) (RelE_tsin hR) (RelE_troot hR) (RelE_tbox hR) (RelE_tbb hR))⟩
    · rw [if_neg h2, if_neg h2]
      unfold F_X10_turnBytes_e
      by_cases h1 : filt = 1
      · rw [if_pos h1, if_pos h1]
        have hk := objKey_R (n2 := 32) (Xtext := Xtext) (q := Xsum) (Mf := filt) (fb := 0) (RelE_rv hR) hs (by decide) (by decide) (RelE_tsin hR) ⟨fun e => absurd e h2, fun e => absurd rfl e⟩ bksm stsm Msaid Mmessage Mdigest Mwords Mh cfor 0
        simp only [gLet_p]
        generalize F_X1_findObjectKey 32 Xsecret bksm stsm Xtext Xsum cfor 0 0 = u37 at hk ⊢
        generalize (F_X11_objectKey rv Mkey filt Msaid Mmessage Mdigest Mwords Mh Msines cfor 0).2 = u49 at hk ⊢
        have hcol : rowR 432 (F_X5_copy 432 400 u37.2.2.1 Xcol) (fun t => Mbytes (0 + t)) Mcollected := (rowR.copy hu (by decide) (by decide) (by omega)).congr (fun k _ => by rw [Nat.zero_add])
        obtain ⟨s1, s2⟩ := stream_R (mx := mxsr) (st := Mstream) (size := gok rv) (wv := 0) hk (by decide) (gok_le rv).1 isB_0 hcol (by decide)
        generalize F_X7_turn 32 432 mxsr u37.2.2.2 (F_X5_copy 432 400 u37.2.2.1 Xcol) 0 = u42 at s1 ⊢
        generalize F_X11_throughStream Mstream u49.2.2.1 Mbytes (gok rv) 0 0 Mcollected = u52 at s1 s2 ⊢
        have s3 : rowR 432 u42.2 u52.2 Mcollected := s1.congr (fun k _ => by rw [Nat.zero_add])
        have e42 : F_X5_count u42.2 = nI Mcollected := s3.1
        rw [e42, if_neg (nI_pos (by omega))]
        have hcp := rowR.copy (n := 432) (r := Xans) (s3.become Mout) (by decide) (by decide) (by show Mcollected ≤ 432; omega)
        exact ⟨rfl, trivial, (RelE_mk (RelE_rv hR) (RelE_user hR) (RelE_owner hR) (RelE_tried hR) (RelE_ident hR) (RelE_tape hR) (RelE_given hR) (RelE_perm hR) (RelE_plain hR) (RelE_ent hR) (RelE_ent2 hR) (RelE_noe hR) (RelE_open hR) (rowR.empty rfl) (Or.inl rfl) (RelE_back hR) (RelE_filt hR) (RelE_flt2 hR) hcp (RelE_btape hR) (RelE_bent hR) (RelE_bkey hR) (fun k hk => by by_cases hk2 : k < Mcollected; exact s3.byt hk2; rw [s2 k (by omega)]; exact RelE_bbyt hR k hk) (RelE_tfill hR) (RelE_tsin hR) (RelE_troot hR) (RelE_tbox hR) (RelE_tbb hR))⟩
      · rw [if_neg h1, if_neg h1]
        have hcol : rowR 432 (F_X5_copy 432 400 Xtext Xcol) Mbytes Mcollected := rowR.copy hu (by decide) (by decide) (by omega)
        simp only [gLet_p]
        generalize F_X5_copy 432 400 Xtext Xcol = u32 at hcol ⊢
        have e32 : F_X5_count u32 = nI Mcollected := hcol.1
        rw [e32, if_neg (nI_pos (by omega))]
        have hcp := rowR.copy (n := 432) (r := Xans) (hcol.become Mout) (by decide) (by decide) (by show Mcollected ≤ 432; omega)
        exact ⟨rfl, trivial, (RelE_mk (RelE_rv hR) (RelE_user hR) (RelE_owner hR) (RelE_tried hR) (RelE_ident hR) (RelE_tape hR) (RelE_given hR) (RelE_perm hR) (RelE_plain hR) (RelE_ent hR) (RelE_ent2 hR) (RelE_noe hR) (RelE_open hR) (rowR.empty rfl) (Or.inl rfl) (RelE_back hR) (RelE_filt hR) (RelE_flt2 hR) hcp (RelE_btape hR) (RelE_bent hR) (RelE_bkey hR) (RelE_bbyt hR) (RelE_tfill hR) (RelE_tsin hR) (RelE_troot hR) (RelE_tbox hR) (RelE_tbb hR))⟩
