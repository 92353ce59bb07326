/-! word, id, tape, metadata -/
theorem P_word_l {cfor : Int32} {cback : Int32} {filt : Int32} {given : Int32} {perm : Int32} {plain : Int32} {Xuser : gRow} {Xowner : gRow} {Xtried : gRow} {Xident : gRow} {Xtape : gRow} {Xsecret : gRow} {Xe0 : gRow} {Xe1 : gRow} {Xe2 : gRow} {Xe3 : gRow} {Xe4 : gRow} {Xnoe : gRow} {Xcol : gRow} {Xans : gRow} {Muser : Nat → Int32} {Musers : Nat} {Mowner : Nat → Int32} {Mowners : Nat} {Mtried : Nat → Int32} {Mtries : Nat} {Mid : Nat → Int32} {Mids : Nat} {Mtape : Nat → Int32} {Mtaped : Nat} {Mtaken : Nat} {MisPlain : Int32} {Mpermissions : Int32} {Mentries : Nat → Int32} {Msizes : Nat → Int32} {Mkey : Nat → Int32} {MisOpen : Int32} {Mfilter : Int32} {Mcollected : Nat} {Mbytes : Nat → Int32} {Mobject : Int32} {MisBack : Int32} {MoutSize : Nat} {Mout : Nat → Int32} {MfillBytes : Nat → Int32} {Msines : Nat → Int32} {Mroots : Nat → Int32} {Mbox : Nat → Int32} {MbackBox : Nat → Int32} {gg : Nat → Int64} (hR : RelL given perm plain Xuser Xowner Xtried Xident Xtape Xsecret Xe0 Xe1 Xe2 Xe3 Xe4 Xnoe cfor cback filt Xcol Xans Muser Musers Mowner Mowners Mtried Mtries Mid Mids Mtape Mtaped Mtaken MisPlain Mpermissions Mentries Msizes Mkey MisOpen Mfilter Mcollected Mbytes Mobject MisBack MoutSize Mout MfillBytes Msines Mroots Mbox MbackBox) (arg0 : Int32) (arg1 : Int32) :
    (F_X11_word Muser Musers Mowner Mowners arg0 arg1).2.1 = (F_L_word_l Xuser Xowner gg arg0 arg1).1 ∧ ((F_L_word_l Xuser Xowner gg arg0 arg1).1 = 0 → ((F_L_word_l Xuser Xowner gg arg0 arg1).2.2.2 (0 : Int32).toNatClampNeg) = ((F_X11_word Muser Musers Mowner Mowners arg0 arg1).1).toInt64) ∧ RelL given perm plain ((F_L_word_l Xuser Xowner gg arg0 arg1).2.1) ((F_L_word_l Xuser Xowner gg arg0 arg1).2.2.1) Xtried Xident Xtape Xsecret Xe0 Xe1 Xe2 Xe3 Xe4 Xnoe cfor cback filt Xcol Xans ((F_X11_word Muser Musers Mowner Mowners arg0 arg1).2.2.1) ((F_X11_word Muser Musers Mowner Mowners arg0 arg1).2.2.2.1) ((F_X11_word Muser Musers Mowner Mowners arg0 arg1).2.2.2.2.1) ((F_X11_word Muser Musers Mowner Mowners arg0 arg1).2.2.2.2.2) Mtried Mtries Mid Mids Mtape Mtaped Mtaken MisPlain Mpermissions Mentries Msizes Mkey MisOpen Mfilter Mcollected Mbytes Mobject MisBack MoutSize Mout MfillBytes Msines Mroots Mbox MbackBox := by
  have hu := RelL_user hR
  have ho := RelL_owner hR
  have r1 : F_X5_hasRoom 127 Xuser 1 = if 127 - Musers < 1 then 0 else 1 := hasRoom_R (k := 1) hu (by decide) (by decide)
  have r2 : F_X5_hasRoom 127 Xowner 1 = if 127 - Mowners < 1 then 0 else 1 := hasRoom_R (k := 1) ho (by decide) (by decide)
  unfold F_L_word_l F_X10_word_l F_X11_word
  dsimp only [gLet]
  rw [r1, r2]
  by_cases h0 : arg1 = 0
  · by_cases h1 : Musers = 127
    · have h2 : 127 - Musers < 1 := by omega
      simp (config := {decide := true}) only [gLet, if_true, if_false, if_pos h0, if_pos h1, if_pos h2]
      exact ⟨(by first | exact trivial | rfl), fun h => absurd h (by decide), hR⟩
    · have h2 : ¬ 127 - Musers < 1 := by have := hu.2.1; omega
      have ha := hu.add (by decide) (by have := hu.2.1; omega) (b := arg0) (v := arg0 &&& 255) rfl
      simp (config := {decide := true}) only [gLet, if_true, if_false, if_pos h0, if_neg h1, if_neg h2]
      exact ⟨(by first | exact trivial | rfl), fun _ => (updL_s _ _ _).trans (congrArg Int32.toInt64 ha.cnt), (RelL_mk ha (RelL_owner hR) (RelL_tried hR) (RelL_ident hR) (RelL_tape hR) (RelL_given hR) (RelL_perm hR) (RelL_plain hR) (RelL_ent hR) (RelL_noe hR) (RelL_open hR) (RelL_mop hR) (RelL_col hR) (RelL_cfor hR) (RelL_back hR) (RelL_filt hR) (RelL_flt2 hR) (RelL_ans hR) (RelL_btape hR) (RelL_bent hR) (RelL_bkey hR) (RelL_bbyt hR) (RelL_tfill hR) (RelL_tsin hR) (RelL_troot hR) (RelL_tbox hR) (RelL_tbb hR))⟩
  · by_cases h1 : Mowners = 127
    · have h2 : 127 - Mowners < 1 := by omega
      simp (config := {decide := true}) only [gLet, if_true, if_false, if_neg h0, if_pos h1, if_pos h2]
      exact ⟨(by first | exact trivial | rfl), fun h => absurd h (by decide), hR⟩
    · have h2 : ¬ 127 - Mowners < 1 := by have := ho.2.1; omega
      have ha := ho.add (by decide) (by have := ho.2.1; omega) (b := arg0) (v := arg0 &&& 255) rfl
      simp (config := {decide := true}) only [gLet, if_true, if_false, if_neg h0, if_neg h1, if_neg h2]
      exact ⟨(by first | exact trivial | rfl), fun _ => (updL_s _ _ _).trans (congrArg Int32.toInt64 ha.cnt), (RelL_mk (RelL_user hR) ha (RelL_tried hR) (RelL_ident hR) (RelL_tape hR) (RelL_given hR) (RelL_perm hR) (RelL_plain hR) (RelL_ent hR) (RelL_noe hR) (RelL_open hR) (RelL_mop hR) (RelL_col hR) (RelL_cfor hR) (RelL_back hR) (RelL_filt hR) (RelL_flt2 hR) (RelL_ans hR) (RelL_btape hR) (RelL_bent hR) (RelL_bkey hR) (RelL_bbyt hR) (RelL_tfill hR) (RelL_tsin hR) (RelL_troot hR) (RelL_tbox hR) (RelL_tbb hR))⟩
theorem P_id_l {cfor : Int32} {cback : Int32} {filt : Int32} {given : Int32} {perm : Int32} {plain : Int32} {Xuser : gRow} {Xowner : gRow} {Xtried : gRow} {Xident : gRow} {Xtape : gRow} {Xsecret : gRow} {Xe0 : gRow} {Xe1 : gRow} {Xe2 : gRow} {Xe3 : gRow} {Xe4 : gRow} {Xnoe : gRow} {Xcol : gRow} {Xans : gRow} {Muser : Nat → Int32} {Musers : Nat} {Mowner : Nat → Int32} {Mowners : Nat} {Mtried : Nat → Int32} {Mtries : Nat} {Mid : Nat → Int32} {Mids : Nat} {Mtape : Nat → Int32} {Mtaped : Nat} {Mtaken : Nat} {MisPlain : Int32} {Mpermissions : Int32} {Mentries : Nat → Int32} {Msizes : Nat → Int32} {Mkey : Nat → Int32} {MisOpen : Int32} {Mfilter : Int32} {Mcollected : Nat} {Mbytes : Nat → Int32} {Mobject : Int32} {MisBack : Int32} {MoutSize : Nat} {Mout : Nat → Int32} {MfillBytes : Nat → Int32} {Msines : Nat → Int32} {Mroots : Nat → Int32} {Mbox : Nat → Int32} {MbackBox : Nat → Int32} (hR : RelL given perm plain Xuser Xowner Xtried Xident Xtape Xsecret Xe0 Xe1 Xe2 Xe3 Xe4 Xnoe cfor cback filt Xcol Xans Muser Musers Mowner Mowners Mtried Mtries Mid Mids Mtape Mtaped Mtaken MisPlain Mpermissions Mentries Msizes Mkey MisOpen Mfilter Mcollected Mbytes Mobject MisBack MoutSize Mout MfillBytes Msines Mroots Mbox MbackBox) (arg0 : Int32) :
    (F_X11_id Mid Mids arg0).1 = (F_L_id_l Xident arg0).1 ∧ True ∧ RelL given perm plain Xuser Xowner Xtried ((F_L_id_l Xident arg0).2) Xtape Xsecret Xe0 Xe1 Xe2 Xe3 Xe4 Xnoe cfor cback filt Xcol Xans Muser Musers Mowner Mowners Mtried Mtries ((F_X11_id Mid Mids arg0).2.1) ((F_X11_id Mid Mids arg0).2.2) Mtape Mtaped Mtaken MisPlain Mpermissions Mentries Msizes Mkey MisOpen Mfilter Mcollected Mbytes Mobject MisBack MoutSize Mout MfillBytes Msines Mroots Mbox MbackBox := by
  have hu := RelL_ident hR
  have r1 : F_X5_hasRoom 32 Xident 1 = if 32 - Mids < 1 then 0 else 1 := hasRoom_R (k := 1) hu (by decide) (by decide)
  unfold F_L_id_l F_X10_id_l F_X11_id
  dsimp only [gLet]
  rw [r1]
  by_cases h1 : Mids = 32
  · have h2 : 32 - Mids < 1 := by omega
    simp (config := {decide := true}) only [gLet, if_true, if_false, if_pos h1, if_pos h2]
    exact ⟨(by first | exact trivial | rfl), trivial, hR⟩
  · have h2 : ¬ 32 - Mids < 1 := by have := hu.2.1; omega
    have ha := hu.add (by decide) (by have := hu.2.1; omega) (b := arg0) (v := arg0 &&& 255) rfl
    simp (config := {decide := true}) only [gLet, if_true, if_false, if_neg h1, if_neg h2]
    exact ⟨(by first | exact trivial | rfl), trivial, (RelL_mk (RelL_user hR) (RelL_owner hR) (RelL_tried hR) ha (RelL_tape hR) (RelL_given hR) (RelL_perm hR) (RelL_plain hR) (RelL_ent hR) (RelL_noe hR) (RelL_open hR) (RelL_mop hR) (RelL_col hR) (RelL_cfor hR) (RelL_back hR) (RelL_filt hR) (RelL_flt2 hR) (RelL_ans hR) (RelL_btape hR) (RelL_bent hR) (RelL_bkey hR) (RelL_bbyt hR) (RelL_tfill hR) (RelL_tsin hR) (RelL_troot hR) (RelL_tbox hR) (RelL_tbb hR))⟩
theorem P_tape_l {cfor : Int32} {cback : Int32} {filt : Int32} {given : Int32} {perm : Int32} {plain : Int32} {Xuser : gRow} {Xowner : gRow} {Xtried : gRow} {Xident : gRow} {Xtape : gRow} {Xsecret : gRow} {Xe0 : gRow} {Xe1 : gRow} {Xe2 : gRow} {Xe3 : gRow} {Xe4 : gRow} {Xnoe : gRow} {Xcol : gRow} {Xans : gRow} {Muser : Nat → Int32} {Musers : Nat} {Mowner : Nat → Int32} {Mowners : Nat} {Mtried : Nat → Int32} {Mtries : Nat} {Mid : Nat → Int32} {Mids : Nat} {Mtape : Nat → Int32} {Mtaped : Nat} {Mtaken : Nat} {MisPlain : Int32} {Mpermissions : Int32} {Mentries : Nat → Int32} {Msizes : Nat → Int32} {Mkey : Nat → Int32} {MisOpen : Int32} {Mfilter : Int32} {Mcollected : Nat} {Mbytes : Nat → Int32} {Mobject : Int32} {MisBack : Int32} {MoutSize : Nat} {Mout : Nat → Int32} {MfillBytes : Nat → Int32} {Msines : Nat → Int32} {Mroots : Nat → Int32} {Mbox : Nat → Int32} {MbackBox : Nat → Int32} {gg : Nat → Int64} (hR : RelL given perm plain Xuser Xowner Xtried Xident Xtape Xsecret Xe0 Xe1 Xe2 Xe3 Xe4 Xnoe cfor cback filt Xcol Xans Muser Musers Mowner Mowners Mtried Mtries Mid Mids Mtape Mtaped Mtaken MisPlain Mpermissions Mentries Msizes Mkey MisOpen Mfilter Mcollected Mbytes Mobject MisBack MoutSize Mout MfillBytes Msines Mroots Mbox MbackBox) (arg0 : Int32) :
    (F_X11_tape Mtape Mtaped arg0).2.1 = (F_L_tape_l Xtape gg arg0).1 ∧ ((F_L_tape_l Xtape gg arg0).1 = 0 → ((F_L_tape_l Xtape gg arg0).2.2 (0 : Int32).toNatClampNeg) = ((F_X11_tape Mtape Mtaped arg0).1).toInt64) ∧ RelL given perm plain Xuser Xowner Xtried Xident ((F_L_tape_l Xtape gg arg0).2.1) Xsecret Xe0 Xe1 Xe2 Xe3 Xe4 Xnoe cfor cback filt Xcol Xans Muser Musers Mowner Mowners Mtried Mtries Mid Mids ((F_X11_tape Mtape Mtaped arg0).2.2.1) ((F_X11_tape Mtape Mtaped arg0).2.2.2) Mtaken MisPlain Mpermissions Mentries Msizes Mkey MisOpen Mfilter Mcollected Mbytes Mobject MisBack MoutSize Mout MfillBytes Msines Mroots Mbox MbackBox := by
  have hu := RelL_tape hR
  have hc := hu.2.1
  have r1 : F_X5_hasRoom 400 Xtape 4 = if 400 - Mtaped < 4 then 0 else 1 := hasRoom_R (k := 4) hu (by decide) (by decide)
  unfold F_L_tape_l F_X10_tape_l F_X11_tape
  dsimp only [gLet]
  rw [r1]
  by_cases h1 : Mtaped + 4 ≤ 400
  · have h2 : ¬ 400 - Mtaped < 4 := by omega
    have a1 := hu.add (by decide) (by omega) (b := g_us arg0 24) (v := (arg0 >>> (24 &&& 31)) &&& 255) (shr8 arg0 3 (by decide))
    have a2 := a1.add (by decide) (by omega) (b := g_us arg0 16) (v := (arg0 >>> (16 &&& 31)) &&& 255) (shr8 arg0 2 (by decide))
    have a3 := a2.add (by decide) (by omega) (b := g_us arg0 8) (v := (arg0 >>> (8 &&& 31)) &&& 255) (shr8 arg0 1 (by decide))
    have a4 := a3.add (by decide) (by omega) (b := g_us arg0 0) (v := (arg0 >>> (0 &&& 31)) &&& 255) (shr8 arg0 0 (by decide))
    have hb := RelL_btape hR
    have bt : bA 400 (upd (upd (upd (upd Mtape Mtaped ((arg0 >>> (24 &&& 31)) &&& 255)) (Mtaped + 1) ((arg0 >>> (16 &&& 31)) &&& 255)) ((Mtaped + 1) + 1) ((arg0 >>> (8 &&& 31)) &&& 255)) (((Mtaped + 1) + 1) + 1) ((arg0 >>> (0 &&& 31)) &&& 255)) := bA_upd (bA_upd (bA_upd (bA_upd hb (isB_and _)) (isB_and _)) (isB_and _)) (isB_and _)
    have hg := RelL_given hR
    simp (config := {decide := true}) only [gLet, if_true, if_false, if_pos h1, if_neg h2]
    exact ⟨(by first | exact trivial | rfl), fun _ => (updL_s _ _ _).trans (congrArg Int32.toInt64 a4.cnt), (RelL_mk (RelL_user hR) (RelL_owner hR) (RelL_tried hR) (RelL_ident hR) a4 ⟨hg.1, by omega, by omega⟩ (RelL_perm hR) (RelL_plain hR) (RelL_ent hR) (RelL_noe hR) (RelL_open hR) (RelL_mop hR) (RelL_col hR) (RelL_cfor hR) (RelL_back hR) (RelL_filt hR) (RelL_flt2 hR) (RelL_ans hR) bt (RelL_bent hR) (RelL_bkey hR) (RelL_bbyt hR) (RelL_tfill hR) (RelL_tsin hR) (RelL_troot hR) (RelL_tbox hR) (RelL_tbb hR))⟩
  · have h2 : 400 - Mtaped < 4 := by omega
    simp (config := {decide := true}) only [gLet, if_true, if_false, if_neg h1, if_pos h2]
    exact ⟨(by first | exact trivial | rfl), fun h => absurd h (by decide), hR⟩
theorem P_metadata_l {cfor : Int32} {cback : Int32} {filt : Int32} {given : Int32} {perm : Int32} {plain : Int32} {Xuser : gRow} {Xowner : gRow} {Xtried : gRow} {Xident : gRow} {Xtape : gRow} {Xsecret : gRow} {Xe0 : gRow} {Xe1 : gRow} {Xe2 : gRow} {Xe3 : gRow} {Xe4 : gRow} {Xnoe : gRow} {Xcol : gRow} {Xans : gRow} {Muser : Nat → Int32} {Musers : Nat} {Mowner : Nat → Int32} {Mowners : Nat} {Mtried : Nat → Int32} {Mtries : Nat} {Mid : Nat → Int32} {Mids : Nat} {Mtape : Nat → Int32} {Mtaped : Nat} {Mtaken : Nat} {MisPlain : Int32} {Mpermissions : Int32} {Mentries : Nat → Int32} {Msizes : Nat → Int32} {Mkey : Nat → Int32} {MisOpen : Int32} {Mfilter : Int32} {Mcollected : Nat} {Mbytes : Nat → Int32} {Mobject : Int32} {MisBack : Int32} {MoutSize : Nat} {Mout : Nat → Int32} {MfillBytes : Nat → Int32} {Msines : Nat → Int32} {Mroots : Nat → Int32} {Mbox : Nat → Int32} {MbackBox : Nat → Int32} (hR : RelL given perm plain Xuser Xowner Xtried Xident Xtape Xsecret Xe0 Xe1 Xe2 Xe3 Xe4 Xnoe cfor cback filt Xcol Xans Muser Musers Mowner Mowners Mtried Mtries Mid Mids Mtape Mtaped Mtaken MisPlain Mpermissions Mentries Msizes Mkey MisOpen Mfilter Mcollected Mbytes Mobject MisBack MoutSize Mout MfillBytes Msines Mroots Mbox MbackBox) (arg0 : Int32) (hbk : arg0 = 0 ∨ arg0 = 1) :
    (F_X10_metadata_l plain arg0).1 = (F_X11_metadata MisPlain arg0).1 ∧ True ∧ RelL given perm ((F_X10_metadata_l plain arg0).2) Xuser Xowner Xtried Xident Xtape Xsecret Xe0 Xe1 Xe2 Xe3 Xe4 Xnoe cfor cback filt Xcol Xans Muser Musers Mowner Mowners Mtried Mtries Mid Mids Mtape Mtaped Mtaken ((F_X11_metadata MisPlain arg0).2.2) Mpermissions Mentries Msizes Mkey MisOpen Mfilter Mcollected Mbytes Mobject MisBack MoutSize Mout MfillBytes Msines Mroots Mbox MbackBox := by
  have hp := RelL_plain hR
  unfold F_X10_metadata_l F_X11_metadata
  rw [hp.1]
  by_cases h1 : MisPlain = 0
  · simp (config := {decide := true}) only [gLet, if_true, if_false, if_pos h1]
    exact ⟨(by first | exact trivial | rfl), trivial, (RelL_mk (RelL_user hR) (RelL_owner hR) (RelL_tried hR) (RelL_ident hR) (RelL_tape hR) (RelL_given hR) (RelL_perm hR) ⟨rfl, hbk⟩ (RelL_ent hR) (RelL_noe hR) (RelL_open hR) (RelL_mop hR) (RelL_col hR) (RelL_cfor hR) (RelL_back hR) (RelL_filt hR) (RelL_flt2 hR) (RelL_ans hR) (RelL_btape hR) (RelL_bent hR) (RelL_bkey hR) (RelL_bbyt hR) (RelL_tfill hR) (RelL_tsin hR) (RelL_troot hR) (RelL_tbox hR) (RelL_tbb hR))⟩
  · simp (config := {decide := true}) only [gLet, if_true, if_false, if_neg h1]
    exact ⟨(by first | exact trivial | rfl), trivial, (RelL_mk (RelL_user hR) (RelL_owner hR) (RelL_tried hR) (RelL_ident hR) (RelL_tape hR) (RelL_given hR) (RelL_perm hR) ⟨rfl, hbk⟩ (RelL_ent hR) (RelL_noe hR) (RelL_open hR) (RelL_mop hR) (RelL_col hR) (RelL_cfor hR) (RelL_back hR) (RelL_filt hR) (RelL_flt2 hR) (RelL_ans hR) (RelL_btape hR) (RelL_bent hR) (RelL_bkey hR) (RelL_bbyt hR) (RelL_tfill hR) (RelL_tsin hR) (RelL_troot hR) (RelL_tbox hR) (RelL_tbb hR))⟩
