theorem P_open_l {cfor : Int32} {cback : Int32} {filt : Int32} {given : Int32} {perm : Int32} {plain : Int32} {Xuser : gRow} {Xowner : gRow} {Xtried : gRow} {Xident : gRow} {Xtape : gRow} {Xsecret : gRow} {Xe0 : gRow} {Xe1 : gRow} {Xe2 : gRow} {Xe3 : gRow} {Xe4 : gRow} {Xnoe : gRow} {wdgr : Nat → Int32} {stgr : Nat → Int32} {rdbl : Int32} {kybl : Nat → Int32} {clbl : Nat → Int32} {mvbl : Nat → Int32} {labl : Nat → Int32} {Xtext : gRow} {Xsum : gRow} {Xcol : gRow} {Xans : gRow} {Muser : Nat → Int32} {Musers : Nat} {Mowner : Nat → Int32} {Mowners : Nat} {Mtried : Nat → Int32} {Mtries : Nat} {Mid : Nat → Int32} {Mids : Nat} {Mtape : Nat → Int32} {Mtaped : Nat} {Mtaken : Nat} {MisPlain : Int32} {Mpermissions : Int32} {Mentries : Nat → Int32} {Msizes : Nat → Int32} {Mkey : Nat → Int32} {MisOpen : Int32} {Mfilter : Int32} {Mcollected : Nat} {Mbytes : Nat → Int32} {Mobject : Int32} {MisBack : Int32} {MoutSize : Nat} {Mout : Nat → Int32} {Msaid : Nat} {Mmessage : Nat → Int32} {Mdigest : Nat → Int32} {Mwords : Nat → Int32} {Mh : Nat → Int32} {Mv : Nat → Int32} {MfillBytes : Nat → Int32} {Msines : Nat → Int32} {Mroots : Nat → Int32} {Mbox : Nat → Int32} {MbackBox : Nat → Int32} {MroundKeys : Nat → Int32} {Mrounds : Nat} {Mstate : Nat → Int32} {Mother : Nat → Int32} {Mwork : Nat → Int32} {gg : Nat → Int64} (hR : RelL given perm plain Xuser Xowner Xtried Xident Xtape Xsecret Xe0 Xe1 Xe2 Xe3 Xe4 Xnoe cfor cback filt Xcol Xans Muser Musers Mowner Mowners Mtried Mtries Mid Mids Mtape Mtaped Mtaken MisPlain Mpermissions Mentries Msizes Mkey MisOpen Mfilter Mcollected Mbytes Mobject MisBack MoutSize Mout MfillBytes Msines Mroots Mbox MbackBox) (arg0 : Int32) :
    (F_X11_open_l Mtried Mtries Mentries Msizes Mkey MisOpen Mcollected Msaid Mmessage Mdigest Mwords Mh Mv Mroots Mbox MbackBox MroundKeys Mrounds Mstate Mother Mwork arg0).2.1 = (F_L_open_l Xtried Xsecret Xe0 Xe1 Xe2 Xe3 wdgr stgr rdbl kybl clbl mvbl labl Xtext Xsum Xcol gg arg0).1 ∧ ((F_L_open_l Xtried Xsecret Xe0 Xe1 Xe2 Xe3 wdgr stgr rdbl kybl clbl mvbl labl Xtext Xsum Xcol gg arg0).1 = 0 → ((F_L_open_l Xtried Xsecret Xe0 Xe1 Xe2 Xe3 wdgr stgr rdbl kybl clbl mvbl labl Xtext Xsum Xcol gg arg0).2.2.2.2.2.2.2.2.2.2.2.2.2 (0 : Int32).toNatClampNeg) = ((F_X11_open_l Mtried Mtries Mentries Msizes Mkey MisOpen Mcollected Msaid Mmessage Mdigest Mwords Mh Mv Mroots Mbox MbackBox MroundKeys Mrounds Mstate Mother Mwork arg0).1).toInt64) ∧ RelL given perm plain Xuser Xowner ((F_L_open_l Xtried Xsecret Xe0 Xe1 Xe2 Xe3 wdgr stgr rdbl kybl clbl mvbl labl Xtext Xsum Xcol gg arg0).2.1) Xident Xtape ((F_L_open_l Xtried Xsecret Xe0 Xe1 Xe2 Xe3 wdgr stgr rdbl kybl clbl mvbl labl Xtext Xsum Xcol gg arg0).2.2.1) Xe0 Xe1 Xe2 Xe3 Xe4 Xnoe cfor cback filt ((F_L_open_l Xtried Xsecret Xe0 Xe1 Xe2 Xe3 wdgr stgr rdbl kybl clbl mvbl labl Xtext Xsum Xcol gg arg0).2.2.2.2.2.2.2.2.2.2.2.2.1.1, Xcol.2) Xans Muser Musers Mowner Mowners ((F_X11_open_l Mtried Mtries Mentries Msizes Mkey MisOpen Mcollected Msaid Mmessage Mdigest Mwords Mh Mv Mroots Mbox MbackBox MroundKeys Mrounds Mstate Mother Mwork arg0).2.2.1) ((F_X11_open_l Mtried Mtries Mentries Msizes Mkey MisOpen Mcollected Msaid Mmessage Mdigest Mwords Mh Mv Mroots Mbox MbackBox MroundKeys Mrounds Mstate Mother Mwork arg0).2.2.2.1) Mid Mids Mtape Mtaped Mtaken MisPlain Mpermissions Mentries Msizes ((F_X11_open_l Mtried Mtries Mentries Msizes Mkey MisOpen Mcollected Msaid Mmessage Mdigest Mwords Mh Mv Mroots Mbox MbackBox MroundKeys Mrounds Mstate Mother Mwork arg0).2.2.2.2.1) ((F_X11_open_l Mtried Mtries Mentries Msizes Mkey MisOpen Mcollected Msaid Mmessage Mdigest Mwords Mh Mv Mroots Mbox MbackBox MroundKeys Mrounds Mstate Mother Mwork arg0).2.2.2.2.2.1) Mfilter ((F_X11_open_l Mtried Mtries Mentries Msizes Mkey MisOpen Mcollected Msaid Mmessage Mdigest Mwords Mh Mv Mroots Mbox MbackBox MroundKeys Mrounds Mstate Mother Mwork arg0).2.2.2.2.2.2.1) Mbytes Mobject MisBack MoutSize Mout MfillBytes Msines Mroots Mbox MbackBox := by
  have hu := RelL_tried hR
  have hc := hu.2.1
  have r1 : F_X5_hasRoom 127 Xtried 1 = if 127 - Mtries < 1 then 0 else 1 := hasRoom_R (k := 1) hu (by decide) (by decide)
  unfold F_L_open_l F_X10_open_l F_X11_open_l
  rw [r1]
  by_cases v1 : arg0 < (-1)
  · simp (config := {decide := true}) only [gLet_p, if_true, if_false, if_pos v1]
    exact ⟨(by first | exact trivial | rfl), fun h => absurd h (by decide), hR⟩
  · by_cases v2 : arg0 ≤ 255
    · by_cases v3 : arg0 < 0
      · have v4 : arg0 = -1 := i32_is_m1 v1 v3
        rcases RelL_ent hR with he | he
        · have hm : F_X9_isMade_l Xe0 = 0 := isMade0_l he.2.2.2.2.2.1
          simp (config := {decide := true}) only [gLet_p, if_true, if_false, if_neg v1, if_pos v2, if_pos v3, if_pos v4, hm, if_pos he.1]
          exact ⟨(by first | exact trivial | rfl), fun h => absurd h (by decide), hR⟩
        · have hm : F_X9_isMade_l Xe0 = 1 := isMade1_l he.2.2.2.2.2.1 (by decide) (by decide)
          have hs0 : ¬ Msizes 0 = 0 := by rw [he.1]; decide
          have hbB : bA 256 Mbox := fun k hk => by rw [RelL_tbox hR k hk]; exact T5_B k hk
          have hbbB : bA 256 MbackBox := fun k hk => by rw [RelL_tbb hR k hk]; exact T6_B k hk
          have q0 : rowR 48 Xe0 (fun k => Mentries (0 + k)) 48 := he.2.2.2.2.2.1.congr (fun k _ => by rw [Nat.zero_add])
          obtain ⟨o1, o2, o3⟩ := opens_0_R (Xe1 := Xe1) (Xsecret := Xsecret) (wd0 := wdgr) (st0 := stgr) (rd := rdbl) (ky := kybl) (cl := clbl) (mv := mvbl) (la := labl) (Xt := Xtext) (Xs := Xsum) (msg := Mmessage) (dg := Mdigest) (wd := Mwords) (hh := Mh) (v := Mv) (rk := MroundKeys) (rds := Mrounds) (st := Mstate) (ot := Mother) (wk := Mwork) hu he.2.2.2.2.2.2.1 he.2.2.2.2.2.2.2.2.1 he.2.2.2.2.2.2.1 (RelL_troot hR) (RelL_tbox hR) hbB (RelL_tbb hR) hbbB (RelL_bkey hR)
          generalize hcc : F_X3_opens_0 Xtried Xsecret wdgr stgr rdbl kybl clbl mvbl labl Xtext Xsum Xe1 Xe3 = c at o1 o2
          generalize F_X11_opensLate_u Mtried Mtries Mentries Mkey Mmessage Mdigest Mwords Mh Mv Mroots Mbox MbackBox MroundKeys Mrounds Mstate Mother Mwork = w at o1 o2 o3 ⊢
          obtain ⟨t1, t2⟩ := tryLate Xtried Xsecret Xe0 Xe1 Xe2 Xe3 wdgr stgr rdbl kybl clbl mvbl labl Xtext Xsum c _ hcc rfl
          generalize F_X3_tryWord Xtried Xsecret Xe0 Xe1 Xe2 Xe3 wdgr stgr rdbl kybl clbl mvbl labl Xtext Xsum = T at t1 t2 ⊢
          simp only [gLet_p]
          rcases o2 with ⟨z1, z2⟩ | ⟨z1, z2⟩
          · have z3 : c.1 = 0 := o1.trans z1
            obtain ⟨p1, p2, p3⟩ := opens_1_R (Xe1 := Xe1) (Xsecret := c.2.1) (wd0 := c.2.2.1) (st0 := c.2.2.2.1) (rd := c.2.2.2.2.1) (ky := c.2.2.2.2.2.1) (cl := c.2.2.2.2.2.2.1) (mv := c.2.2.2.2.2.2.2.1) (la := c.2.2.2.2.2.2.2.2.1) (Xt := c.2.2.2.2.2.2.2.2.2.1) (Xs := c.2.2.2.2.2.2.2.2.2.2) (msg := w.2.2.2.1) (dg := w.2.2.2.2.1) (wd := w.2.2.2.2.2.1) (hh := w.2.2.2.2.2.2.1) (v := w.2.2.2.2.2.2.2.1) (rk := w.2.2.2.2.2.2.2.2.1) (rds := w.2.2.2.2.2.2.2.2.2.1) (st := w.2.2.2.2.2.2.2.2.2.2.1) (ot := w.2.2.2.2.2.2.2.2.2.2.2.1) (wk := w.2.2.2.2.2.2.2.2.2.2.2.2) hu q0 he.2.2.2.2.2.2.2.1 he.2.2.2.2.2.2.1 (RelL_troot hR) (RelL_tbox hR) hbB (RelL_tbb hR) hbbB o3
            generalize F_X3_opens_1 Xtried c.2.1 Xe1 c.2.2.1 c.2.2.2.1 c.2.2.2.2.1 c.2.2.2.2.2.1 c.2.2.2.2.2.2.1 c.2.2.2.2.2.2.2.1 c.2.2.2.2.2.2.2.2.1 c.2.2.2.2.2.2.2.2.2.1 c.2.2.2.2.2.2.2.2.2.2 Xe0 Xe2 = c' at p1 p2 t1 t2
            rw [if_pos z3] at t1 t2
            generalize F_X11_opensLate_o Mtried Mtries Mentries w.2.1 w.2.2.2.1 w.2.2.2.2.1 w.2.2.2.2.2.1 w.2.2.2.2.2.2.1 w.2.2.2.2.2.2.2.1 Mroots Mbox MbackBox w.2.2.2.2.2.2.2.2.1 w.2.2.2.2.2.2.2.2.2.1 w.2.2.2.2.2.2.2.2.2.2.1 w.2.2.2.2.2.2.2.2.2.2.2.1 w.2.2.2.2.2.2.2.2.2.2.2.2 = w' at p1 p2 p3 ⊢
            rcases p2 with ⟨y1, y2⟩ | ⟨y1, y2⟩
            · have y3 : c'.1 = 0 := p1.trans y1
              rw [if_pos y3] at t1
              simp (config := {decide := true}) only [gLet_p, if_true, if_false, if_neg v1, if_pos v2, if_pos v3, if_pos v4, if_neg hs0, hm, if_neg (show ¬ (1 : Int32) = 0 by decide), if_pos z1, if_pos y1, if_pos t1, F_X10_shut_l, F_X5_clear, F_X11_shutAll]
              exact ⟨(by first | exact trivial | rfl), fun _ => by rw [t1]; exact updL_s _ _ _, (RelL_mk (RelL_user hR) (RelL_owner hR) (rowR.empty rfl) (RelL_ident hR) (RelL_tape hR) (RelL_given hR) (RelL_perm hR) (RelL_plain hR) (RelL_ent hR) (RelL_noe hR) (Or.inl ⟨rfl, rfl⟩) (Or.inl rfl) (rowR.empty rfl) (Or.inl rfl) (RelL_back hR) (RelL_filt hR) (RelL_flt2 hR) (RelL_ans hR) (RelL_btape hR) (RelL_bent hR) p3 (RelL_bbyt hR) (RelL_tfill hR) (RelL_tsin hR) (RelL_troot hR) (RelL_tbox hR) (RelL_tbb hR))⟩
            · have y4 : ¬ w'.1 = 0 := by rw [y1]; decide
              have y3 : ¬ c'.1 = 0 := by rw [p1]; exact y4
              rw [if_neg y3] at t1
              have t3 : ¬ T.1 = 0 := by rw [t1]; decide
              simp (config := {decide := true}) only [gLet_p, if_true, if_false, if_neg v1, if_pos v2, if_pos v3, if_pos v4, if_neg hs0, hm, if_neg (show ¬ (1 : Int32) = 0 by decide), if_pos z1, if_neg y4, if_neg t3, F_X5_clear]
              exact ⟨(by first | exact trivial | rfl), fun _ => by rw [t1]; exact updL_s _ _ _, (RelL_mk (RelL_user hR) (RelL_owner hR) (rowR.empty rfl) (RelL_ident hR) (RelL_tape hR) (RelL_given hR) (RelL_perm hR) (RelL_plain hR) (RelL_ent hR) (RelL_noe hR) (Or.inr ⟨rfl, by rw [t2]; exact y2⟩) (Or.inr hs0) (RelL_col hR) ((RelL_cfor hR).imp id (fun h => ⟨rfl, h.2⟩)) (RelL_back hR) (RelL_filt hR) (RelL_flt2 hR) (RelL_ans hR) (RelL_btape hR) (RelL_bent hR) p3 (RelL_bbyt hR) (RelL_tfill hR) (RelL_tsin hR) (RelL_troot hR) (RelL_tbox hR) (RelL_tbb hR))⟩
          · have z4 : ¬ w.1 = 0 := by rw [z1]; decide
            have z3 : ¬ c.1 = 0 := by rw [o1]; exact z4
            rw [if_neg z3] at t1 t2
            have t3 : ¬ T.1 = 0 := by rw [t1]; decide
            simp (config := {decide := true}) only [gLet_p, if_true, if_false, if_neg v1, if_pos v2, if_pos v3, if_pos v4, if_neg hs0, hm, if_neg (show ¬ (1 : Int32) = 0 by decide), if_neg z4, if_neg t3, F_X5_clear]
            exact ⟨(by first | exact trivial | rfl), fun _ => by rw [t1]; exact updL_s _ _ _, (RelL_mk (RelL_user hR) (RelL_owner hR) (rowR.empty rfl) (RelL_ident hR) (RelL_tape hR) (RelL_given hR) (RelL_perm hR) (RelL_plain hR) (RelL_ent hR) (RelL_noe hR) (Or.inr ⟨rfl, by rw [t2]; exact z2⟩) (Or.inr hs0) (RelL_col hR) ((RelL_cfor hR).imp id (fun h => ⟨rfl, h.2⟩)) (RelL_back hR) (RelL_filt hR) (RelL_flt2 hR) (RelL_ans hR) (RelL_btape hR) (RelL_bent hR) o3 (RelL_bbyt hR) (RelL_tfill hR) (RelL_tsin hR) (RelL_troot hR) (RelL_tbox hR) (RelL_tbb hR))⟩
      · have v4 : ¬ arg0 = -1 := fun e => v3 (by rw [e]; decide)
        by_cases t1 : Mtries = 127
        · have t2 : 127 - Mtries < 1 := by omega
          simp (config := {decide := true}) only [gLet_p, if_true, if_false, if_neg v1, if_pos v2, if_neg v3, if_neg v4, if_pos t1, if_pos t2]
          exact ⟨(by first | exact trivial | rfl), fun h => absurd h (by decide), hR⟩
        · have t2 : ¬ 127 - Mtries < 1 := by omega
          have ha := hu.add (by decide) (by omega) (b := arg0) (v := arg0) (and255_of (isB_le v3 v2))
          simp (config := {decide := true}) only [gLet_p, if_true, if_false, if_neg v1, if_pos v2, if_neg v3, if_neg v4, if_neg t1, if_neg t2]
          exact ⟨(by first | exact trivial | rfl), fun _ => (updL_s _ _ _).trans (congrArg Int32.toInt64 ha.cnt), (RelL_mk (RelL_user hR) (RelL_owner hR) ha (RelL_ident hR) (RelL_tape hR) (RelL_given hR) (RelL_perm hR) (RelL_plain hR) (RelL_ent hR) (RelL_noe hR) (RelL_open hR) (RelL_mop hR) (RelL_col hR) (RelL_cfor hR) (RelL_back hR) (RelL_filt hR) (RelL_flt2 hR) (RelL_ans hR) (RelL_btape hR) (RelL_bent hR) (RelL_bkey hR) (RelL_bbyt hR) (RelL_tfill hR) (RelL_tsin hR) (RelL_troot hR) (RelL_tbox hR) (RelL_tbb hR))⟩
    · simp (config := {decide := true}) only [gLet_p, if_true, if_false, if_neg v1, if_neg v2]
      exact ⟨(by first | exact trivial | rfl), fun h => absurd h (by decide), hR⟩
