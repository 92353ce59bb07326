def F_X10_word_e (Xuser : gRow) (Xowner : gRow) (vc : Int32) (own : Int32) : Nat × (Int32 × (gRow × gRow)) :=
  if own = 0 then
    gLet (F_X5_hasRoom 127 Xuser 1) fun r_37 =>
    if r_37 = 0 then
      (5, (0, (Xuser, Xowner)))
    else
      gLet (F_X5_add 127 Xuser vc) fun u_40 =>
      gLet (F_X5_count u_40) fun r_42 =>
      (0, (r_42, (u_40, Xowner)))
  else
    gLet (F_X5_hasRoom 127 Xowner 1) fun r_45 =>
    if r_45 = 0 then
      (5, (0, (Xuser, Xowner)))
    else
      gLet (F_X5_add 127 Xowner vc) fun u_48 =>
      gLet (F_X5_count u_48) fun r_50 =>
      (0, (r_50, (Xuser, u_48)))
def F_X10_id_e (Xident : gRow) (vb : Int32) : Nat × gRow :=
  gLet (F_X5_hasRoom 32 Xident 1) fun r_11 =>
  if r_11 = 0 then
    (5, Xident)
  else
    gLet (F_X5_add 32 Xident vb) fun u_14 =>
    (0, u_14)
def F_X10_tape_e (Xtape : gRow) (vw : Int32) : Nat × (Int32 × (gRow)) :=
  gLet (F_X5_hasRoom 400 Xtape 4) fun r_47 =>
  if r_47 = 0 then
    (5, (0, Xtape))
  else
    gLet (F_X5_add 400 Xtape (g_us vw 24)) fun u_52 =>
    gLet (F_X5_add 400 u_52 (g_us vw 16)) fun u_56 =>
    gLet (F_X5_add 400 u_56 (g_us vw 8)) fun u_60 =>
    gLet (F_X5_add 400 u_60 (g_us vw 0)) fun u_64 =>
    gLet (F_X5_count u_64) fun r_68 =>
    (0, (r_68, u_64))
def F_X10_make_e (rv : Nat) (given : Int32) (perm : Int32) (plain : Int32) (Xuser : gRow) (Xowner : gRow) (Xident : gRow) (Xtape : gRow) (Xsecret : gRow) (Xe0 : gRow) (Xe1 : gRow) (bksm : Nat → Int32) (stsm : Nat → Int32) (mxsr : Nat → Int32) (Xtext : gRow) (Xsum : gRow) (Xpad : gRow) (Xcol : gRow) (vp : Int32) : Nat × (Int32 × (Int32 × gRow × gRow × gRow × (Nat → Int32) × (Nat → Int32) × (Nat → Int32) × gRow × gRow × gRow × gRow)) :=
  gLet (F_X9_tapeLeft_e given Xtape) fun r_25 =>
  gLet F_X1_tapeNeeded fun r_27 =>
  if r_27 ≤ r_25 then
    gLet (F_X1_makeEntries rv vp plain Xuser Xowner Xident Xe0 Xe1 bksm stsm mxsr Xtext Xsum Xpad) fun u_31 =>
    gLet (F_X10_shut_e Xsecret Xcol) fun u_33 =>
    gLet F_X9_entryCount_e fun r_35 =>
    (0, (r_35, (vp, (u_33.1.1, Xsecret.2), u_31.1, u_31.2.1, u_31.2.2.1, u_31.2.2.2.1, u_31.2.2.2.2.1, u_31.2.2.2.2.2.1, u_31.2.2.2.2.2.2.1, u_31.2.2.2.2.2.2.2, (u_33.2.1, Xcol.2))))
  else
    (3, (0, (perm, Xsecret, Xe0, Xe1, bksm, stsm, mxsr, Xtext, Xsum, Xpad, Xcol)))
def F_X10_entry_e (Xe0 : gRow) (Xe1 : gRow) (Xnoe : gRow) (which : Int32) (vi : Int32) : Nat × Int32 :=
  if which = 0 then
    gLet (F_X5_count Xe0) fun r_99 =>
    if r_99 = 0 then
      (4, 0)
    else
      if vi < (-1) then
        (4, 0)
      else
        gLet (F_X5_count Xe0) fun r_103 =>
        if vi < r_103 then
          if vi = (-1) then
            gLet (F_X5_count Xe0) fun r_109 =>
            (0, r_109)
          else
            gLet (F_X5_at 48 Xe0 vi) fun r_107 =>
            (0, r_107)
        else
          (4, 0)
  else
    if which = 1 then
      gLet (F_X5_count Xe1) fun r_115 =>
      if r_115 = 0 then
        (4, 0)
      else
        if vi < (-1) then
          (4, 0)
        else
          gLet (F_X5_count Xe1) fun r_119 =>
          if vi < r_119 then
            if vi = (-1) then
              gLet (F_X5_count Xe1) fun r_125 =>
              (0, r_125)
            else
              gLet (F_X5_at 48 Xe1 vi) fun r_123 =>
              (0, r_123)
          else
            (4, 0)
    else
      gLet (F_X5_count Xnoe) fun r_130 =>
      if r_130 = 0 then
        (4, 0)
      else
        if vi < (-1) then
          (4, 0)
        else
          gLet (F_X5_count Xnoe) fun r_134 =>
          if vi < r_134 then
            if vi = (-1) then
              gLet (F_X5_count Xnoe) fun r_140 =>
              (0, r_140)
            else
              gLet (F_X5_at 0 Xnoe vi) fun r_138 =>
              (0, r_138)
          else
            (4, 0)
def F_X10_alter_e (Xsecret : gRow) (Xe0 : gRow) (Xe1 : gRow) (Xnoe : gRow) (Xcol : gRow) (which : Int32) (vi : Int32) (vb : Int32) : Nat × (gRow × gRow × gRow × gRow × gRow) :=
  if which = 0 then
    if vi < 0 then
      (4, (Xsecret, Xe0, Xe1, Xnoe, Xcol))
    else
      gLet (F_X5_count Xe0) fun r_76 =>
      if vi < r_76 then
        gLet (F_X5_put 48 Xe0 vi vb) fun u_79 =>
        gLet (F_X10_shut_e Xsecret Xcol) fun u_81 =>
        (0, ((u_81.1.1, Xsecret.2), u_79, Xe1, Xnoe, (u_81.2.1, Xcol.2)))
      else
        (4, (Xsecret, Xe0, Xe1, Xnoe, Xcol))
  else
    if which = 1 then
      if vi < 0 then
        (4, (Xsecret, Xe0, Xe1, Xnoe, Xcol))
      else
        gLet (F_X5_count Xe1) fun r_88 =>
        if vi < r_88 then
          gLet (F_X5_put 48 Xe1 vi vb) fun u_91 =>
          gLet (F_X10_shut_e Xsecret Xcol) fun u_93 =>
          (0, ((u_93.1.1, Xsecret.2), Xe0, u_91, Xnoe, (u_93.2.1, Xcol.2)))
        else
          (4, (Xsecret, Xe0, Xe1, Xnoe, Xcol))
    else
      if vi < 0 then
        (4, (Xsecret, Xe0, Xe1, Xnoe, Xcol))
      else
        gLet (F_X5_count Xnoe) fun r_99 =>
        if vi < r_99 then
          gLet (F_X5_put 0 Xnoe vi vb) fun u_102 =>
          gLet (F_X10_shut_e Xsecret Xcol) fun u_104 =>
          (0, ((u_104.1.1, Xsecret.2), Xe0, Xe1, u_102, (u_104.2.1, Xcol.2)))
        else
          (4, (Xsecret, Xe0, Xe1, Xnoe, Xcol))
def F_X10_open_e (rv : Nat) (perm : Int32) (plain : Int32) (Xtried : gRow) (Xident : gRow) (Xsecret : gRow) (Xe0 : gRow) (Xe1 : gRow) (bksm : Nat → Int32) (stsm : Nat → Int32) (mxsr : Nat → Int32) (Xtext : gRow) (Xsum : gRow) (Xpad : gRow) (Xchk : gRow) (Xcol : gRow) (vc : Int32) : Nat × (Int32 × (gRow × gRow × (Nat → Int32) × (Nat → Int32) × (Nat → Int32) × gRow × gRow × gRow × gRow × gRow)) :=
  if vc < (-1) then
    (2, (0, (Xtried, Xsecret, bksm, stsm, mxsr, Xtext, Xsum, Xpad, Xchk, Xcol)))
  else
    if vc ≤ 255 then
      if vc < 0 then
        gLet (F_X9_isMade_e Xe0) fun r_46 =>
        if r_46 = 0 then
          (3, (0, (Xtried, Xsecret, bksm, stsm, mxsr, Xtext, Xsum, Xpad, Xchk, Xcol)))
        else
          gLet ((F_X1_tryWord rv perm plain Xtried Xident Xsecret Xe0 Xe1 bksm stsm mxsr Xtext Xsum Xpad Xchk).1) fun r_49 =>
          gLet ((F_X1_tryWord rv perm plain Xtried Xident Xsecret Xe0 Xe1 bksm stsm mxsr Xtext Xsum Xpad Xchk).2) fun u_49 =>
          gLet (F_X5_clear Xtried) fun u_52 =>
          if r_49 = 0 then
            gLet (F_X10_shut_e u_49.1 Xcol) fun u_55 =>
            (0, (r_49, ((u_52.1, Xtried.2), (u_55.1.1, u_49.1.2), u_49.2.1, u_49.2.2.1, u_49.2.2.2.1, u_49.2.2.2.2.1, u_49.2.2.2.2.2.1, u_49.2.2.2.2.2.2.1, u_49.2.2.2.2.2.2.2, (u_55.2.1, Xcol.2))))
          else
            (0, (r_49, ((u_52.1, Xtried.2), u_49.1, u_49.2.1, u_49.2.2.1, u_49.2.2.2.1, u_49.2.2.2.2.1, u_49.2.2.2.2.2.1, u_49.2.2.2.2.2.2.1, u_49.2.2.2.2.2.2.2, Xcol)))
      else
        gLet (F_X5_hasRoom 127 Xtried 1) fun r_57 =>
        if r_57 = 0 then
          (5, (0, (Xtried, Xsecret, bksm, stsm, mxsr, Xtext, Xsum, Xpad, Xchk, Xcol)))
        else
          gLet (F_X5_add 127 Xtried vc) fun u_60 =>
          gLet (F_X5_count u_60) fun r_62 =>
          (0, (r_62, (u_60, Xsecret, bksm, stsm, mxsr, Xtext, Xsum, Xpad, Xchk, Xcol)))
    else
      (2, (0, (Xtried, Xsecret, bksm, stsm, mxsr, Xtext, Xsum, Xpad, Xchk, Xcol)))
def F_X10_key_e (filt : Int32) (Xsecret : gRow) (bksm : Nat → Int32) (stsm : Nat → Int32) (Xtext : gRow) (Xans : gRow) (number : Int32) (generation : Int32) : Nat × (Int32 × ((Nat → Int32) × (Nat → Int32) × gRow × gRow)) :=
  gLet (F_X9_isOpen_e Xsecret) fun r_25 =>
  if r_25 = 0 then
    (3, (0, (bksm, stsm, Xtext, Xans)))
  else
    if filt = 2 then
      gLet (F_X1_findObjectKey 432 Xsecret bksm stsm Xtext Xans number generation 1) fun u_33 =>
      gLet (F_X5_count u_33.2.2.2) fun r_35 =>
      (0, (r_35, (u_33.1, u_33.2.1, u_33.2.2.1, u_33.2.2.2)))
    else
      gLet (F_X1_findObjectKey 432 Xsecret bksm stsm Xtext Xans number generation 0) fun u_29 =>
      gLet (F_X5_count u_29.2.2.2) fun r_31 =>
      (0, (r_31, (u_29.1, u_29.2.1, u_29.2.2.1, u_29.2.2.2)))
def F_X10_filter_e (rv : Nat) (filt : Int32) (kind : Int32) : Nat × (Int32 × (Int32)) :=
  gLet (F_X1_knowsFilter rv kind) fun r_11 =>
  if r_11 = 0 then
    (2, (0, filt))
  else
    (0, (filt, kind))
def F_X10_apply_e (cfor : Int32) (cback : Int32) (Xsecret : gRow) (Xcol : gRow) (number : Int32) (back : Int32) (vb : Int32) : Nat × (Int32 × (Int32 × Int32 × gRow)) :=
  gLet (F_X9_isOpen_e Xsecret) fun r_53 =>
  if r_53 = 0 then
    (3, (0, (cfor, cback, Xcol)))
  else
    gLet (F_X5_count Xcol) fun r_56 =>
    if r_56 ≤ 0 then
      gLet (F_X5_hasRoom 400 Xcol 1) fun r_59 =>
      if r_59 = 0 then
        (5, (0, (cfor, cback, Xcol)))
      else
        gLet (F_X5_add 400 Xcol vb) fun u_64 =>
        gLet (F_X5_count u_64) fun r_66 =>
        (0, (r_66, (number, back, u_64)))
    else
      if number = cfor then
        if back = cback then
          gLet (F_X5_hasRoom 400 Xcol 1) fun r_70 =>
          if r_70 = 0 then
            (5, (0, (cfor, cback, Xcol)))
          else
            gLet (F_X5_add 400 Xcol vb) fun u_75 =>
            gLet (F_X5_count u_75) fun r_77 =>
            (0, (r_77, (number, back, u_75)))
        else
          (3, (0, (cfor, cback, Xcol)))
      else
        (3, (0, (cfor, cback, Xcol)))
def F_X10_out_e (Xans : gRow) (vi : Int32) : Nat × Int32 :=
  if vi < 0 then
    (1, 0)
  else
    gLet (F_X5_count Xans) fun r_14 =>
    if vi < r_14 then
      gLet (F_X5_at 432 Xans vi) fun r_17 =>
      (0, (r_17.toInt8.toInt32))
    else
      (1, 0)
def F_X10_digest_e (bksm : Nat → Int32) (stsm : Nat → Int32) (wdgr : Nat → Int32) (stgr : Nat → Int32) (Xcol : gRow) (Xans : gRow) (kind : Int32) : Nat × (Int32 × ((Nat → Int32) × (Nat → Int32) × (Nat → Int32) × (Nat → Int32) × gRow)) :=
  if kind = 0 then
    gLet (F_X6_sum 400 432 bksm stsm Xcol Xans) fun u_27 =>
    gLet (F_X5_count u_27.2.2) fun r_29 =>
    (0, (r_29, (u_27.1, u_27.2.1, wdgr, stgr, u_27.2.2)))
  else
    if kind = 1 then
      gLet (F_X2_sum 400 432 wdgr stgr Xcol Xans) fun u_33 =>
      gLet (F_X5_count u_33.2.2) fun r_35 =>
      (0, (r_35, (bksm, stsm, u_33.1, u_33.2.1, u_33.2.2)))
    else
      (2, (0, (bksm, stsm, wdgr, stgr, Xans)))
def F_X10_told_e (given : Int32) (perm : Int32) (Xtape : gRow) (Xcol : gRow) (Xans : gRow) (vi : Int32) : Nat × Int32 :=
  if vi = 0 then
    gLet (F_X5_count Xcol) fun r_26 =>
    (0, r_26)
  else
    if vi = 1 then
      gLet (F_X9_tapeLeft_e given Xtape) fun r_29 =>
      (0, r_29)
    else
      if vi = 2 then
        gLet (F_X5_count Xans) fun r_32 =>
        (0, r_32)
      else
        if vi = 3 then
          gLet (F_X1_tellPermissions perm) fun r_35 =>
          (0, r_35)
        else
          (4, 0)
def F_X10_word_l (Xuser : gRow) (Xowner : gRow) (vc : Int32) (own : Int32) : Nat × (Int32 × (gRow × gRow)) :=
  if own = 0 then
    gLet (F_X5_hasRoom 127 Xuser 1) fun r_37 =>
    if r_37 = 0 then
      (5, (0, (Xuser, Xowner)))
    else
      gLet (F_X5_add 127 Xuser vc) fun u_40 =>
      gLet (F_X5_count u_40) fun r_42 =>
      (0, (r_42, (u_40, Xowner)))
  else
    gLet (F_X5_hasRoom 127 Xowner 1) fun r_45 =>
    if r_45 = 0 then
      (5, (0, (Xuser, Xowner)))
    else
      gLet (F_X5_add 127 Xowner vc) fun u_48 =>
      gLet (F_X5_count u_48) fun r_50 =>
      (0, (r_50, (Xuser, u_48)))
def F_X10_id_l (Xident : gRow) (vb : Int32) : Nat × gRow :=
  gLet (F_X5_hasRoom 32 Xident 1) fun r_11 =>
  if r_11 = 0 then
    (5, Xident)
  else
    gLet (F_X5_add 32 Xident vb) fun u_14 =>
    (0, u_14)
def F_X10_tape_l (Xtape : gRow) (vw : Int32) : Nat × (Int32 × (gRow)) :=
  gLet (F_X5_hasRoom 400 Xtape 4) fun r_47 =>
  if r_47 = 0 then
    (5, (0, Xtape))
  else
    gLet (F_X5_add 400 Xtape (g_us vw 24)) fun u_52 =>
    gLet (F_X5_add 400 u_52 (g_us vw 16)) fun u_56 =>
    gLet (F_X5_add 400 u_56 (g_us vw 8)) fun u_60 =>
    gLet (F_X5_add 400 u_60 (g_us vw 0)) fun u_64 =>
    gLet (F_X5_count u_64) fun r_68 =>
    (0, (r_68, u_64))
def F_X10_make_l (given : Int32) (perm : Int32) (plain : Int32) (Xuser : gRow) (Xowner : gRow) (Xtape : gRow) (Xsecret : gRow) (Xe0 : gRow) (Xe1 : gRow) (Xe2 : gRow) (Xe3 : gRow) (Xe4 : gRow) (wdgr : Nat → Int32) (stgr : Nat → Int32) (rdbl : Int32) (kybl : Nat → Int32) (clbl : Nat → Int32) (mvbl : Nat → Int32) (labl : Nat → Int32) (Xtext : gRow) (Xsum : gRow) (Xch : gRow) (Xcol : gRow) (vp : Int32) : Nat × (Int32 × (Int32 × Int32 × gRow × gRow × gRow × gRow × gRow × gRow × (Nat → Int32) × (Nat → Int32) × Int32 × (Nat → Int32) × (Nat → Int32) × (Nat → Int32) × (Nat → Int32) × gRow × gRow × gRow × gRow)) :=
  gLet (F_X9_tapeLeft_l given Xtape) fun r_25 =>
  gLet F_X3_tapeNeeded fun r_27 =>
  if r_27 ≤ r_25 then
    gLet (F_X3_makeEntries given vp plain Xuser Xowner Xtape Xe0 Xe1 Xe2 Xe3 Xe4 wdgr stgr kybl clbl mvbl labl Xtext Xsum Xch) fun u_31 =>
    gLet (F_X10_shut_l Xsecret Xcol) fun u_33 =>
    gLet F_X9_entryCount_l fun r_35 =>
    (0, (r_35, (u_31.1, vp, (u_33.1.1, Xsecret.2), u_31.2.1, u_31.2.2.1, u_31.2.2.2.1, u_31.2.2.2.2.1, u_31.2.2.2.2.2.1, u_31.2.2.2.2.2.2.1, u_31.2.2.2.2.2.2.2.1, u_31.2.2.2.2.2.2.2.2.1, u_31.2.2.2.2.2.2.2.2.2.1, u_31.2.2.2.2.2.2.2.2.2.2.1, u_31.2.2.2.2.2.2.2.2.2.2.2.1, u_31.2.2.2.2.2.2.2.2.2.2.2.2.1, u_31.2.2.2.2.2.2.2.2.2.2.2.2.2.1, u_31.2.2.2.2.2.2.2.2.2.2.2.2.2.2.1, u_31.2.2.2.2.2.2.2.2.2.2.2.2.2.2.2, (u_33.2.1, Xcol.2))))
  else
    (3, (0, (given, perm, Xsecret, Xe0, Xe1, Xe2, Xe3, Xe4, wdgr, stgr, rdbl, kybl, clbl, mvbl, labl, Xtext, Xsum, Xch, Xcol)))
def F_X10_entry_l (Xe0 : gRow) (Xe1 : gRow) (Xe2 : gRow) (Xe3 : gRow) (Xe4 : gRow) (Xnoe : gRow) (which : Int32) (vi : Int32) : Nat × Int32 :=
  if which = 0 then
    gLet (F_X5_count Xe0) fun r_195 =>
    if r_195 = 0 then
      (4, 0)
    else
      if vi < (-1) then
        (4, 0)
      else
        gLet (F_X5_count Xe0) fun r_199 =>
        if vi < r_199 then
          if vi = (-1) then
            gLet (F_X5_count Xe0) fun r_205 =>
            (0, r_205)
          else
            gLet (F_X5_at 48 Xe0 vi) fun r_203 =>
            (0, r_203)
        else
          (4, 0)
  else
    if which = 1 then
      gLet (F_X5_count Xe1) fun r_211 =>
      if r_211 = 0 then
        (4, 0)
      else
        if vi < (-1) then
          (4, 0)
        else
          gLet (F_X5_count Xe1) fun r_215 =>
          if vi < r_215 then
            if vi = (-1) then
              gLet (F_X5_count Xe1) fun r_221 =>
              (0, r_221)
            else
              gLet (F_X5_at 48 Xe1 vi) fun r_219 =>
              (0, r_219)
          else
            (4, 0)
    else
      if which = 2 then
        gLet (F_X5_count Xe2) fun r_227 =>
        if r_227 = 0 then
          (4, 0)
        else
          if vi < (-1) then
            (4, 0)
          else
            gLet (F_X5_count Xe2) fun r_231 =>
            if vi < r_231 then
              if vi = (-1) then
                gLet (F_X5_count Xe2) fun r_237 =>
                (0, r_237)
              else
                gLet (F_X5_at 48 Xe2 vi) fun r_235 =>
                (0, r_235)
            else
              (4, 0)
      else
        if which = 3 then
          gLet (F_X5_count Xe3) fun r_243 =>
          if r_243 = 0 then
            (4, 0)
          else
            if vi < (-1) then
              (4, 0)
            else
              gLet (F_X5_count Xe3) fun r_247 =>
              if vi < r_247 then
                if vi = (-1) then
                  gLet (F_X5_count Xe3) fun r_253 =>
                  (0, r_253)
                else
                  gLet (F_X5_at 48 Xe3 vi) fun r_251 =>
                  (0, r_251)
              else
                (4, 0)
        else
          if which = 4 then
            gLet (F_X5_count Xe4) fun r_259 =>
            if r_259 = 0 then
              (4, 0)
            else
              if vi < (-1) then
                (4, 0)
              else
                gLet (F_X5_count Xe4) fun r_263 =>
                if vi < r_263 then
                  if vi = (-1) then
                    gLet (F_X5_count Xe4) fun r_269 =>
                    (0, r_269)
                  else
                    gLet (F_X5_at 48 Xe4 vi) fun r_267 =>
                    (0, r_267)
                else
                  (4, 0)
          else
            gLet (F_X5_count Xnoe) fun r_274 =>
            if r_274 = 0 then
              (4, 0)
            else
              if vi < (-1) then
                (4, 0)
              else
                gLet (F_X5_count Xnoe) fun r_278 =>
                if vi < r_278 then
                  if vi = (-1) then
                    gLet (F_X5_count Xnoe) fun r_284 =>
                    (0, r_284)
                  else
                    gLet (F_X5_at 0 Xnoe vi) fun r_282 =>
                    (0, r_282)
                else
                  (4, 0)
def F_X10_alter_l (Xsecret : gRow) (Xe0 : gRow) (Xe1 : gRow) (Xe2 : gRow) (Xe3 : gRow) (Xe4 : gRow) (Xnoe : gRow) (Xcol : gRow) (which : Int32) (vi : Int32) (vb : Int32) : Nat × (gRow × gRow × gRow × gRow × gRow × gRow × gRow × gRow) :=
  if which = 0 then
    if vi < 0 then
      (4, (Xsecret, Xe0, Xe1, Xe2, Xe3, Xe4, Xnoe, Xcol))
    else
      gLet (F_X5_count Xe0) fun r_148 =>
      if vi < r_148 then
        gLet (F_X5_put 48 Xe0 vi vb) fun u_151 =>
        gLet (F_X10_shut_l Xsecret Xcol) fun u_153 =>
        (0, ((u_153.1.1, Xsecret.2), u_151, Xe1, Xe2, Xe3, Xe4, Xnoe, (u_153.2.1, Xcol.2)))
      else
        (4, (Xsecret, Xe0, Xe1, Xe2, Xe3, Xe4, Xnoe, Xcol))
  else
    if which = 1 then
      if vi < 0 then
        (4, (Xsecret, Xe0, Xe1, Xe2, Xe3, Xe4, Xnoe, Xcol))
      else
        gLet (F_X5_count Xe1) fun r_160 =>
        if vi < r_160 then
          gLet (F_X5_put 48 Xe1 vi vb) fun u_163 =>
          gLet (F_X10_shut_l Xsecret Xcol) fun u_165 =>
          (0, ((u_165.1.1, Xsecret.2), Xe0, u_163, Xe2, Xe3, Xe4, Xnoe, (u_165.2.1, Xcol.2)))
        else
          (4, (Xsecret, Xe0, Xe1, Xe2, Xe3, Xe4, Xnoe, Xcol))
    else
      if which = 2 then
        if vi < 0 then
          (4, (Xsecret, Xe0, Xe1, Xe2, Xe3, Xe4, Xnoe, Xcol))
        else
          gLet (F_X5_count Xe2) fun r_172 =>
          if vi < r_172 then
            gLet (F_X5_put 48 Xe2 vi vb) fun u_175 =>
            gLet (F_X10_shut_l Xsecret Xcol) fun u_177 =>
            (0, ((u_177.1.1, Xsecret.2), Xe0, Xe1, u_175, Xe3, Xe4, Xnoe, (u_177.2.1, Xcol.2)))
          else
            (4, (Xsecret, Xe0, Xe1, Xe2, Xe3, Xe4, Xnoe, Xcol))
      else
        if which = 3 then
          if vi < 0 then
            (4, (Xsecret, Xe0, Xe1, Xe2, Xe3, Xe4, Xnoe, Xcol))
          else
            gLet (F_X5_count Xe3) fun r_184 =>
            if vi < r_184 then
              gLet (F_X5_put 48 Xe3 vi vb) fun u_187 =>
              gLet (F_X10_shut_l Xsecret Xcol) fun u_189 =>
              (0, ((u_189.1.1, Xsecret.2), Xe0, Xe1, Xe2, u_187, Xe4, Xnoe, (u_189.2.1, Xcol.2)))
            else
              (4, (Xsecret, Xe0, Xe1, Xe2, Xe3, Xe4, Xnoe, Xcol))
        else
          if which = 4 then
            if vi < 0 then
              (4, (Xsecret, Xe0, Xe1, Xe2, Xe3, Xe4, Xnoe, Xcol))
            else
              gLet (F_X5_count Xe4) fun r_196 =>
              if vi < r_196 then
                gLet (F_X5_put 48 Xe4 vi vb) fun u_199 =>
                gLet (F_X10_shut_l Xsecret Xcol) fun u_201 =>
                (0, ((u_201.1.1, Xsecret.2), Xe0, Xe1, Xe2, Xe3, u_199, Xnoe, (u_201.2.1, Xcol.2)))
              else
                (4, (Xsecret, Xe0, Xe1, Xe2, Xe3, Xe4, Xnoe, Xcol))
          else
            if vi < 0 then
              (4, (Xsecret, Xe0, Xe1, Xe2, Xe3, Xe4, Xnoe, Xcol))
            else
              gLet (F_X5_count Xnoe) fun r_207 =>
              if vi < r_207 then
                gLet (F_X5_put 0 Xnoe vi vb) fun u_210 =>
                gLet (F_X10_shut_l Xsecret Xcol) fun u_212 =>
                (0, ((u_212.1.1, Xsecret.2), Xe0, Xe1, Xe2, Xe3, Xe4, u_210, (u_212.2.1, Xcol.2)))
              else
                (4, (Xsecret, Xe0, Xe1, Xe2, Xe3, Xe4, Xnoe, Xcol))
def F_X10_open_l (Xtried : gRow) (Xsecret : gRow) (Xe0 : gRow) (Xe1 : gRow) (Xe2 : gRow) (Xe3 : gRow) (wdgr : Nat → Int32) (stgr : Nat → Int32) (rdbl : Int32) (kybl : Nat → Int32) (clbl : Nat → Int32) (mvbl : Nat → Int32) (labl : Nat → Int32) (Xtext : gRow) (Xsum : gRow) (Xcol : gRow) (vc : Int32) : Nat × (Int32 × (gRow × gRow × (Nat → Int32) × (Nat → Int32) × Int32 × (Nat → Int32) × (Nat → Int32) × (Nat → Int32) × (Nat → Int32) × gRow × gRow × gRow)) :=
  if vc < (-1) then
    (2, (0, (Xtried, Xsecret, wdgr, stgr, rdbl, kybl, clbl, mvbl, labl, Xtext, Xsum, Xcol)))
  else
    if vc ≤ 255 then
      if vc < 0 then
        gLet (F_X9_isMade_l Xe0) fun r_46 =>
        if r_46 = 0 then
          (3, (0, (Xtried, Xsecret, wdgr, stgr, rdbl, kybl, clbl, mvbl, labl, Xtext, Xsum, Xcol)))
        else
          gLet ((F_X3_tryWord Xtried Xsecret Xe0 Xe1 Xe2 Xe3 wdgr stgr rdbl kybl clbl mvbl labl Xtext Xsum).1) fun r_49 =>
          gLet ((F_X3_tryWord Xtried Xsecret Xe0 Xe1 Xe2 Xe3 wdgr stgr rdbl kybl clbl mvbl labl Xtext Xsum).2) fun u_49 =>
          gLet (F_X5_clear Xtried) fun u_52 =>
          if r_49 = 0 then
            gLet (F_X10_shut_l u_49.1 Xcol) fun u_55 =>
            (0, (r_49, ((u_52.1, Xtried.2), (u_55.1.1, u_49.1.2), u_49.2.1, u_49.2.2.1, u_49.2.2.2.1, u_49.2.2.2.2.1, u_49.2.2.2.2.2.1, u_49.2.2.2.2.2.2.1, u_49.2.2.2.2.2.2.2.1, u_49.2.2.2.2.2.2.2.2.1, u_49.2.2.2.2.2.2.2.2.2, (u_55.2.1, Xcol.2))))
          else
            (0, (r_49, ((u_52.1, Xtried.2), u_49.1, u_49.2.1, u_49.2.2.1, u_49.2.2.2.1, u_49.2.2.2.2.1, u_49.2.2.2.2.2.1, u_49.2.2.2.2.2.2.1, u_49.2.2.2.2.2.2.2.1, u_49.2.2.2.2.2.2.2.2.1, u_49.2.2.2.2.2.2.2.2.2, Xcol)))
      else
        gLet (F_X5_hasRoom 127 Xtried 1) fun r_57 =>
        if r_57 = 0 then
          (5, (0, (Xtried, Xsecret, wdgr, stgr, rdbl, kybl, clbl, mvbl, labl, Xtext, Xsum, Xcol)))
        else
          gLet (F_X5_add 127 Xtried vc) fun u_60 =>
          gLet (F_X5_count u_60) fun r_62 =>
          (0, (r_62, (u_60, Xsecret, wdgr, stgr, rdbl, kybl, clbl, mvbl, labl, Xtext, Xsum, Xcol)))
    else
      (2, (0, (Xtried, Xsecret, wdgr, stgr, rdbl, kybl, clbl, mvbl, labl, Xtext, Xsum, Xcol)))
def F_X10_key_l (filt : Int32) (Xsecret : gRow) (Xans : gRow) : Nat × (Int32 × (gRow)) :=
  gLet (F_X9_isOpen_l Xsecret) fun r_25 =>
  if r_25 = 0 then
    (3, (0, Xans))
  else
    if filt = 2 then
      gLet (F_X3_findObjectKey 432 Xsecret Xans) fun u_33 =>
      gLet (F_X5_count u_33) fun r_35 =>
      (0, (r_35, u_33))
    else
      gLet (F_X3_findObjectKey 432 Xsecret Xans) fun u_29 =>
      gLet (F_X5_count u_29) fun r_31 =>
      (0, (r_31, u_29))
def F_X10_filter_l (filt : Int32) (kind : Int32) : Nat × (Int32 × (Int32)) :=
  gLet (F_X3_knowsFilter kind) fun r_11 =>
  if r_11 = 0 then
    (2, (0, filt))
  else
    (0, (filt, kind))
def F_X10_apply_l (cfor : Int32) (cback : Int32) (Xsecret : gRow) (Xcol : gRow) (number : Int32) (back : Int32) (vb : Int32) : Nat × (Int32 × (Int32 × Int32 × gRow)) :=
  gLet (F_X9_isOpen_l Xsecret) fun r_53 =>
  if r_53 = 0 then
    (3, (0, (cfor, cback, Xcol)))
  else
    gLet (F_X5_count Xcol) fun r_56 =>
    if r_56 ≤ 0 then
      gLet (F_X5_hasRoom 400 Xcol 1) fun r_59 =>
      if r_59 = 0 then
        (5, (0, (cfor, cback, Xcol)))
      else
        gLet (F_X5_add 400 Xcol vb) fun u_64 =>
        gLet (F_X5_count u_64) fun r_66 =>
        (0, (r_66, (number, back, u_64)))
    else
      if number = cfor then
        if back = cback then
          gLet (F_X5_hasRoom 400 Xcol 1) fun r_70 =>
          if r_70 = 0 then
            (5, (0, (cfor, cback, Xcol)))
          else
            gLet (F_X5_add 400 Xcol vb) fun u_75 =>
            gLet (F_X5_count u_75) fun r_77 =>
            (0, (r_77, (number, back, u_75)))
        else
          (3, (0, (cfor, cback, Xcol)))
      else
        (3, (0, (cfor, cback, Xcol)))
def F_X10_out_l (Xans : gRow) (vi : Int32) : Nat × Int32 :=
  if vi < 0 then
    (1, 0)
  else
    gLet (F_X5_count Xans) fun r_14 =>
    if vi < r_14 then
      gLet (F_X5_at 432 Xans vi) fun r_17 =>
      (0, (r_17.toInt8.toInt32))
    else
      (1, 0)
def F_X10_digest_l (bksm : Nat → Int32) (stsm : Nat → Int32) (wdgr : Nat → Int32) (stgr : Nat → Int32) (Xcol : gRow) (Xans : gRow) (kind : Int32) : Nat × (Int32 × ((Nat → Int32) × (Nat → Int32) × (Nat → Int32) × (Nat → Int32) × gRow)) :=
  if kind = 0 then
    gLet (F_X6_sum 400 432 bksm stsm Xcol Xans) fun u_27 =>
    gLet (F_X5_count u_27.2.2) fun r_29 =>
    (0, (r_29, (u_27.1, u_27.2.1, wdgr, stgr, u_27.2.2)))
  else
    if kind = 1 then
      gLet (F_X2_sum 400 432 wdgr stgr Xcol Xans) fun u_33 =>
      gLet (F_X5_count u_33.2.2) fun r_35 =>
      (0, (r_35, (bksm, stsm, u_33.1, u_33.2.1, u_33.2.2)))
    else
      (2, (0, (bksm, stsm, wdgr, stgr, Xans)))
def F_X10_told_l (given : Int32) (perm : Int32) (Xtape : gRow) (Xsecret : gRow) (Xe4 : gRow) (rdbl : Int32) (kybl : Nat → Int32) (clbl : Nat → Int32) (mvbl : Nat → Int32) (labl : Nat → Int32) (Xtext : gRow) (Xcol : gRow) (Xans : gRow) (vi : Int32) : Nat × (Int32 × (Int32 × (Nat → Int32) × (Nat → Int32) × (Nat → Int32) × (Nat → Int32) × gRow)) :=
  if vi = 0 then
    gLet (F_X5_count Xcol) fun r_26 =>
    (0, (r_26, (rdbl, kybl, clbl, mvbl, labl, Xtext)))
  else
    if vi = 1 then
      gLet (F_X9_tapeLeft_l given Xtape) fun r_29 =>
      (0, (r_29, (rdbl, kybl, clbl, mvbl, labl, Xtext)))
    else
      if vi = 2 then
        gLet (F_X5_count Xans) fun r_32 =>
        (0, (r_32, (rdbl, kybl, clbl, mvbl, labl, Xtext)))
      else
        if vi = 3 then
          gLet ((F_X3_tellPermissions perm Xsecret Xe4 rdbl kybl clbl mvbl labl Xtext).1) fun r_35 =>
          gLet ((F_X3_tellPermissions perm Xsecret Xe4 rdbl kybl clbl mvbl labl Xtext).2) fun u_35 =>
          (0, (r_35, (u_35.1, u_35.2.1, u_35.2.2.1, u_35.2.2.2.1, u_35.2.2.2.2.1, u_35.2.2.2.2.2)))
        else
          (4, (0, (rdbl, kybl, clbl, mvbl, labl, Xtext)))
