theorem Lc_X10_word_e (Xuser : gRow) (Xowner : gRow) (vc : Int32) (own : Int32) : (F_X10_word_e Xuser Xowner vc own).1 = 0 ∨ (F_X10_word_e Xuser Xowner vc own).1 = 5 := by
  unfold F_X10_word_e
  dsimp only [gLet]
  repeat' split
  all_goals simp
theorem Lc_X10_id_e (Xident : gRow) (vb : Int32) : (F_X10_id_e Xident vb).1 = 0 ∨ (F_X10_id_e Xident vb).1 = 5 := by
  unfold F_X10_id_e
  dsimp only [gLet]
  repeat' split
  all_goals simp
theorem Lc_X10_tape_e (Xtape : gRow) (vw : Int32) : (F_X10_tape_e Xtape vw).1 = 0 ∨ (F_X10_tape_e Xtape vw).1 = 5 := by
  unfold F_X10_tape_e
  dsimp only [gLet]
  repeat' split
  all_goals simp
theorem Lc_X10_make_e (rv : Nat) (given : Int32) (perm : Int32) (plain : Int32) (Xuser : gRow) (Xowner : gRow) (Xident : gRow) (Xtape : gRow) (Xsecret : gRow) (Xe0 : gRow) (Xe1 : gRow) (bksm : Nat → Int32) (stsm : Nat → Int32) (mxsr : Nat → Int32) (Xtext : gRow) (Xsum : gRow) (Xpad : gRow) (Xcol : gRow) (vp : Int32) : (F_X10_make_e rv given perm plain Xuser Xowner Xident Xtape Xsecret Xe0 Xe1 bksm stsm mxsr Xtext Xsum Xpad Xcol vp).1 = 0 ∨ (F_X10_make_e rv given perm plain Xuser Xowner Xident Xtape Xsecret Xe0 Xe1 bksm stsm mxsr Xtext Xsum Xpad Xcol vp).1 = 3 := by
  unfold F_X10_make_e
  dsimp only [gLet]
  repeat' split
  all_goals simp
theorem Lc_X10_entry_e (Xe0 : gRow) (Xe1 : gRow) (Xnoe : gRow) (which : Int32) (vi : Int32) : (F_X10_entry_e Xe0 Xe1 Xnoe which vi).1 = 0 ∨ (F_X10_entry_e Xe0 Xe1 Xnoe which vi).1 = 4 := by
  unfold F_X10_entry_e
  dsimp only [gLet]
  repeat' split
  all_goals simp
theorem Lc_X10_alter_e (Xsecret : gRow) (Xe0 : gRow) (Xe1 : gRow) (Xnoe : gRow) (Xcol : gRow) (which : Int32) (vi : Int32) (vb : Int32) : (F_X10_alter_e Xsecret Xe0 Xe1 Xnoe Xcol which vi vb).1 = 0 ∨ (F_X10_alter_e Xsecret Xe0 Xe1 Xnoe Xcol which vi vb).1 = 4 := by
  unfold F_X10_alter_e
  dsimp only [gLet]
  repeat' split
  all_goals simp
theorem Lc_X10_open_e (rv : Nat) (perm : Int32) (plain : Int32) (Xtried : gRow) (Xident : gRow) (Xsecret : gRow) (Xe0 : gRow) (Xe1 : gRow) (bksm : Nat → Int32) (stsm : Nat → Int32) (mxsr : Nat → Int32) (Xtext : gRow) (Xsum : gRow) (Xpad : gRow) (Xchk : gRow) (Xcol : gRow) (vc : Int32) : (F_X10_open_e rv perm plain Xtried Xident Xsecret Xe0 Xe1 bksm stsm mxsr Xtext Xsum Xpad Xchk Xcol vc).1 = 0 ∨ (F_X10_open_e rv perm plain Xtried Xident Xsecret Xe0 Xe1 bksm stsm mxsr Xtext Xsum Xpad Xchk Xcol vc).1 = 2 ∨ (F_X10_open_e rv perm plain Xtried Xident Xsecret Xe0 Xe1 bksm stsm mxsr Xtext Xsum Xpad Xchk Xcol vc).1 = 3 ∨ (F_X10_open_e rv perm plain Xtried Xident Xsecret Xe0 Xe1 bksm stsm mxsr Xtext Xsum Xpad Xchk Xcol vc).1 = 5 := by
  unfold F_X10_open_e
  dsimp only [gLet]
  repeat' split
  all_goals simp
theorem Lc_X10_key_e (filt : Int32) (Xsecret : gRow) (bksm : Nat → Int32) (stsm : Nat → Int32) (Xtext : gRow) (Xans : gRow) (number : Int32) (generation : Int32) : (F_X10_key_e filt Xsecret bksm stsm Xtext Xans number generation).1 = 0 ∨ (F_X10_key_e filt Xsecret bksm stsm Xtext Xans number generation).1 = 3 := by
  unfold F_X10_key_e
  dsimp only [gLet]
  repeat' split
  all_goals simp
theorem Lc_X10_filter_e (rv : Nat) (filt : Int32) (kind : Int32) : (F_X10_filter_e rv filt kind).1 = 0 ∨ (F_X10_filter_e rv filt kind).1 = 2 := by
  unfold F_X10_filter_e
  dsimp only [gLet]
  repeat' split
  all_goals simp
theorem Lc_X10_apply_e (cfor : Int32) (cback : Int32) (Xsecret : gRow) (Xcol : gRow) (number : Int32) (back : Int32) (vb : Int32) : (F_X10_apply_e cfor cback Xsecret Xcol number back vb).1 = 0 ∨ (F_X10_apply_e cfor cback Xsecret Xcol number back vb).1 = 3 ∨ (F_X10_apply_e cfor cback Xsecret Xcol number back vb).1 = 5 := by
  unfold F_X10_apply_e
  dsimp only [gLet]
  repeat' split
  all_goals simp
theorem Lc_X10_out_e (Xans : gRow) (vi : Int32) : (F_X10_out_e Xans vi).1 = 0 ∨ (F_X10_out_e Xans vi).1 = 1 := by
  unfold F_X10_out_e
  dsimp only [gLet]
  repeat' split
  all_goals simp
theorem Lc_X10_digest_e (bksm : Nat → Int32) (stsm : Nat → Int32) (wdgr : Nat → Int32) (stgr : Nat → Int32) (Xcol : gRow) (Xans : gRow) (kind : Int32) : (F_X10_digest_e bksm stsm wdgr stgr Xcol Xans kind).1 = 0 ∨ (F_X10_digest_e bksm stsm wdgr stgr Xcol Xans kind).1 = 2 := by
  unfold F_X10_digest_e
  dsimp only [gLet]
  repeat' split
  all_goals simp
theorem Lc_X10_told_e (given : Int32) (perm : Int32) (Xtape : gRow) (Xcol : gRow) (Xans : gRow) (vi : Int32) : (F_X10_told_e given perm Xtape Xcol Xans vi).1 = 0 ∨ (F_X10_told_e given perm Xtape Xcol Xans vi).1 = 4 := by
  unfold F_X10_told_e
  dsimp only [gLet]
  repeat' split
  all_goals simp
theorem Lc_X10_word_l (Xuser : gRow) (Xowner : gRow) (vc : Int32) (own : Int32) : (F_X10_word_l Xuser Xowner vc own).1 = 0 ∨ (F_X10_word_l Xuser Xowner vc own).1 = 5 := by
  unfold F_X10_word_l
  dsimp only [gLet]
  repeat' split
  all_goals simp
theorem Lc_X10_id_l (Xident : gRow) (vb : Int32) : (F_X10_id_l Xident vb).1 = 0 ∨ (F_X10_id_l Xident vb).1 = 5 := by
  unfold F_X10_id_l
  dsimp only [gLet]
  repeat' split
  all_goals simp
theorem Lc_X10_tape_l (Xtape : gRow) (vw : Int32) : (F_X10_tape_l Xtape vw).1 = 0 ∨ (F_X10_tape_l Xtape vw).1 = 5 := by
  unfold F_X10_tape_l
  dsimp only [gLet]
  repeat' split
  all_goals simp
theorem Lc_X10_make_l (given : Int32) (perm : Int32) (plain : Int32) (Xuser : gRow) (Xowner : gRow) (Xtape : gRow) (Xsecret : gRow) (Xe0 : gRow) (Xe1 : gRow) (Xe2 : gRow) (Xe3 : gRow) (Xe4 : gRow) (wdgr : Nat → Int32) (stgr : Nat → Int32) (rdbl : Int32) (kybl : Nat → Int32) (clbl : Nat → Int32) (mvbl : Nat → Int32) (labl : Nat → Int32) (Xtext : gRow) (Xsum : gRow) (Xch : gRow) (Xcol : gRow) (vp : Int32) : (F_X10_make_l given perm plain Xuser Xowner Xtape Xsecret Xe0 Xe1 Xe2 Xe3 Xe4 wdgr stgr rdbl kybl clbl mvbl labl Xtext Xsum Xch Xcol vp).1 = 0 ∨ (F_X10_make_l given perm plain Xuser Xowner Xtape Xsecret Xe0 Xe1 Xe2 Xe3 Xe4 wdgr stgr rdbl kybl clbl mvbl labl Xtext Xsum Xch Xcol vp).1 = 3 := by
  unfold F_X10_make_l
  dsimp only [gLet]
  repeat' split
  all_goals simp
theorem Lc_X10_entry_l (Xe0 : gRow) (Xe1 : gRow) (Xe2 : gRow) (Xe3 : gRow) (Xe4 : gRow) (Xnoe : gRow) (which : Int32) (vi : Int32) : (F_X10_entry_l Xe0 Xe1 Xe2 Xe3 Xe4 Xnoe which vi).1 = 0 ∨ (F_X10_entry_l Xe0 Xe1 Xe2 Xe3 Xe4 Xnoe which vi).1 = 4 := by
  unfold F_X10_entry_l
  dsimp only [gLet]
  repeat' split
  all_goals simp
theorem Lc_X10_alter_l (Xsecret : gRow) (Xe0 : gRow) (Xe1 : gRow) (Xe2 : gRow) (Xe3 : gRow) (Xe4 : gRow) (Xnoe : gRow) (Xcol : gRow) (which : Int32) (vi : Int32) (vb : Int32) : (F_X10_alter_l Xsecret Xe0 Xe1 Xe2 Xe3 Xe4 Xnoe Xcol which vi vb).1 = 0 ∨ (F_X10_alter_l Xsecret Xe0 Xe1 Xe2 Xe3 Xe4 Xnoe Xcol which vi vb).1 = 4 := by
  unfold F_X10_alter_l
  dsimp only [gLet]
  repeat' split
  all_goals simp
theorem Lc_X10_open_l (Xtried : gRow) (Xsecret : gRow) (Xe0 : gRow) (Xe1 : gRow) (Xe2 : gRow) (Xe3 : gRow) (wdgr : Nat → Int32) (stgr : Nat → Int32) (rdbl : Int32) (kybl : Nat → Int32) (clbl : Nat → Int32) (mvbl : Nat → Int32) (labl : Nat → Int32) (Xtext : gRow) (Xsum : gRow) (Xcol : gRow) (vc : Int32) : (F_X10_open_l Xtried Xsecret Xe0 Xe1 Xe2 Xe3 wdgr stgr rdbl kybl clbl mvbl labl Xtext Xsum Xcol vc).1 = 0 ∨ (F_X10_open_l Xtried Xsecret Xe0 Xe1 Xe2 Xe3 wdgr stgr rdbl kybl clbl mvbl labl Xtext Xsum Xcol vc).1 = 2 ∨ (F_X10_open_l Xtried Xsecret Xe0 Xe1 Xe2 Xe3 wdgr stgr rdbl kybl clbl mvbl labl Xtext Xsum Xcol vc).1 = 3 ∨ (F_X10_open_l Xtried Xsecret Xe0 Xe1 Xe2 Xe3 wdgr stgr rdbl kybl clbl mvbl labl Xtext Xsum Xcol vc).1 = 5 := by
  unfold F_X10_open_l
  dsimp only [gLet]
  repeat' split
  all_goals simp
theorem Lc_X10_key_l (filt : Int32) (Xsecret : gRow) (Xans : gRow) : (F_X10_key_l filt Xsecret Xans).1 = 0 ∨ (F_X10_key_l filt Xsecret Xans).1 = 3 := by
  unfold F_X10_key_l
  dsimp only [gLet]
  repeat' split
  all_goals simp
theorem Lc_X10_filter_l (filt : Int32) (kind : Int32) : (F_X10_filter_l filt kind).1 = 0 ∨ (F_X10_filter_l filt kind).1 = 2 := by
  unfold F_X10_filter_l
  dsimp only [gLet]
  repeat' split
  all_goals simp
theorem Lc_X10_apply_l (cfor : Int32) (cback : Int32) (Xsecret : gRow) (Xcol : gRow) (number : Int32) (back : Int32) (vb : Int32) : (F_X10_apply_l cfor cback Xsecret Xcol number back vb).1 = 0 ∨ (F_X10_apply_l cfor cback Xsecret Xcol number back vb).1 = 3 ∨ (F_X10_apply_l cfor cback Xsecret Xcol number back vb).1 = 5 := by
  unfold F_X10_apply_l
  dsimp only [gLet]
  repeat' split
  all_goals simp
theorem Lc_X10_out_l (Xans : gRow) (vi : Int32) : (F_X10_out_l Xans vi).1 = 0 ∨ (F_X10_out_l Xans vi).1 = 1 := by
  unfold F_X10_out_l
  dsimp only [gLet]
  repeat' split
  all_goals simp
theorem Lc_X10_digest_l (bksm : Nat → Int32) (stsm : Nat → Int32) (wdgr : Nat → Int32) (stgr : Nat → Int32) (Xcol : gRow) (Xans : gRow) (kind : Int32) : (F_X10_digest_l bksm stsm wdgr stgr Xcol Xans kind).1 = 0 ∨ (F_X10_digest_l bksm stsm wdgr stgr Xcol Xans kind).1 = 2 := by
  unfold F_X10_digest_l
  dsimp only [gLet]
  repeat' split
  all_goals simp
theorem Lc_X10_told_l (given : Int32) (perm : Int32) (Xtape : gRow) (Xsecret : gRow) (Xe4 : gRow) (rdbl : Int32) (kybl : Nat → Int32) (clbl : Nat → Int32) (mvbl : Nat → Int32) (labl : Nat → Int32) (Xtext : gRow) (Xcol : gRow) (Xans : gRow) (vi : Int32) : (F_X10_told_l given perm Xtape Xsecret Xe4 rdbl kybl clbl mvbl labl Xtext Xcol Xans vi).1 = 0 ∨ (F_X10_told_l given perm Xtape Xsecret Xe4 rdbl kybl clbl mvbl labl Xtext Xcol Xans vi).1 = 4 := by
  unfold F_X10_told_l
  dsimp only [gLet]
  repeat' split
  all_goals simp
def F_L_word_e (Xuser : gRow) (Xowner : gRow) (gg : Nat → Int64) (vc : Int32) (own : Int32) : Int32 × (gRow × gRow × (Nat → Int64)) :=
  gLet (F_X10_word_e Xuser Xowner vc own) fun t_25 =>
  if t_25.1 = 0 then
    (0, (t_25.2.2.1, t_25.2.2.2, (vp_updL gg (0 : Int32).toNatClampNeg (t_25.2.1.toInt64))))
  else
    (1, (Xuser, Xowner, gg))
def F_L_id_e (Xident : gRow) (vb : Int32) : Int32 × (gRow) :=
  gLet (F_X10_id_e Xident vb) fun t_23 =>
  if t_23.1 = 0 then
    (0, t_23.2)
  else
    (1, Xident)
def F_L_tape_e (Xtape : gRow) (gg : Nat → Int64) (vw : Int32) : Int32 × (gRow × (Nat → Int64)) :=
  gLet (F_X10_tape_e Xtape vw) fun t_25 =>
  if t_25.1 = 0 then
    (0, (t_25.2.2, (vp_updL gg (0 : Int32).toNatClampNeg (t_25.2.1.toInt64))))
  else
    (1, (Xtape, gg))
def F_L_make_e (rv : Nat) (given : Int32) (perm : Int32) (plain : Int32) (Xuser : gRow) (Xowner : gRow) (Xident : gRow) (Xtape : gRow) (Xsecret : gRow) (Xe0 : gRow) (Xe1 : gRow) (bksm : Nat → Int32) (stsm : Nat → Int32) (mxsr : Nat → Int32) (Xtext : gRow) (Xsum : gRow) (Xpad : gRow) (Xcol : gRow) (gg : Nat → Int64) (vp : Int32) : Int32 × (Int32 × gRow × gRow × gRow × (Nat → Int32) × (Nat → Int32) × (Nat → Int32) × gRow × gRow × gRow × gRow × (Nat → Int64)) :=
  gLet (F_X10_make_e rv given perm plain Xuser Xowner Xident Xtape Xsecret Xe0 Xe1 bksm stsm mxsr Xtext Xsum Xpad Xcol vp) fun t_25 =>
  if t_25.1 = 0 then
    (0, (t_25.2.2.1, (t_25.2.2.2.1.1, Xsecret.2), t_25.2.2.2.2.1, t_25.2.2.2.2.2.1, t_25.2.2.2.2.2.2.1, t_25.2.2.2.2.2.2.2.1, t_25.2.2.2.2.2.2.2.2.1, t_25.2.2.2.2.2.2.2.2.2.1, t_25.2.2.2.2.2.2.2.2.2.2.1, t_25.2.2.2.2.2.2.2.2.2.2.2.1, (t_25.2.2.2.2.2.2.2.2.2.2.2.2.1, Xcol.2), (vp_updL gg (0 : Int32).toNatClampNeg (t_25.2.1.toInt64))))
  else
    (1, (perm, Xsecret, Xe0, Xe1, bksm, stsm, mxsr, Xtext, Xsum, Xpad, Xcol, gg))
def F_L_entry_e (Xe0 : gRow) (Xe1 : gRow) (Xnoe : gRow) (gg : Nat → Int64) (which : Int32) (vi : Int32) : Int32 × (Nat → Int64) :=
  gLet (F_X10_entry_e Xe0 Xe1 Xnoe which vi) fun t_25 =>
  if t_25.1 = 0 then
    (0, (vp_updL gg (0 : Int32).toNatClampNeg (t_25.2.toInt64)))
  else
    (1, gg)
def F_L_alter_e (Xsecret : gRow) (Xe0 : gRow) (Xe1 : gRow) (Xnoe : gRow) (Xcol : gRow) (which : Int32) (vi : Int32) (vb : Int32) : Int32 × (gRow × gRow × gRow × gRow × gRow) :=
  gLet (F_X10_alter_e Xsecret Xe0 Xe1 Xnoe Xcol which vi vb) fun t_23 =>
  if t_23.1 = 0 then
    (0, ((t_23.2.1.1, Xsecret.2), t_23.2.2.1, t_23.2.2.2.1, t_23.2.2.2.2.1, (t_23.2.2.2.2.2.1, Xcol.2)))
  else
    (1, (Xsecret, Xe0, Xe1, Xnoe, Xcol))
def F_L_open_e (rv : Nat) (perm : Int32) (plain : Int32) (Xtried : gRow) (Xident : gRow) (Xsecret : gRow) (Xe0 : gRow) (Xe1 : gRow) (bksm : Nat → Int32) (stsm : Nat → Int32) (mxsr : Nat → Int32) (Xtext : gRow) (Xsum : gRow) (Xpad : gRow) (Xchk : gRow) (Xcol : gRow) (gg : Nat → Int64) (vc : Int32) : Int32 × (gRow × gRow × (Nat → Int32) × (Nat → Int32) × (Nat → Int32) × gRow × gRow × gRow × gRow × gRow × (Nat → Int64)) :=
  gLet (F_X10_open_e rv perm plain Xtried Xident Xsecret Xe0 Xe1 bksm stsm mxsr Xtext Xsum Xpad Xchk Xcol vc) fun t_33 =>
  if t_33.1 = 0 then
    (0, (t_33.2.2.1, t_33.2.2.2.1, t_33.2.2.2.2.1, t_33.2.2.2.2.2.1, t_33.2.2.2.2.2.2.1, t_33.2.2.2.2.2.2.2.1, t_33.2.2.2.2.2.2.2.2.1, t_33.2.2.2.2.2.2.2.2.2.1, t_33.2.2.2.2.2.2.2.2.2.2.1, (t_33.2.2.2.2.2.2.2.2.2.2.2.1, Xcol.2), (vp_updL gg (0 : Int32).toNatClampNeg (t_33.2.1.toInt64))))
  else
    if t_33.1 = 2 then
      (1, (Xtried, Xsecret, bksm, stsm, mxsr, Xtext, Xsum, Xpad, Xchk, Xcol, gg))
    else
      if t_33.1 = 3 then
        (2, (Xtried, Xsecret, bksm, stsm, mxsr, Xtext, Xsum, Xpad, Xchk, Xcol, gg))
      else
        (3, (Xtried, Xsecret, bksm, stsm, mxsr, Xtext, Xsum, Xpad, Xchk, Xcol, gg))
def F_L_key_e (filt : Int32) (Xsecret : gRow) (bksm : Nat → Int32) (stsm : Nat → Int32) (Xtext : gRow) (Xans : gRow) (gg : Nat → Int64) (number : Int32) (generation : Int32) : Int32 × ((Nat → Int32) × (Nat → Int32) × gRow × gRow × (Nat → Int64)) :=
  gLet (F_X10_key_e filt Xsecret bksm stsm Xtext Xans number generation) fun t_25 =>
  if t_25.1 = 0 then
    (0, (t_25.2.2.1, t_25.2.2.2.1, t_25.2.2.2.2.1, t_25.2.2.2.2.2, (vp_updL gg (0 : Int32).toNatClampNeg (t_25.2.1.toInt64))))
  else
    (1, (bksm, stsm, Xtext, Xans, gg))
def F_L_filter_e (rv : Nat) (filt : Int32) (gg : Nat → Int64) (kind : Int32) : Int32 × (Int32 × (Nat → Int64)) :=
  gLet (F_X10_filter_e rv filt kind) fun t_25 =>
  if t_25.1 = 0 then
    (0, (t_25.2.2, (vp_updL gg (0 : Int32).toNatClampNeg (t_25.2.1.toInt64))))
  else
    (1, (filt, gg))
def F_L_apply_e (cfor : Int32) (cback : Int32) (Xsecret : gRow) (Xcol : gRow) (gg : Nat → Int64) (number : Int32) (back : Int32) (vb : Int32) : Int32 × (Int32 × Int32 × gRow × (Nat → Int64)) :=
  gLet (F_X10_apply_e cfor cback Xsecret Xcol number back vb) fun t_29 =>
  if t_29.1 = 0 then
    (0, (t_29.2.2.1, t_29.2.2.2.1, t_29.2.2.2.2, (vp_updL gg (0 : Int32).toNatClampNeg (t_29.2.1.toInt64))))
  else
    if t_29.1 = 3 then
      (1, (cfor, cback, Xcol, gg))
    else
      (2, (cfor, cback, Xcol, gg))
def F_L_out_e (Xans : gRow) (gg : Nat → Int64) (vi : Int32) : Int32 × (Nat → Int64) :=
  gLet (F_X10_out_e Xans vi) fun t_25 =>
  if t_25.1 = 0 then
    (0, (vp_updL gg (0 : Int32).toNatClampNeg (t_25.2.toInt64)))
  else
    (1, gg)
def F_L_digest_e (bksm : Nat → Int32) (stsm : Nat → Int32) (wdgr : Nat → Int32) (stgr : Nat → Int32) (Xcol : gRow) (Xans : gRow) (gg : Nat → Int64) (kind : Int32) : Int32 × ((Nat → Int32) × (Nat → Int32) × (Nat → Int32) × (Nat → Int32) × gRow × (Nat → Int64)) :=
  gLet (F_X10_digest_e bksm stsm wdgr stgr Xcol Xans kind) fun t_25 =>
  if t_25.1 = 0 then
    (0, (t_25.2.2.1, t_25.2.2.2.1, t_25.2.2.2.2.1, t_25.2.2.2.2.2.1, t_25.2.2.2.2.2.2, (vp_updL gg (0 : Int32).toNatClampNeg (t_25.2.1.toInt64))))
  else
    (1, (bksm, stsm, wdgr, stgr, Xans, gg))
def F_L_told_e (given : Int32) (perm : Int32) (Xtape : gRow) (Xcol : gRow) (Xans : gRow) (gg : Nat → Int64) (vi : Int32) : Int32 × (Nat → Int64) :=
  gLet (F_X10_told_e given perm Xtape Xcol Xans vi) fun t_25 =>
  if t_25.1 = 0 then
    (0, (vp_updL gg (0 : Int32).toNatClampNeg (t_25.2.toInt64)))
  else
    (1, gg)
def F_L_word_l (Xuser : gRow) (Xowner : gRow) (gg : Nat → Int64) (vc : Int32) (own : Int32) : Int32 × (gRow × gRow × (Nat → Int64)) :=
  gLet (F_X10_word_l Xuser Xowner vc own) fun t_25 =>
  if t_25.1 = 0 then
    (0, (t_25.2.2.1, t_25.2.2.2, (vp_updL gg (0 : Int32).toNatClampNeg (t_25.2.1.toInt64))))
  else
    (1, (Xuser, Xowner, gg))
def F_L_id_l (Xident : gRow) (vb : Int32) : Int32 × (gRow) :=
  gLet (F_X10_id_l Xident vb) fun t_23 =>
  if t_23.1 = 0 then
    (0, t_23.2)
  else
    (1, Xident)
def F_L_tape_l (Xtape : gRow) (gg : Nat → Int64) (vw : Int32) : Int32 × (gRow × (Nat → Int64)) :=
  gLet (F_X10_tape_l Xtape vw) fun t_25 =>
  if t_25.1 = 0 then
    (0, (t_25.2.2, (vp_updL gg (0 : Int32).toNatClampNeg (t_25.2.1.toInt64))))
  else
    (1, (Xtape, gg))
def F_L_make_l (given : Int32) (perm : Int32) (plain : Int32) (Xuser : gRow) (Xowner : gRow) (Xtape : gRow) (Xsecret : gRow) (Xe0 : gRow) (Xe1 : gRow) (Xe2 : gRow) (Xe3 : gRow) (Xe4 : gRow) (wdgr : Nat → Int32) (stgr : Nat → Int32) (rdbl : Int32) (kybl : Nat → Int32) (clbl : Nat → Int32) (mvbl : Nat → Int32) (labl : Nat → Int32) (Xtext : gRow) (Xsum : gRow) (Xch : gRow) (Xcol : gRow) (gg : Nat → Int64) (vp : Int32) : Int32 × (Int32 × Int32 × gRow × gRow × gRow × gRow × gRow × gRow × (Nat → Int32) × (Nat → Int32) × Int32 × (Nat → Int32) × (Nat → Int32) × (Nat → Int32) × (Nat → Int32) × gRow × gRow × gRow × gRow × (Nat → Int64)) :=
  gLet (F_X10_make_l given perm plain Xuser Xowner Xtape Xsecret Xe0 Xe1 Xe2 Xe3 Xe4 wdgr stgr rdbl kybl clbl mvbl labl Xtext Xsum Xch Xcol vp) fun t_25 =>
  if t_25.1 = 0 then
    (0, (t_25.2.2.1, t_25.2.2.2.1, (t_25.2.2.2.2.1.1, Xsecret.2), t_25.2.2.2.2.2.1, t_25.2.2.2.2.2.2.1, t_25.2.2.2.2.2.2.2.1, t_25.2.2.2.2.2.2.2.2.1, t_25.2.2.2.2.2.2.2.2.2.1, t_25.2.2.2.2.2.2.2.2.2.2.1, t_25.2.2.2.2.2.2.2.2.2.2.2.1, t_25.2.2.2.2.2.2.2.2.2.2.2.2.1, t_25.2.2.2.2.2.2.2.2.2.2.2.2.2.1, t_25.2.2.2.2.2.2.2.2.2.2.2.2.2.2.1, t_25.2.2.2.2.2.2.2.2.2.2.2.2.2.2.2.1, t_25.2.2.2.2.2.2.2.2.2.2.2.2.2.2.2.2.1, t_25.2.2.2.2.2.2.2.2.2.2.2.2.2.2.2.2.2.1, t_25.2.2.2.2.2.2.2.2.2.2.2.2.2.2.2.2.2.2.1, t_25.2.2.2.2.2.2.2.2.2.2.2.2.2.2.2.2.2.2.2.1, (t_25.2.2.2.2.2.2.2.2.2.2.2.2.2.2.2.2.2.2.2.2.1, Xcol.2), (vp_updL gg (0 : Int32).toNatClampNeg (t_25.2.1.toInt64))))
  else
    (1, (given, perm, Xsecret, Xe0, Xe1, Xe2, Xe3, Xe4, wdgr, stgr, rdbl, kybl, clbl, mvbl, labl, Xtext, Xsum, Xch, Xcol, gg))
def F_L_entry_l (Xe0 : gRow) (Xe1 : gRow) (Xe2 : gRow) (Xe3 : gRow) (Xe4 : gRow) (Xnoe : gRow) (gg : Nat → Int64) (which : Int32) (vi : Int32) : Int32 × (Nat → Int64) :=
  gLet (F_X10_entry_l Xe0 Xe1 Xe2 Xe3 Xe4 Xnoe which vi) fun t_25 =>
  if t_25.1 = 0 then
    (0, (vp_updL gg (0 : Int32).toNatClampNeg (t_25.2.toInt64)))
  else
    (1, gg)
def F_L_alter_l (Xsecret : gRow) (Xe0 : gRow) (Xe1 : gRow) (Xe2 : gRow) (Xe3 : gRow) (Xe4 : gRow) (Xnoe : gRow) (Xcol : gRow) (which : Int32) (vi : Int32) (vb : Int32) : Int32 × (gRow × gRow × gRow × gRow × gRow × gRow × gRow × gRow) :=
  gLet (F_X10_alter_l Xsecret Xe0 Xe1 Xe2 Xe3 Xe4 Xnoe Xcol which vi vb) fun t_23 =>
  if t_23.1 = 0 then
    (0, ((t_23.2.1.1, Xsecret.2), t_23.2.2.1, t_23.2.2.2.1, t_23.2.2.2.2.1, t_23.2.2.2.2.2.1, t_23.2.2.2.2.2.2.1, t_23.2.2.2.2.2.2.2.1, (t_23.2.2.2.2.2.2.2.2.1, Xcol.2)))
  else
    (1, (Xsecret, Xe0, Xe1, Xe2, Xe3, Xe4, Xnoe, Xcol))
def F_L_open_l (Xtried : gRow) (Xsecret : gRow) (Xe0 : gRow) (Xe1 : gRow) (Xe2 : gRow) (Xe3 : gRow) (wdgr : Nat → Int32) (stgr : Nat → Int32) (rdbl : Int32) (kybl : Nat → Int32) (clbl : Nat → Int32) (mvbl : Nat → Int32) (labl : Nat → Int32) (Xtext : gRow) (Xsum : gRow) (Xcol : gRow) (gg : Nat → Int64) (vc : Int32) : Int32 × (gRow × gRow × (Nat → Int32) × (Nat → Int32) × Int32 × (Nat → Int32) × (Nat → Int32) × (Nat → Int32) × (Nat → Int32) × gRow × gRow × gRow × (Nat → Int64)) :=
  gLet (F_X10_open_l Xtried Xsecret Xe0 Xe1 Xe2 Xe3 wdgr stgr rdbl kybl clbl mvbl labl Xtext Xsum Xcol vc) fun t_33 =>
  if t_33.1 = 0 then
    (0, (t_33.2.2.1, t_33.2.2.2.1, t_33.2.2.2.2.1, t_33.2.2.2.2.2.1, t_33.2.2.2.2.2.2.1, t_33.2.2.2.2.2.2.2.1, t_33.2.2.2.2.2.2.2.2.1, t_33.2.2.2.2.2.2.2.2.2.1, t_33.2.2.2.2.2.2.2.2.2.2.1, t_33.2.2.2.2.2.2.2.2.2.2.2.1, t_33.2.2.2.2.2.2.2.2.2.2.2.2.1, (t_33.2.2.2.2.2.2.2.2.2.2.2.2.2.1, Xcol.2), (vp_updL gg (0 : Int32).toNatClampNeg (t_33.2.1.toInt64))))
  else
    if t_33.1 = 2 then
      (1, (Xtried, Xsecret, wdgr, stgr, rdbl, kybl, clbl, mvbl, labl, Xtext, Xsum, Xcol, gg))
    else
      if t_33.1 = 3 then
        (2, (Xtried, Xsecret, wdgr, stgr, rdbl, kybl, clbl, mvbl, labl, Xtext, Xsum, Xcol, gg))
      else
        (3, (Xtried, Xsecret, wdgr, stgr, rdbl, kybl, clbl, mvbl, labl, Xtext, Xsum, Xcol, gg))
def F_L_key_l (filt : Int32) (Xsecret : gRow) (Xans : gRow) (gg : Nat → Int64) : Int32 × (gRow × (Nat → Int64)) :=
  gLet (F_X10_key_l filt Xsecret Xans) fun t_25 =>
  if t_25.1 = 0 then
    (0, (t_25.2.2, (vp_updL gg (0 : Int32).toNatClampNeg (t_25.2.1.toInt64))))
  else
    (1, (Xans, gg))
def F_L_filter_l (filt : Int32) (gg : Nat → Int64) (kind : Int32) : Int32 × (Int32 × (Nat → Int64)) :=
  gLet (F_X10_filter_l filt kind) fun t_25 =>
  if t_25.1 = 0 then
    (0, (t_25.2.2, (vp_updL gg (0 : Int32).toNatClampNeg (t_25.2.1.toInt64))))
  else
    (1, (filt, gg))
def F_L_apply_l (cfor : Int32) (cback : Int32) (Xsecret : gRow) (Xcol : gRow) (gg : Nat → Int64) (number : Int32) (back : Int32) (vb : Int32) : Int32 × (Int32 × Int32 × gRow × (Nat → Int64)) :=
  gLet (F_X10_apply_l cfor cback Xsecret Xcol number back vb) fun t_29 =>
  if t_29.1 = 0 then
    (0, (t_29.2.2.1, t_29.2.2.2.1, t_29.2.2.2.2, (vp_updL gg (0 : Int32).toNatClampNeg (t_29.2.1.toInt64))))
  else
    if t_29.1 = 3 then
      (1, (cfor, cback, Xcol, gg))
    else
      (2, (cfor, cback, Xcol, gg))
def F_L_out_l (Xans : gRow) (gg : Nat → Int64) (vi : Int32) : Int32 × (Nat → Int64) :=
  gLet (F_X10_out_l Xans vi) fun t_25 =>
  if t_25.1 = 0 then
    (0, (vp_updL gg (0 : Int32).toNatClampNeg (t_25.2.toInt64)))
  else
    (1, gg)
def F_L_digest_l (bksm : Nat → Int32) (stsm : Nat → Int32) (wdgr : Nat → Int32) (stgr : Nat → Int32) (Xcol : gRow) (Xans : gRow) (gg : Nat → Int64) (kind : Int32) : Int32 × ((Nat → Int32) × (Nat → Int32) × (Nat → Int32) × (Nat → Int32) × gRow × (Nat → Int64)) :=
  gLet (F_X10_digest_l bksm stsm wdgr stgr Xcol Xans kind) fun t_25 =>
  if t_25.1 = 0 then
    (0, (t_25.2.2.1, t_25.2.2.2.1, t_25.2.2.2.2.1, t_25.2.2.2.2.2.1, t_25.2.2.2.2.2.2, (vp_updL gg (0 : Int32).toNatClampNeg (t_25.2.1.toInt64))))
  else
    (1, (bksm, stsm, wdgr, stgr, Xans, gg))
def F_L_told_l (given : Int32) (perm : Int32) (Xtape : gRow) (Xsecret : gRow) (Xe4 : gRow) (rdbl : Int32) (kybl : Nat → Int32) (clbl : Nat → Int32) (mvbl : Nat → Int32) (labl : Nat → Int32) (Xtext : gRow) (Xcol : gRow) (Xans : gRow) (gg : Nat → Int64) (vi : Int32) : Int32 × (Int32 × (Nat → Int32) × (Nat → Int32) × (Nat → Int32) × (Nat → Int32) × gRow × (Nat → Int64)) :=
  gLet (F_X10_told_l given perm Xtape Xsecret Xe4 rdbl kybl clbl mvbl labl Xtext Xcol Xans vi) fun t_25 =>
  if t_25.1 = 0 then
    (0, (t_25.2.2.1, t_25.2.2.2.1, t_25.2.2.2.2.1, t_25.2.2.2.2.2.1, t_25.2.2.2.2.2.2.1, t_25.2.2.2.2.2.2.2, (vp_updL gg (0 : Int32).toNatClampNeg (t_25.2.1.toInt64))))
  else
    (1, (rdbl, kybl, clbl, mvbl, labl, Xtext, gg))
