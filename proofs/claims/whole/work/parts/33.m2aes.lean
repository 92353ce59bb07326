set_option maxHeartbeats 4000000 in
set_option maxRecDepth 100000 in
theorem k_X11_throughStream (E : gE) (l : Launch) (o ax_by ax_row a_user a_owner a_tried a_id a_tape a_entries a_sizes a_key a_bytes a_out a_message a_digest a_words a_h a_v a_fillBytes a_sines a_roots a_box a_backBox a_roundKeys a_state a_other a_stream a_work a_padded a_ownKey : Nat) (nby : Nat) (nrow : Nat) (rv : Nat) (Mthrown : Int32) (Musers : Nat) (Mowners : Nat) (Mtries : Nat) (Mids : Nat) (Mtaped : Nat) (Mtaken : Nat) (MisPlain : Int32) (Mpermissions : Int32) (MisOpen : Int32) (Mfilter : Int32) (Mcollected : Nat) (Mobject : Int32) (MisBack : Int32) (MoutSize : Nat) (Msaid : Nat) (Mrounds : Nat) (Mstream : Nat → Int32) (Yby : Nat → Int32) (Yrow : Nat → Int32) (size : Nat) (xv : Int32) (fr : Nat) (cn : Nat) (hsz : 0 < size ∧ size ≤ nby) (hnby : nby < 100000) (hfr : fr + cn ≤ nrow) (hnrow : nrow < 100000) (hby : ∀ k : Nat, k < size → isB (Yby k)) (hxv : isB xv) : gMv E l yX11_throughStream wsX11_throughStream ({ frames := 0, cells := 0, slots := 0, locals := 0 }) 0 0 [.ref o, .ref ax_by, .int (nI size), .int xv, .ref ax_row, .int (nI fr), .int (nI cn)] [(o, .inr (12, [.int Mthrown, .int (nI rv), .ref a_user, .int (nI Musers), .ref a_owner, .int (nI Mowners), .ref a_tried, .int (nI Mtries), .ref a_id, .int (nI Mids), .ref a_tape, .int (nI Mtaped), .int (nI Mtaken), .int MisPlain, .int Mpermissions, .ref a_entries, .ref a_sizes, .ref a_key, .int MisOpen, .int Mfilter, .int (nI Mcollected), .ref a_bytes, .int Mobject, .int MisBack, .int (nI MoutSize), .ref a_out, .int (nI Msaid), .ref a_message, .ref a_digest, .ref a_words, .ref a_h, .ref a_v, .ref a_fillBytes, .ref a_sines, .ref a_roots, .ref a_box, .ref a_backBox, .ref a_roundKeys, .int (nI Mrounds), .ref a_state, .ref a_other, .ref a_stream, .ref a_work, .ref a_padded, .ref a_ownKey])), (a_stream, .inl (E.2.1, 256, .inl Mstream)), (ax_by, .inl (E.2.1, nby, .inl Yby)), (ax_row, .inl (E.2.1, nrow, .inl Yrow))] (fun (uu : (Nat → Int32) × (Nat → Int32)) => uu = F_X11_throughStream Mstream Yby Yrow size xv fr cn) (fun (uu : (Nat → Int32) × (Nat → Int32)) => [(o, .inr (12, [.int Mthrown, .int (nI rv), .ref a_user, .int (nI Musers), .ref a_owner, .int (nI Mowners), .ref a_tried, .int (nI Mtries), .ref a_id, .int (nI Mids), .ref a_tape, .int (nI Mtaped), .int (nI Mtaken), .int MisPlain, .int Mpermissions, .ref a_entries, .ref a_sizes, .ref a_key, .int MisOpen, .int Mfilter, .int (nI Mcollected), .ref a_bytes, .int Mobject, .int MisBack, .int (nI MoutSize), .ref a_out, .int (nI Msaid), .ref a_message, .ref a_digest, .ref a_words, .ref a_h, .ref a_v, .ref a_fillBytes, .ref a_sines, .ref a_roots, .ref a_box, .ref a_backBox, .ref a_roundKeys, .int (nI Mrounds), .ref a_state, .ref a_other, .ref a_stream, .ref a_work, .ref a_padded, .ref a_ownKey])), (a_stream, .inl (E.2.1, 256, .inl uu.1)), (ax_by, .inl (E.2.1, nby, .inl Yby)), (ax_row, .inl (E.2.1, nrow, .inl uu.2))]) := by
  intro sz
  refine Met.ofW (cc := cX11_throughStream) (maxL := 11) (ret := none) (by decide) rfl ?_
  intro p e s m args below meth c s₁ B hml hv
  obtain ⟨rfl, hsz, hP, hV, hD0⟩ := hv
  have hx := B.exec
  have hb := B.bytes
  have hr := B.returns
  have hts := atoms_spec (ws := wsX11_throughStream) B.pre
  have hown : s.vm.findClass RX11 = some m.cls := findClass_of_methodNamed B.named
  have hlocks := B.notSynchronized
  subst hsz
  have hD := hD0.self (sz := s.heap.size)
  clear hD0
  generalize hAe : va_A [(o, .inr (12, [.int Mthrown, .int (nI rv), .ref a_user, .int (nI Musers), .ref a_owner, .int (nI Mowners), .ref a_tried, .int (nI Mtries), .ref a_id, .int (nI Mids), .ref a_tape, .int (nI Mtaped), .int (nI Mtaken), .int MisPlain, .int Mpermissions, .ref a_entries, .ref a_sizes, .ref a_key, .int MisOpen, .int Mfilter, .int (nI Mcollected), .ref a_bytes, .int Mobject, .int MisBack, .int (nI MoutSize), .ref a_out, .int (nI Msaid), .ref a_message, .ref a_digest, .ref a_words, .ref a_h, .ref a_v, .ref a_fillBytes, .ref a_sines, .ref a_roots, .ref a_box, .ref a_backBox, .ref a_roundKeys, .int (nI Mrounds), .ref a_state, .ref a_other, .ref a_stream, .ref a_work, .ref a_padded, .ref a_ownKey])), (a_stream, .inl (E.2.1, 256, .inl Mstream)), (ax_by, .inl (E.2.1, nby, .inl Yby)), (ax_row, .inl (E.2.1, nrow, .inl Yrow))] s.heap.size = A at hD hV ⊢
  have hA : ∀ q : Nat, s.heap.size ≤ q → A q := fun q h => by rw [← hAe]; exact Or.inr h
  have hS : va_S A s.heap s.heap [] := va_S.rf
  have hK := hV.1
  have hF : CallFix p m c cX11_throughStream 11 s _ wsX11_throughStream RX11 := ⟨hx, hb, hml, hown, hts⟩
  have hl := lv_entry [.ref o, .ref ax_by, .int (nI size), .int xv, .ref ax_row, .int (nI fr), .int (nI cn)] (n := 11) (Nat.le_of_ble_eq_true rfl)
  rw [lg_entry_eq]
  generalize (lg_sl [.ref o, .ref ax_by, .int (nI size), .int xv, .ref ax_row, .int (nI fr), .int (nI cn)] ++ List.replicate (11 - (lg_sl [.ref o, .ref ax_by, .int (nI size), .int xv, .ref ax_row, .int (nI fr), .int (nI cn)]).length) Slot.unset).toArray = ls at hl ⊢
  have hl : lv_has ls 11 [(0, .ref o), (1, .ref ax_by), (2, .int (nI size)), (3, .int xv), (4, .ref ax_row), (5, .int (nI fr)), (6, .int (nI cn))] := hl
  have in_X11 : ∀ w ∈ wsX110, w ∈ wsX11_throughStream := by decide +kernel
  have w_0 := hts (.fieldLink RX11 207 "CryptRowsModel" "stream" "[I") (by decide +kernel)
  refine lv_iconst (v := 0) hx hb dX11_throughStream_0 (by decide) ?_
  refine lv_istore (lv' := [(7, .int 0), (0, .ref o), (1, .ref ax_by), (2, .int (nI size)), (3, .int xv), (4, .ref ax_row), (5, .int (nI fr)), (6, .int (nI cn))]) hx hb dX11_throughStream_1 hl (by decide) rfl (fun ls_279 hl_279 => ?_)
  clear hl
  refine g_up (N := 256) B_X11_throughStream_3 (Mstream : Nat → Int32) (Inv := fun i_0 z_295 H_0 locs_0 ls_0 => lv_has ls_0 11 [(7, .int (nI i_0)), (0, .ref o), (1, .ref ax_by), (2, .int (nI size)), (3, .int xv), (4, .ref ax_row), (5, .int (nI fr)), (6, .int (nI cn))] ∧ va_P E.1 vwCl [(o, .inr (12, [.int Mthrown, .int (nI rv), .ref a_user, .int (nI Musers), .ref a_owner, .int (nI Mowners), .ref a_tried, .int (nI Mtries), .ref a_id, .int (nI Mids), .ref a_tape, .int (nI Mtaped), .int (nI Mtaken), .int MisPlain, .int Mpermissions, .ref a_entries, .ref a_sizes, .ref a_key, .int MisOpen, .int Mfilter, .int (nI Mcollected), .ref a_bytes, .int Mobject, .int MisBack, .int (nI MoutSize), .ref a_out, .int (nI Msaid), .ref a_message, .ref a_digest, .ref a_words, .ref a_h, .ref a_v, .ref a_fillBytes, .ref a_sines, .ref a_roots, .ref a_box, .ref a_backBox, .ref a_roundKeys, .int (nI Mrounds), .ref a_state, .ref a_other, .ref a_stream, .ref a_work, .ref a_padded, .ref a_ownKey])), (a_stream, .inl (E.2.1, 256, .inl z_295)), (ax_by, .inl (E.2.1, nby, .inl Yby)), (ax_row, .inl (E.2.1, nrow, .inl Yrow))] H_0 ∧ va_D A [(o, .inr (12, [.int Mthrown, .int (nI rv), .ref a_user, .int (nI Musers), .ref a_owner, .int (nI Mowners), .ref a_tried, .int (nI Mtries), .ref a_id, .int (nI Mids), .ref a_tape, .int (nI Mtaped), .int (nI Mtaken), .int MisPlain, .int Mpermissions, .ref a_entries, .ref a_sizes, .ref a_key, .int MisOpen, .int Mfilter, .int (nI Mcollected), .ref a_bytes, .int Mobject, .int MisBack, .int (nI MoutSize), .ref a_out, .int (nI Msaid), .ref a_message, .ref a_digest, .ref a_words, .ref a_h, .ref a_v, .ref a_fillBytes, .ref a_sines, .ref a_roots, .ref a_box, .ref a_backBox, .ref a_roundKeys, .int (nI Mrounds), .ref a_state, .ref a_other, .ref a_stream, .ref a_work, .ref a_padded, .ref a_ownKey])), (a_stream, .inl (E.2.1, 256, .inl z_295)), (ax_by, .inl (E.2.1, nby, .inl Yby)), (ax_row, .inl (E.2.1, nrow, .inl Yrow))] ∧ va_S A s.heap H_0 locs_0) (G := fun H_0 locs_0 ls_0 => W _ _ _ _ _ _ _ _ _ _ H_0 locs_0 _ _ _ (F0 _ 3 ls_0 [])) ?_ ?_ ⟨lv_sub hl_279 [0, 1, 2, 3, 4, 5, 6, 7] rfl, hP, hD, hS⟩
  · intro j_296 i_296 z_296 H_296 locs_296 ls_296 hij_296 hz_296 hI_296 ih_296
    obtain ⟨hl_296, hP_296, hD_296, hS_296⟩ := hI_296
    replace hl_296 : lv_has ls_296 11 [(7, .int (nI i_296)), (0, .ref o), (1, .ref ax_by), (2, .int (nI size)), (3, .int xv), (4, .ref ax_row), (5, .int (nI fr)), (6, .int (nI cn))] := hl_296
    replace hP_296 : va_P E.1 vwCl [(o, .inr (12, [.int Mthrown, .int (nI rv), .ref a_user, .int (nI Musers), .ref a_owner, .int (nI Mowners), .ref a_tried, .int (nI Mtries), .ref a_id, .int (nI Mids), .ref a_tape, .int (nI Mtaped), .int (nI Mtaken), .int MisPlain, .int Mpermissions, .ref a_entries, .ref a_sizes, .ref a_key, .int MisOpen, .int Mfilter, .int (nI Mcollected), .ref a_bytes, .int Mobject, .int MisBack, .int (nI MoutSize), .ref a_out, .int (nI Msaid), .ref a_message, .ref a_digest, .ref a_words, .ref a_h, .ref a_v, .ref a_fillBytes, .ref a_sines, .ref a_roots, .ref a_box, .ref a_backBox, .ref a_roundKeys, .int (nI Mrounds), .ref a_state, .ref a_other, .ref a_stream, .ref a_work, .ref a_padded, .ref a_ownKey])), (a_stream, .inl (E.2.1, 256, .inl z_296)), (ax_by, .inl (E.2.1, nby, .inl Yby)), (ax_row, .inl (E.2.1, nrow, .inl Yrow))] H_296 := hP_296
    replace hD_296 : va_D A [(o, .inr (12, [.int Mthrown, .int (nI rv), .ref a_user, .int (nI Musers), .ref a_owner, .int (nI Mowners), .ref a_tried, .int (nI Mtries), .ref a_id, .int (nI Mids), .ref a_tape, .int (nI Mtaped), .int (nI Mtaken), .int MisPlain, .int Mpermissions, .ref a_entries, .ref a_sizes, .ref a_key, .int MisOpen, .int Mfilter, .int (nI Mcollected), .ref a_bytes, .int Mobject, .int MisBack, .int (nI MoutSize), .ref a_out, .int (nI Msaid), .ref a_message, .ref a_digest, .ref a_words, .ref a_h, .ref a_v, .ref a_fillBytes, .ref a_sines, .ref a_roots, .ref a_box, .ref a_backBox, .ref a_roundKeys, .int (nI Mrounds), .ref a_state, .ref a_other, .ref a_stream, .ref a_work, .ref a_padded, .ref a_ownKey])), (a_stream, .inl (E.2.1, 256, .inl z_296)), (ax_by, .inl (E.2.1, nby, .inl Yby)), (ax_row, .inl (E.2.1, nrow, .inl Yrow))] := hD_296
    clear hl_279 hP hD hS
    refine lv_iload hx hb dX11_throughStream_3 (lv_at hl_296 0 rfl) ?_
    refine lv_sipush (v := 256) hx hb dX11_throughStream_5 (by decide) ?_
    refine lv_icmp_ge (tgt := 26) hx hb dX11_throughStream_8 (by decide) (fun c_297 => (by have c_297 := (nI_leI (a := 256) (b := i_296) (by omega) (by omega)).mp c_297; exfalso; omega)) (fun c_297 => ?_)
    replace c_297 : ¬ 256 ≤ i_296 := (not_congr (nI_leI (a := 256) (b := i_296) (by omega) (by omega))).mp c_297
    refine lv_aload_n hx hb dX11_throughStream_11 rfl (lv_at hl_296 1 rfl) ?_
    refine va_get (D := E.1) (ci := 12) (v := .ref a_stream) (C := RX11) (T := TX11) (N := 45) hx hb hts in_X11 hown hK hP_296 0 rfl rfl 41 (by decide) w_0 (fun _ h9 => h9) rfl dX11_throughStream_12 ?_
    refine lv_iload hx hb dX11_throughStream_15 (lv_at hl_296 0 rfl) ?_
    refine lv_iload hx hb dX11_throughStream_17 (lv_at hl_296 0 rfl) ?_
    refine g_iast (e0 := i_296) hx hb hK hP_296 hD_296 hS_296 1 0 rfl rfl (by omega) (by omega) dX11_throughStream_19 (fun H_298 locs_298 hP_298 hD_298 hS_298 => ?_)
    replace hP_298 : va_P E.1 vwCl [(o, .inr (12, [.int Mthrown, .int (nI rv), .ref a_user, .int (nI Musers), .ref a_owner, .int (nI Mowners), .ref a_tried, .int (nI Mtries), .ref a_id, .int (nI Mids), .ref a_tape, .int (nI Mtaped), .int (nI Mtaken), .int MisPlain, .int Mpermissions, .ref a_entries, .ref a_sizes, .ref a_key, .int MisOpen, .int Mfilter, .int (nI Mcollected), .ref a_bytes, .int Mobject, .int MisBack, .int (nI MoutSize), .ref a_out, .int (nI Msaid), .ref a_message, .ref a_digest, .ref a_words, .ref a_h, .ref a_v, .ref a_fillBytes, .ref a_sines, .ref a_roots, .ref a_box, .ref a_backBox, .ref a_roundKeys, .int (nI Mrounds), .ref a_state, .ref a_other, .ref a_stream, .ref a_work, .ref a_padded, .ref a_ownKey])), (a_stream, .inl (E.2.1, 256, .inl (upd z_296 i_296 (nI i_296)))), (ax_by, .inl (E.2.1, nby, .inl Yby)), (ax_row, .inl (E.2.1, nrow, .inl Yrow))] H_298 := hP_298
    replace hD_298 : va_D A [(o, .inr (12, [.int Mthrown, .int (nI rv), .ref a_user, .int (nI Musers), .ref a_owner, .int (nI Mowners), .ref a_tried, .int (nI Mtries), .ref a_id, .int (nI Mids), .ref a_tape, .int (nI Mtaped), .int (nI Mtaken), .int MisPlain, .int Mpermissions, .ref a_entries, .ref a_sizes, .ref a_key, .int MisOpen, .int Mfilter, .int (nI Mcollected), .ref a_bytes, .int Mobject, .int MisBack, .int (nI MoutSize), .ref a_out, .int (nI Msaid), .ref a_message, .ref a_digest, .ref a_words, .ref a_h, .ref a_v, .ref a_fillBytes, .ref a_sines, .ref a_roots, .ref a_box, .ref a_backBox, .ref a_roundKeys, .int (nI Mrounds), .ref a_state, .ref a_other, .ref a_stream, .ref a_work, .ref a_padded, .ref a_ownKey])), (a_stream, .inl (E.2.1, 256, .inl (upd z_296 i_296 (nI i_296)))), (ax_by, .inl (E.2.1, nby, .inl Yby)), (ax_row, .inl (E.2.1, nrow, .inl Yrow))] := hD_298
    clear hP_296 hD_296 hS_296
    refine lv_iinc (v := (nI (i_296 + 1))) (lv' := [(7, .int (nI (i_296 + 1))), (0, .ref o), (1, .ref ax_by), (2, .int (nI size)), (3, .int xv), (4, .ref ax_row), (5, .int (nI fr)), (6, .int (nI cn))]) hx hb dX11_throughStream_20 hl_296 (k := 0) rfl (nI_add _ 1) (by decide) rfl (fun ls_299 hl_299 => ?_)
    clear hl_296
    refine lv_goto (tgt := 3) hx hb dX11_throughStream_23 (by decide) ?_
    exact ih_296 ((upd z_296 i_296 (nI i_296)) : Nat → Int32) _ _ _ (((show B_X11_throughStream_3 i_296 z_296 = _ from rfl).symm.trans (congrArg (B_X11_throughStream_3 i_296) hz_296)).trans (itr_s _ _ _).symm) ⟨lv_sub hl_299 [0, 1, 2, 3, 4, 5, 6, 7] rfl, (hP_298.sub [0, 1, 2, 3] rfl), (hD_298.sub [0, 1, 2, 3] (by decide) rfl), hS_298⟩
  · intro z_300 H_300 locs_300 ls_300 hz_300 hI_300
    obtain ⟨hl_300, hP_300, hD_300, hS_300⟩ := hI_300
    replace hl_300 : lv_has ls_300 11 [(7, .int (nI 256)), (0, .ref o), (1, .ref ax_by), (2, .int (nI size)), (3, .int xv), (4, .ref ax_row), (5, .int (nI fr)), (6, .int (nI cn))] := hl_300
    replace hP_300 : va_P E.1 vwCl [(o, .inr (12, [.int Mthrown, .int (nI rv), .ref a_user, .int (nI Musers), .ref a_owner, .int (nI Mowners), .ref a_tried, .int (nI Mtries), .ref a_id, .int (nI Mids), .ref a_tape, .int (nI Mtaped), .int (nI Mtaken), .int MisPlain, .int Mpermissions, .ref a_entries, .ref a_sizes, .ref a_key, .int MisOpen, .int Mfilter, .int (nI Mcollected), .ref a_bytes, .int Mobject, .int MisBack, .int (nI MoutSize), .ref a_out, .int (nI Msaid), .ref a_message, .ref a_digest, .ref a_words, .ref a_h, .ref a_v, .ref a_fillBytes, .ref a_sines, .ref a_roots, .ref a_box, .ref a_backBox, .ref a_roundKeys, .int (nI Mrounds), .ref a_state, .ref a_other, .ref a_stream, .ref a_work, .ref a_padded, .ref a_ownKey])), (a_stream, .inl (E.2.1, 256, .inl z_300)), (ax_by, .inl (E.2.1, nby, .inl Yby)), (ax_row, .inl (E.2.1, nrow, .inl Yrow))] H_300 := hP_300
    replace hD_300 : va_D A [(o, .inr (12, [.int Mthrown, .int (nI rv), .ref a_user, .int (nI Musers), .ref a_owner, .int (nI Mowners), .ref a_tried, .int (nI Mtries), .ref a_id, .int (nI Mids), .ref a_tape, .int (nI Mtaped), .int (nI Mtaken), .int MisPlain, .int Mpermissions, .ref a_entries, .ref a_sizes, .ref a_key, .int MisOpen, .int Mfilter, .int (nI Mcollected), .ref a_bytes, .int Mobject, .int MisBack, .int (nI MoutSize), .ref a_out, .int (nI Msaid), .ref a_message, .ref a_digest, .ref a_words, .ref a_h, .ref a_v, .ref a_fillBytes, .ref a_sines, .ref a_roots, .ref a_box, .ref a_backBox, .ref a_roundKeys, .int (nI Mrounds), .ref a_state, .ref a_other, .ref a_stream, .ref a_work, .ref a_padded, .ref a_ownKey])), (a_stream, .inl (E.2.1, 256, .inl z_300)), (ax_by, .inl (E.2.1, nby, .inl Yby)), (ax_row, .inl (E.2.1, nrow, .inl Yrow))] := hD_300
    clear hl_279 hP hD hS
    refine lv_iload hx hb dX11_throughStream_3 (lv_at hl_300 0 rfl) ?_
    refine lv_sipush (v := 256) hx hb dX11_throughStream_5 (by decide) ?_
    refine lv_icmp_ge (tgt := 26) hx hb dX11_throughStream_8 (by decide) (fun c_301 => ?_) (fun c_301 => (by have c_301 := (not_congr (nI_leI (a := 256) (b := 256) (by omega) (by omega))).mp c_301; exfalso; omega))
    replace c_301 : 256 ≤ 256 := (nI_leI (a := 256) (b := 256) (by omega) (by omega)).mp c_301
    refine lv_iconst (v := 0) hx hb dX11_throughStream_26 (by decide) ?_
    refine lv_istore (lv' := [(7, .int 0), (0, .ref o), (1, .ref ax_by), (2, .int (nI size)), (3, .int xv), (4, .ref ax_row), (5, .int (nI fr)), (6, .int (nI cn))]) hx hb dX11_throughStream_27 hl_300 (by decide) rfl (fun ls_302 hl_302 => ?_)
    clear hl_300
    refine lv_iconst (v := 0) hx hb dX11_throughStream_29 (by decide) ?_
    refine lv_istore (lv' := [(8, .int 0), (7, .int 0), (0, .ref o), (1, .ref ax_by), (2, .int (nI size)), (3, .int xv), (4, .ref ax_row), (5, .int (nI fr)), (6, .int (nI cn))]) hx hb dX11_throughStream_30 hl_302 (by decide) rfl (fun ls_303 hl_303 => ?_)
    clear hl_302
    refine g_up (N := 256) (B_X11_throughStream_32 Yby size xv) ((0, z_300) : Int32 × (Nat → Int32)) (Inv := fun i_0 z_334 H_0 locs_0 ls_0 => lv_has ls_0 11 [(8, .int (nI i_0)), (7, .int z_334.1), (0, .ref o), (1, .ref ax_by), (2, .int (nI size)), (3, .int xv), (4, .ref ax_row), (5, .int (nI fr)), (6, .int (nI cn))] ∧ va_P E.1 vwCl [(o, .inr (12, [.int Mthrown, .int (nI rv), .ref a_user, .int (nI Musers), .ref a_owner, .int (nI Mowners), .ref a_tried, .int (nI Mtries), .ref a_id, .int (nI Mids), .ref a_tape, .int (nI Mtaped), .int (nI Mtaken), .int MisPlain, .int Mpermissions, .ref a_entries, .ref a_sizes, .ref a_key, .int MisOpen, .int Mfilter, .int (nI Mcollected), .ref a_bytes, .int Mobject, .int MisBack, .int (nI MoutSize), .ref a_out, .int (nI Msaid), .ref a_message, .ref a_digest, .ref a_words, .ref a_h, .ref a_v, .ref a_fillBytes, .ref a_sines, .ref a_roots, .ref a_box, .ref a_backBox, .ref a_roundKeys, .int (nI Mrounds), .ref a_state, .ref a_other, .ref a_stream, .ref a_work, .ref a_padded, .ref a_ownKey])), (a_stream, .inl (E.2.1, 256, .inl z_334.2)), (ax_by, .inl (E.2.1, nby, .inl Yby)), (ax_row, .inl (E.2.1, nrow, .inl Yrow))] H_0 ∧ va_D A [(o, .inr (12, [.int Mthrown, .int (nI rv), .ref a_user, .int (nI Musers), .ref a_owner, .int (nI Mowners), .ref a_tried, .int (nI Mtries), .ref a_id, .int (nI Mids), .ref a_tape, .int (nI Mtaped), .int (nI Mtaken), .int MisPlain, .int Mpermissions, .ref a_entries, .ref a_sizes, .ref a_key, .int MisOpen, .int Mfilter, .int (nI Mcollected), .ref a_bytes, .int Mobject, .int MisBack, .int (nI MoutSize), .ref a_out, .int (nI Msaid), .ref a_message, .ref a_digest, .ref a_words, .ref a_h, .ref a_v, .ref a_fillBytes, .ref a_sines, .ref a_roots, .ref a_box, .ref a_backBox, .ref a_roundKeys, .int (nI Mrounds), .ref a_state, .ref a_other, .ref a_stream, .ref a_work, .ref a_padded, .ref a_ownKey])), (a_stream, .inl (E.2.1, 256, .inl z_334.2)), (ax_by, .inl (E.2.1, nby, .inl Yby)), (ax_row, .inl (E.2.1, nrow, .inl Yrow))] ∧ va_S A s.heap H_0 locs_0) (G := fun H_0 locs_0 ls_0 => W _ _ _ _ _ _ _ _ _ _ H_0 locs_0 _ _ _ (F0 _ 32 ls_0 [])) ?_ ?_ ⟨lv_sub hl_303 [0, 1, 2, 3, 4, 5, 6, 7, 8] rfl, hP_300, hD_300, hS_300⟩
    · intro j_335 i_335 z_335 H_335 locs_335 ls_335 hij_335 hz_335 hI_335 ih_335
      obtain ⟨hl_335, hP_335, hD_335, hS_335⟩ := hI_335
      replace hl_335 : lv_has ls_335 11 [(8, .int (nI i_335)), (7, .int z_335.1), (0, .ref o), (1, .ref ax_by), (2, .int (nI size)), (3, .int xv), (4, .ref ax_row), (5, .int (nI fr)), (6, .int (nI cn))] := hl_335
      replace hP_335 : va_P E.1 vwCl [(o, .inr (12, [.int Mthrown, .int (nI rv), .ref a_user, .int (nI Musers), .ref a_owner, .int (nI Mowners), .ref a_tried, .int (nI Mtries), .ref a_id, .int (nI Mids), .ref a_tape, .int (nI Mtaped), .int (nI Mtaken), .int MisPlain, .int Mpermissions, .ref a_entries, .ref a_sizes, .ref a_key, .int MisOpen, .int Mfilter, .int (nI Mcollected), .ref a_bytes, .int Mobject, .int MisBack, .int (nI MoutSize), .ref a_out, .int (nI Msaid), .ref a_message, .ref a_digest, .ref a_words, .ref a_h, .ref a_v, .ref a_fillBytes, .ref a_sines, .ref a_roots, .ref a_box, .ref a_backBox, .ref a_roundKeys, .int (nI Mrounds), .ref a_state, .ref a_other, .ref a_stream, .ref a_work, .ref a_padded, .ref a_ownKey])), (a_stream, .inl (E.2.1, 256, .inl z_335.2)), (ax_by, .inl (E.2.1, nby, .inl Yby)), (ax_row, .inl (E.2.1, nrow, .inl Yrow))] H_335 := hP_335
      replace hD_335 : va_D A [(o, .inr (12, [.int Mthrown, .int (nI rv), .ref a_user, .int (nI Musers), .ref a_owner, .int (nI Mowners), .ref a_tried, .int (nI Mtries), .ref a_id, .int (nI Mids), .ref a_tape, .int (nI Mtaped), .int (nI Mtaken), .int MisPlain, .int Mpermissions, .ref a_entries, .ref a_sizes, .ref a_key, .int MisOpen, .int Mfilter, .int (nI Mcollected), .ref a_bytes, .int Mobject, .int MisBack, .int (nI MoutSize), .ref a_out, .int (nI Msaid), .ref a_message, .ref a_digest, .ref a_words, .ref a_h, .ref a_v, .ref a_fillBytes, .ref a_sines, .ref a_roots, .ref a_box, .ref a_backBox, .ref a_roundKeys, .int (nI Mrounds), .ref a_state, .ref a_other, .ref a_stream, .ref a_work, .ref a_padded, .ref a_ownKey])), (a_stream, .inl (E.2.1, 256, .inl z_335.2)), (ax_by, .inl (E.2.1, nby, .inl Yby)), (ax_row, .inl (E.2.1, nrow, .inl Yrow))] := hD_335
      clear hl_303 hP_300 hD_300 hS_300
      have qm_z_335 := Nat.mod_lt i_335 hsz.1
      have qv_z_335 : isB z_335.1 ∧ ∀ k : Nat, k < 256 → isB (z_335.2 k) := by rw [hz_335]; exact L_ts32 hsz.1 hby hxv _ (by omega) _ (L_ts3 (by assumption))
      refine lv_iload hx hb dX11_throughStream_32 (lv_at hl_335 0 rfl) ?_
      refine lv_sipush (v := 256) hx hb dX11_throughStream_34 (by decide) ?_
      refine lv_icmp_ge (tgt := 103) hx hb dX11_throughStream_37 (by decide) (fun c_336 => (by have c_336 := (nI_leI (a := 256) (b := i_335) (by omega) (by omega)).mp c_336; exfalso; omega)) (fun c_336 => ?_)
      replace c_336 : ¬ 256 ≤ i_335 := (not_congr (nI_leI (a := 256) (b := i_335) (by omega) (by omega))).mp c_336
      refine lv_iload hx hb dX11_throughStream_40 (lv_at hl_335 1 rfl) ?_
      refine lv_aload_n hx hb dX11_throughStream_42 rfl (lv_at hl_335 2 rfl) ?_
      refine va_get (D := E.1) (ci := 12) (v := .ref a_stream) (C := RX11) (T := TX11) (N := 45) hx hb hts in_X11 hown hK hP_335 0 rfl rfl 41 (by decide) w_0 (fun _ h9 => h9) rfl dX11_throughStream_43 ?_
      refine lv_iload hx hb dX11_throughStream_46 (lv_at hl_335 0 rfl) ?_
      refine g_iald (e0 := i_335) hx hb hK hP_335 1 0 rfl rfl (by omega) (by omega) dX11_throughStream_48 ?_
      refine lv_iadd hx hb dX11_throughStream_49 ?_
      refine lv_aload_n hx hb dX11_throughStream_50 rfl (lv_at hl_335 3 rfl) ?_
      refine lv_iload hx hb dX11_throughStream_51 (lv_at hl_335 0 rfl) ?_
      refine lv_iload_n hx hb dX11_throughStream_53 rfl (lv_at hl_335 4 rfl) ?_
      refine lv_irem hx hb dX11_throughStream_54 (nI_ne0 (n := size) (by omega) (by omega)) ?_
      refine lv_topi (fun y_337 ey_337 => ?_)
      obtain rfl : y_337 = (nI (i_335 % size)) := ey_337.trans (pk_rem (a := i_335) (d := size) (by omega) (by omega) (by omega))
      refine g_iald (e0 := i_335 % size) hx hb hK hP_335 2 0 rfl rfl (by omega) (by omega) dX11_throughStream_55 ?_
      refine lv_iload_n hx hb dX11_throughStream_56 rfl (lv_at hl_335 5 rfl) ?_
      refine lv_ixor hx hb dX11_throughStream_57 ?_
      refine lv_iadd hx hb dX11_throughStream_58 ?_
      refine lv_topi (fun v_338 ev_338 => ?_)
      refine lv_sipush (v := 256) hx hb dX11_throughStream_59 (by decide) ?_
      refine lv_irem hx hb dX11_throughStream_62 (by decide) ?_
      refine lv_istore (lv' := [(7, .int (v_338 - v_338 / 256 * 256)), (8, .int (nI i_335)), (0, .ref o), (1, .ref ax_by), (2, .int (nI size)), (3, .int xv), (4, .ref ax_row), (5, .int (nI fr)), (6, .int (nI cn))]) hx hb dX11_throughStream_63 hl_335 (by decide) rfl (fun ls_339 hl_339 => ?_)
      clear hl_335
      refine lv_aload_n hx hb dX11_throughStream_65 rfl (lv_at hl_339 2 rfl) ?_
      refine va_get (D := E.1) (ci := 12) (v := .ref a_stream) (C := RX11) (T := TX11) (N := 45) hx hb hts in_X11 hown hK hP_335 0 rfl rfl 41 (by decide) w_0 (fun _ h9 => h9) rfl dX11_throughStream_66 ?_
      refine lv_iload hx hb dX11_throughStream_69 (lv_at hl_339 1 rfl) ?_
      refine g_iald (e0 := i_335) hx hb hK hP_335 1 0 rfl rfl (by omega) (by omega) dX11_throughStream_71 ?_
      refine lv_istore (lv' := [(9, .int (z_335.2 i_335)), (7, .int (v_338 - v_338 / 256 * 256)), (8, .int (nI i_335)), (0, .ref o), (1, .ref ax_by), (2, .int (nI size)), (3, .int xv), (4, .ref ax_row), (5, .int (nI fr)), (6, .int (nI cn))]) hx hb dX11_throughStream_72 hl_339 (by decide) rfl (fun ls_340 hl_340 => ?_)
      clear hl_339
      refine lv_aload_n hx hb dX11_throughStream_74 rfl (lv_at hl_340 3 rfl) ?_
      refine va_get (D := E.1) (ci := 12) (v := .ref a_stream) (C := RX11) (T := TX11) (N := 45) hx hb hts in_X11 hown hK hP_335 0 rfl rfl 41 (by decide) w_0 (fun _ h9 => h9) rfl dX11_throughStream_75 ?_
      refine lv_iload hx hb dX11_throughStream_78 (lv_at hl_340 2 rfl) ?_
      refine lv_aload_n hx hb dX11_throughStream_80 rfl (lv_at hl_340 3 rfl) ?_
      refine va_get (D := E.1) (ci := 12) (v := .ref a_stream) (C := RX11) (T := TX11) (N := 45) hx hb hts in_X11 hown hK hP_335 0 rfl rfl 41 (by decide) w_0 (fun _ h9 => h9) rfl dX11_throughStream_81 ?_
      refine lv_iload hx hb dX11_throughStream_84 (lv_at hl_340 1 rfl) ?_
      refine va_iald hx hb hK hP_335 1 0 rfl rfl (by rw [ev_338]; exact isB_in (isB_rem (nn_add3 qv_z_335.1 (qv_z_335.2 _ (by omega)) (isB_xor (hby _ (Nat.mod_lt _ hsz.1)) hxv)))) dX11_throughStream_86 ?_
      refine g_iast (e0 := i_335) hx hb hK hP_335 hD_335 hS_335 1 0 rfl rfl (by omega) (by omega) dX11_throughStream_87 (fun H_341 locs_341 hP_341 hD_341 hS_341 => ?_)
      replace hP_341 : va_P E.1 vwCl [(o, .inr (12, [.int Mthrown, .int (nI rv), .ref a_user, .int (nI Musers), .ref a_owner, .int (nI Mowners), .ref a_tried, .int (nI Mtries), .ref a_id, .int (nI Mids), .ref a_tape, .int (nI Mtaped), .int (nI Mtaken), .int MisPlain, .int Mpermissions, .ref a_entries, .ref a_sizes, .ref a_key, .int MisOpen, .int Mfilter, .int (nI Mcollected), .ref a_bytes, .int Mobject, .int MisBack, .int (nI MoutSize), .ref a_out, .int (nI Msaid), .ref a_message, .ref a_digest, .ref a_words, .ref a_h, .ref a_v, .ref a_fillBytes, .ref a_sines, .ref a_roots, .ref a_box, .ref a_backBox, .ref a_roundKeys, .int (nI Mrounds), .ref a_state, .ref a_other, .ref a_stream, .ref a_work, .ref a_padded, .ref a_ownKey])), (a_stream, .inl (E.2.1, 256, .inl (upd z_335.2 i_335 (z_335.2 (v_338 - v_338 / 256 * 256).toNatClampNeg)))), (ax_by, .inl (E.2.1, nby, .inl Yby)), (ax_row, .inl (E.2.1, nrow, .inl Yrow))] H_341 := hP_341
      replace hD_341 : va_D A [(o, .inr (12, [.int Mthrown, .int (nI rv), .ref a_user, .int (nI Musers), .ref a_owner, .int (nI Mowners), .ref a_tried, .int (nI Mtries), .ref a_id, .int (nI Mids), .ref a_tape, .int (nI Mtaped), .int (nI Mtaken), .int MisPlain, .int Mpermissions, .ref a_entries, .ref a_sizes, .ref a_key, .int MisOpen, .int Mfilter, .int (nI Mcollected), .ref a_bytes, .int Mobject, .int MisBack, .int (nI MoutSize), .ref a_out, .int (nI Msaid), .ref a_message, .ref a_digest, .ref a_words, .ref a_h, .ref a_v, .ref a_fillBytes, .ref a_sines, .ref a_roots, .ref a_box, .ref a_backBox, .ref a_roundKeys, .int (nI Mrounds), .ref a_state, .ref a_other, .ref a_stream, .ref a_work, .ref a_padded, .ref a_ownKey])), (a_stream, .inl (E.2.1, 256, .inl (upd z_335.2 i_335 (z_335.2 (v_338 - v_338 / 256 * 256).toNatClampNeg)))), (ax_by, .inl (E.2.1, nby, .inl Yby)), (ax_row, .inl (E.2.1, nrow, .inl Yrow))] := hD_341
      clear hP_335 hD_335 hS_335
      refine lv_aload_n hx hb dX11_throughStream_88 rfl (lv_at hl_340 3 rfl) ?_
      refine va_get (D := E.1) (ci := 12) (v := .ref a_stream) (C := RX11) (T := TX11) (N := 45) hx hb hts in_X11 hown hK hP_341 0 rfl rfl 41 (by decide) w_0 (fun _ h9 => h9) rfl dX11_throughStream_89 ?_
      refine lv_iload hx hb dX11_throughStream_92 (lv_at hl_340 1 rfl) ?_
      refine lv_iload hx hb dX11_throughStream_94 (lv_at hl_340 0 rfl) ?_
      refine va_iast hx hb hK hP_341 hD_341 hS_341 1 0 rfl rfl (by rw [ev_338]; exact isB_in (isB_rem (nn_add3 qv_z_335.1 (qv_z_335.2 _ (by omega)) (isB_xor (hby _ (Nat.mod_lt _ hsz.1)) hxv)))) dX11_throughStream_96 (fun H_342 locs_342 hP_342 hD_342 hS_342 => ?_)
      replace hP_342 : va_P E.1 vwCl [(o, .inr (12, [.int Mthrown, .int (nI rv), .ref a_user, .int (nI Musers), .ref a_owner, .int (nI Mowners), .ref a_tried, .int (nI Mtries), .ref a_id, .int (nI Mids), .ref a_tape, .int (nI Mtaped), .int (nI Mtaken), .int MisPlain, .int Mpermissions, .ref a_entries, .ref a_sizes, .ref a_key, .int MisOpen, .int Mfilter, .int (nI Mcollected), .ref a_bytes, .int Mobject, .int MisBack, .int (nI MoutSize), .ref a_out, .int (nI Msaid), .ref a_message, .ref a_digest, .ref a_words, .ref a_h, .ref a_v, .ref a_fillBytes, .ref a_sines, .ref a_roots, .ref a_box, .ref a_backBox, .ref a_roundKeys, .int (nI Mrounds), .ref a_state, .ref a_other, .ref a_stream, .ref a_work, .ref a_padded, .ref a_ownKey])), (a_stream, .inl (E.2.1, 256, .inl (upd (upd z_335.2 i_335 (z_335.2 (v_338 - v_338 / 256 * 256).toNatClampNeg)) (v_338 - v_338 / 256 * 256).toNatClampNeg (z_335.2 i_335)))), (ax_by, .inl (E.2.1, nby, .inl Yby)), (ax_row, .inl (E.2.1, nrow, .inl Yrow))] H_342 := hP_342
      replace hD_342 : va_D A [(o, .inr (12, [.int Mthrown, .int (nI rv), .ref a_user, .int (nI Musers), .ref a_owner, .int (nI Mowners), .ref a_tried, .int (nI Mtries), .ref a_id, .int (nI Mids), .ref a_tape, .int (nI Mtaped), .int (nI Mtaken), .int MisPlain, .int Mpermissions, .ref a_entries, .ref a_sizes, .ref a_key, .int MisOpen, .int Mfilter, .int (nI Mcollected), .ref a_bytes, .int Mobject, .int MisBack, .int (nI MoutSize), .ref a_out, .int (nI Msaid), .ref a_message, .ref a_digest, .ref a_words, .ref a_h, .ref a_v, .ref a_fillBytes, .ref a_sines, .ref a_roots, .ref a_box, .ref a_backBox, .ref a_roundKeys, .int (nI Mrounds), .ref a_state, .ref a_other, .ref a_stream, .ref a_work, .ref a_padded, .ref a_ownKey])), (a_stream, .inl (E.2.1, 256, .inl (upd (upd z_335.2 i_335 (z_335.2 (v_338 - v_338 / 256 * 256).toNatClampNeg)) (v_338 - v_338 / 256 * 256).toNatClampNeg (z_335.2 i_335)))), (ax_by, .inl (E.2.1, nby, .inl Yby)), (ax_row, .inl (E.2.1, nrow, .inl Yrow))] := hD_342
      clear hP_341 hD_341 hS_341
      refine lv_iinc (v := (nI (i_335 + 1))) (lv' := [(8, .int (nI (i_335 + 1))), (9, .int (z_335.2 i_335)), (7, .int (v_338 - v_338 / 256 * 256)), (0, .ref o), (1, .ref ax_by), (2, .int (nI size)), (3, .int xv), (4, .ref ax_row), (5, .int (nI fr)), (6, .int (nI cn))]) hx hb dX11_throughStream_97 hl_340 (k := 2) rfl (nI_add _ 1) (by decide) rfl (fun ls_343 hl_343 => ?_)
      clear hl_340
      refine lv_goto (tgt := 32) hx hb dX11_throughStream_100 (by decide) ?_
      exact ih_335 (((v_338 - v_338 / 256 * 256), (upd (upd z_335.2 i_335 (z_335.2 (v_338 - v_338 / 256 * 256).toNatClampNeg)) (v_338 - v_338 / 256 * 256).toNatClampNeg (z_335.2 i_335))) : Int32 × (Nat → Int32)) _ _ _ (((show (B_X11_throughStream_32 Yby size xv) i_335 z_335 = _ from (gLet_eq ev_338 rfl)).symm.trans (congrArg ((B_X11_throughStream_32 Yby size xv) i_335) hz_335)).trans (itr_s _ _ _).symm) ⟨lv_sub hl_343 [0, 2, 3, 4, 5, 6, 7, 8, 9] rfl, (hP_342.sub [0, 1, 2, 3] rfl), (hD_342.sub [0, 1, 2, 3] (by decide) rfl), hS_342⟩
    · intro z_344 H_344 locs_344 ls_344 hz_344 hI_344
      obtain ⟨hl_344, hP_344, hD_344, hS_344⟩ := hI_344
      replace hl_344 : lv_has ls_344 11 [(8, .int (nI 256)), (7, .int z_344.1), (0, .ref o), (1, .ref ax_by), (2, .int (nI size)), (3, .int xv), (4, .ref ax_row), (5, .int (nI fr)), (6, .int (nI cn))] := hl_344
      replace hP_344 : va_P E.1 vwCl [(o, .inr (12, [.int Mthrown, .int (nI rv), .ref a_user, .int (nI Musers), .ref a_owner, .int (nI Mowners), .ref a_tried, .int (nI Mtries), .ref a_id, .int (nI Mids), .ref a_tape, .int (nI Mtaped), .int (nI Mtaken), .int MisPlain, .int Mpermissions, .ref a_entries, .ref a_sizes, .ref a_key, .int MisOpen, .int Mfilter, .int (nI Mcollected), .ref a_bytes, .int Mobject, .int MisBack, .int (nI MoutSize), .ref a_out, .int (nI Msaid), .ref a_message, .ref a_digest, .ref a_words, .ref a_h, .ref a_v, .ref a_fillBytes, .ref a_sines, .ref a_roots, .ref a_box, .ref a_backBox, .ref a_roundKeys, .int (nI Mrounds), .ref a_state, .ref a_other, .ref a_stream, .ref a_work, .ref a_padded, .ref a_ownKey])), (a_stream, .inl (E.2.1, 256, .inl z_344.2)), (ax_by, .inl (E.2.1, nby, .inl Yby)), (ax_row, .inl (E.2.1, nrow, .inl Yrow))] H_344 := hP_344
      replace hD_344 : va_D A [(o, .inr (12, [.int Mthrown, .int (nI rv), .ref a_user, .int (nI Musers), .ref a_owner, .int (nI Mowners), .ref a_tried, .int (nI Mtries), .ref a_id, .int (nI Mids), .ref a_tape, .int (nI Mtaped), .int (nI Mtaken), .int MisPlain, .int Mpermissions, .ref a_entries, .ref a_sizes, .ref a_key, .int MisOpen, .int Mfilter, .int (nI Mcollected), .ref a_bytes, .int Mobject, .int MisBack, .int (nI MoutSize), .ref a_out, .int (nI Msaid), .ref a_message, .ref a_digest, .ref a_words, .ref a_h, .ref a_v, .ref a_fillBytes, .ref a_sines, .ref a_roots, .ref a_box, .ref a_backBox, .ref a_roundKeys, .int (nI Mrounds), .ref a_state, .ref a_other, .ref a_stream, .ref a_work, .ref a_padded, .ref a_ownKey])), (a_stream, .inl (E.2.1, 256, .inl z_344.2)), (ax_by, .inl (E.2.1, nby, .inl Yby)), (ax_row, .inl (E.2.1, nrow, .inl Yrow))] := hD_344
      clear hl_303 hP_300 hD_300 hS_300
      refine lv_iload hx hb dX11_throughStream_32 (lv_at hl_344 0 rfl) ?_
      refine lv_sipush (v := 256) hx hb dX11_throughStream_34 (by decide) ?_
      refine lv_icmp_ge (tgt := 103) hx hb dX11_throughStream_37 (by decide) (fun c_345 => ?_) (fun c_345 => absurd c_301 ((not_congr (nI_leI (a := 256) (b := 256) (by omega) (by omega))).mp c_345))
      replace c_345 : 256 ≤ 256 := (nI_leI (a := 256) (b := 256) (by omega) (by omega)).mp c_345
      refine lv_iconst (v := 0) hx hb dX11_throughStream_103 (by decide) ?_
      refine lv_istore (lv' := [(7, .int 0), (8, .int (nI 256)), (0, .ref o), (1, .ref ax_by), (2, .int (nI size)), (3, .int xv), (4, .ref ax_row), (5, .int (nI fr)), (6, .int (nI cn))]) hx hb dX11_throughStream_104 hl_344 (by decide) rfl (fun ls_346 hl_346 => ?_)
      clear hl_344
      refine lv_iconst (v := 0) hx hb dX11_throughStream_106 (by decide) ?_
      refine lv_istore (lv' := [(8, .int 0), (7, .int 0), (0, .ref o), (1, .ref ax_by), (2, .int (nI size)), (3, .int xv), (4, .ref ax_row), (5, .int (nI fr)), (6, .int (nI cn))]) hx hb dX11_throughStream_107 hl_346 (by decide) rfl (fun ls_347 hl_347 => ?_)
      clear hl_346
      refine g_up (N := cn) (B_X11_throughStream_109 fr) ((0, z_344.2, Yrow) : Int32 × (Nat → Int32) × (Nat → Int32)) (Inv := fun i_0 z_399 H_0 locs_0 ls_0 => lv_has ls_0 11 [(8, .int (nI i_0)), (7, .int z_399.1), (0, .ref o), (1, .ref ax_by), (2, .int (nI size)), (3, .int xv), (4, .ref ax_row), (5, .int (nI fr)), (6, .int (nI cn))] ∧ va_P E.1 vwCl [(o, .inr (12, [.int Mthrown, .int (nI rv), .ref a_user, .int (nI Musers), .ref a_owner, .int (nI Mowners), .ref a_tried, .int (nI Mtries), .ref a_id, .int (nI Mids), .ref a_tape, .int (nI Mtaped), .int (nI Mtaken), .int MisPlain, .int Mpermissions, .ref a_entries, .ref a_sizes, .ref a_key, .int MisOpen, .int Mfilter, .int (nI Mcollected), .ref a_bytes, .int Mobject, .int MisBack, .int (nI MoutSize), .ref a_out, .int (nI Msaid), .ref a_message, .ref a_digest, .ref a_words, .ref a_h, .ref a_v, .ref a_fillBytes, .ref a_sines, .ref a_roots, .ref a_box, .ref a_backBox, .ref a_roundKeys, .int (nI Mrounds), .ref a_state, .ref a_other, .ref a_stream, .ref a_work, .ref a_padded, .ref a_ownKey])), (a_stream, .inl (E.2.1, 256, .inl z_399.2.1)), (ax_by, .inl (E.2.1, nby, .inl Yby)), (ax_row, .inl (E.2.1, nrow, .inl z_399.2.2))] H_0 ∧ va_D A [(o, .inr (12, [.int Mthrown, .int (nI rv), .ref a_user, .int (nI Musers), .ref a_owner, .int (nI Mowners), .ref a_tried, .int (nI Mtries), .ref a_id, .int (nI Mids), .ref a_tape, .int (nI Mtaped), .int (nI Mtaken), .int MisPlain, .int Mpermissions, .ref a_entries, .ref a_sizes, .ref a_key, .int MisOpen, .int Mfilter, .int (nI Mcollected), .ref a_bytes, .int Mobject, .int MisBack, .int (nI MoutSize), .ref a_out, .int (nI Msaid), .ref a_message, .ref a_digest, .ref a_words, .ref a_h, .ref a_v, .ref a_fillBytes, .ref a_sines, .ref a_roots, .ref a_box, .ref a_backBox, .ref a_roundKeys, .int (nI Mrounds), .ref a_state, .ref a_other, .ref a_stream, .ref a_work, .ref a_padded, .ref a_ownKey])), (a_stream, .inl (E.2.1, 256, .inl z_399.2.1)), (ax_by, .inl (E.2.1, nby, .inl Yby)), (ax_row, .inl (E.2.1, nrow, .inl z_399.2.2))] ∧ va_S A s.heap H_0 locs_0) (G := fun H_0 locs_0 ls_0 => W _ _ _ _ _ _ _ _ _ _ H_0 locs_0 _ _ _ (F0 _ 109 ls_0 [])) ?_ ?_ ⟨lv_sub hl_347 [0, 1, 2, 3, 4, 5, 6, 7, 8] rfl, hP_344, hD_344, hS_344⟩
      · intro j_400 i_400 z_400 H_400 locs_400 ls_400 hij_400 hz_400 hI_400 ih_400
        obtain ⟨hl_400, hP_400, hD_400, hS_400⟩ := hI_400
        replace hl_400 : lv_has ls_400 11 [(8, .int (nI i_400)), (7, .int z_400.1), (0, .ref o), (1, .ref ax_by), (2, .int (nI size)), (3, .int xv), (4, .ref ax_row), (5, .int (nI fr)), (6, .int (nI cn))] := hl_400
        replace hP_400 : va_P E.1 vwCl [(o, .inr (12, [.int Mthrown, .int (nI rv), .ref a_user, .int (nI Musers), .ref a_owner, .int (nI Mowners), .ref a_tried, .int (nI Mtries), .ref a_id, .int (nI Mids), .ref a_tape, .int (nI Mtaped), .int (nI Mtaken), .int MisPlain, .int Mpermissions, .ref a_entries, .ref a_sizes, .ref a_key, .int MisOpen, .int Mfilter, .int (nI Mcollected), .ref a_bytes, .int Mobject, .int MisBack, .int (nI MoutSize), .ref a_out, .int (nI Msaid), .ref a_message, .ref a_digest, .ref a_words, .ref a_h, .ref a_v, .ref a_fillBytes, .ref a_sines, .ref a_roots, .ref a_box, .ref a_backBox, .ref a_roundKeys, .int (nI Mrounds), .ref a_state, .ref a_other, .ref a_stream, .ref a_work, .ref a_padded, .ref a_ownKey])), (a_stream, .inl (E.2.1, 256, .inl z_400.2.1)), (ax_by, .inl (E.2.1, nby, .inl Yby)), (ax_row, .inl (E.2.1, nrow, .inl z_400.2.2))] H_400 := hP_400
        replace hD_400 : va_D A [(o, .inr (12, [.int Mthrown, .int (nI rv), .ref a_user, .int (nI Musers), .ref a_owner, .int (nI Mowners), .ref a_tried, .int (nI Mtries), .ref a_id, .int (nI Mids), .ref a_tape, .int (nI Mtaped), .int (nI Mtaken), .int MisPlain, .int Mpermissions, .ref a_entries, .ref a_sizes, .ref a_key, .int MisOpen, .int Mfilter, .int (nI Mcollected), .ref a_bytes, .int Mobject, .int MisBack, .int (nI MoutSize), .ref a_out, .int (nI Msaid), .ref a_message, .ref a_digest, .ref a_words, .ref a_h, .ref a_v, .ref a_fillBytes, .ref a_sines, .ref a_roots, .ref a_box, .ref a_backBox, .ref a_roundKeys, .int (nI Mrounds), .ref a_state, .ref a_other, .ref a_stream, .ref a_work, .ref a_padded, .ref a_ownKey])), (a_stream, .inl (E.2.1, 256, .inl z_400.2.1)), (ax_by, .inl (E.2.1, nby, .inl Yby)), (ax_row, .inl (E.2.1, nrow, .inl z_400.2.2))] := hD_400
        clear hl_347 hP_344 hD_344 hS_344
        have qv_z_400 : isB z_400.1 ∧ ∀ k : Nat, k < 256 → isB (z_400.2.1 k) := by rw [hz_400]; exact L_ts109 _ _ (isB_of (n := 0) (by decide)) (L_ts32z hsz.1 hby hxv (by assumption) (L_ts3 (by assumption)))
        refine lv_iload hx hb dX11_throughStream_109 (lv_at hl_400 0 rfl) ?_
        refine lv_iload hx hb dX11_throughStream_111 (lv_at hl_400 8 rfl) ?_
        refine lv_icmp_ge (tgt := 221) hx hb dX11_throughStream_113 (by decide) (fun c_401 => (by have c_401 := (nI_leI (a := cn) (b := i_400) (by omega) (by omega)).mp c_401; exfalso; omega)) (fun c_401 => ?_)
        replace c_401 : ¬ cn ≤ i_400 := (not_congr (nI_leI (a := cn) (b := i_400) (by omega) (by omega))).mp c_401
        refine lv_iload hx hb dX11_throughStream_116 (lv_at hl_400 0 rfl) ?_
        refine lv_iconst (v := 1) hx hb dX11_throughStream_118 (by decide) ?_
        refine lv_iadd hx hb dX11_throughStream_119 ?_
        refine lv_topi (fun y_402 ey_402 => ?_)
        obtain rfl : y_402 = (nI (i_400 + 1)) := ey_402.trans (nI_add _ _)
        refine lv_sipush (v := 256) hx hb dX11_throughStream_120 (by decide) ?_
        refine lv_irem hx hb dX11_throughStream_123 (by decide) ?_
        refine lv_topi (fun y_403 ey_403 => ?_)
        obtain rfl : y_403 = (nI ((i_400 + 1) % 256)) := ey_403.trans (pk_rem (a := i_400 + 1) (d := 256) (by omega) (by omega) (by omega))
        refine lv_istore (lv' := [(9, .int (nI ((i_400 + 1) % 256))), (8, .int (nI i_400)), (7, .int z_400.1), (0, .ref o), (1, .ref ax_by), (2, .int (nI size)), (3, .int xv), (4, .ref ax_row), (5, .int (nI fr)), (6, .int (nI cn))]) hx hb dX11_throughStream_124 hl_400 (by decide) rfl (fun ls_404 hl_404 => ?_)
        clear hl_400
        refine lv_iload hx hb dX11_throughStream_126 (lv_at hl_404 2 rfl) ?_
        refine lv_aload_n hx hb dX11_throughStream_128 rfl (lv_at hl_404 3 rfl) ?_
        refine va_get (D := E.1) (ci := 12) (v := .ref a_stream) (C := RX11) (T := TX11) (N := 45) hx hb hts in_X11 hown hK hP_400 0 rfl rfl 41 (by decide) w_0 (fun _ h9 => h9) rfl dX11_throughStream_129 ?_
        refine lv_iload hx hb dX11_throughStream_132 (lv_at hl_404 0 rfl) ?_
        refine g_iald (e0 := (i_400 + 1) % 256) hx hb hK hP_400 1 0 rfl rfl (by omega) (by omega) dX11_throughStream_134 ?_
        refine lv_iadd hx hb dX11_throughStream_135 ?_
        refine lv_sipush (v := 256) hx hb dX11_throughStream_136 (by decide) ?_
        refine lv_irem hx hb dX11_throughStream_139 (by decide) ?_
        refine lv_topi (fun v_405 ev_405 => ?_)
        refine lv_istore (lv' := [(7, .int v_405), (9, .int (nI ((i_400 + 1) % 256))), (8, .int (nI i_400)), (0, .ref o), (1, .ref ax_by), (2, .int (nI size)), (3, .int xv), (4, .ref ax_row), (5, .int (nI fr)), (6, .int (nI cn))]) hx hb dX11_throughStream_140 hl_404 (by decide) rfl (fun ls_406 hl_406 => ?_)
        clear hl_404
        refine lv_aload_n hx hb dX11_throughStream_142 rfl (lv_at hl_406 3 rfl) ?_
        refine va_get (D := E.1) (ci := 12) (v := .ref a_stream) (C := RX11) (T := TX11) (N := 45) hx hb hts in_X11 hown hK hP_400 0 rfl rfl 41 (by decide) w_0 (fun _ h9 => h9) rfl dX11_throughStream_143 ?_
        refine lv_iload hx hb dX11_throughStream_146 (lv_at hl_406 1 rfl) ?_
        refine g_iald (e0 := (i_400 + 1) % 256) hx hb hK hP_400 1 0 rfl rfl (by omega) (by omega) dX11_throughStream_148 ?_
        refine lv_istore (lv' := [(10, .int (z_400.2.1 ((i_400 + 1) % 256))), (7, .int v_405), (9, .int (nI ((i_400 + 1) % 256))), (8, .int (nI i_400)), (0, .ref o), (1, .ref ax_by), (2, .int (nI size)), (3, .int xv), (4, .ref ax_row), (5, .int (nI fr)), (6, .int (nI cn))]) hx hb dX11_throughStream_149 hl_406 (by decide) rfl (fun ls_407 hl_407 => ?_)
        clear hl_406
        refine lv_aload_n hx hb dX11_throughStream_151 rfl (lv_at hl_407 4 rfl) ?_
        refine va_get (D := E.1) (ci := 12) (v := .ref a_stream) (C := RX11) (T := TX11) (N := 45) hx hb hts in_X11 hown hK hP_400 0 rfl rfl 41 (by decide) w_0 (fun _ h9 => h9) rfl dX11_throughStream_152 ?_
        refine lv_iload hx hb dX11_throughStream_155 (lv_at hl_407 2 rfl) ?_
        refine lv_aload_n hx hb dX11_throughStream_157 rfl (lv_at hl_407 4 rfl) ?_
        refine va_get (D := E.1) (ci := 12) (v := .ref a_stream) (C := RX11) (T := TX11) (N := 45) hx hb hts in_X11 hown hK hP_400 0 rfl rfl 41 (by decide) w_0 (fun _ h9 => h9) rfl dX11_throughStream_158 ?_
        refine lv_iload hx hb dX11_throughStream_161 (lv_at hl_407 1 rfl) ?_
        refine va_iald hx hb hK hP_400 1 0 rfl rfl (by rw [ev_405]; exact isB_in (isB_rem (nn_add2 qv_z_400.1 (qv_z_400.2 _ (by omega))))) dX11_throughStream_163 ?_
        refine g_iast (e0 := (i_400 + 1) % 256) hx hb hK hP_400 hD_400 hS_400 1 0 rfl rfl (by omega) (by omega) dX11_throughStream_164 (fun H_408 locs_408 hP_408 hD_408 hS_408 => ?_)
        replace hP_408 : va_P E.1 vwCl [(o, .inr (12, [.int Mthrown, .int (nI rv), .ref a_user, .int (nI Musers), .ref a_owner, .int (nI Mowners), .ref a_tried, .int (nI Mtries), .ref a_id, .int (nI Mids), .ref a_tape, .int (nI Mtaped), .int (nI Mtaken), .int MisPlain, .int Mpermissions, .ref a_entries, .ref a_sizes, .ref a_key, .int MisOpen, .int Mfilter, .int (nI Mcollected), .ref a_bytes, .int Mobject, .int MisBack, .int (nI MoutSize), .ref a_out, .int (nI Msaid), .ref a_message, .ref a_digest, .ref a_words, .ref a_h, .ref a_v, .ref a_fillBytes, .ref a_sines, .ref a_roots, .ref a_box, .ref a_backBox, .ref a_roundKeys, .int (nI Mrounds), .ref a_state, .ref a_other, .ref a_stream, .ref a_work, .ref a_padded, .ref a_ownKey])), (a_stream, .inl (E.2.1, 256, .inl (upd z_400.2.1 ((i_400 + 1) % 256) (z_400.2.1 v_405.toNatClampNeg)))), (ax_by, .inl (E.2.1, nby, .inl Yby)), (ax_row, .inl (E.2.1, nrow, .inl z_400.2.2))] H_408 := hP_408
        replace hD_408 : va_D A [(o, .inr (12, [.int Mthrown, .int (nI rv), .ref a_user, .int (nI Musers), .ref a_owner, .int (nI Mowners), .ref a_tried, .int (nI Mtries), .ref a_id, .int (nI Mids), .ref a_tape, .int (nI Mtaped), .int (nI Mtaken), .int MisPlain, .int Mpermissions, .ref a_entries, .ref a_sizes, .ref a_key, .int MisOpen, .int Mfilter, .int (nI Mcollected), .ref a_bytes, .int Mobject, .int MisBack, .int (nI MoutSize), .ref a_out, .int (nI Msaid), .ref a_message, .ref a_digest, .ref a_words, .ref a_h, .ref a_v, .ref a_fillBytes, .ref a_sines, .ref a_roots, .ref a_box, .ref a_backBox, .ref a_roundKeys, .int (nI Mrounds), .ref a_state, .ref a_other, .ref a_stream, .ref a_work, .ref a_padded, .ref a_ownKey])), (a_stream, .inl (E.2.1, 256, .inl (upd z_400.2.1 ((i_400 + 1) % 256) (z_400.2.1 v_405.toNatClampNeg)))), (ax_by, .inl (E.2.1, nby, .inl Yby)), (ax_row, .inl (E.2.1, nrow, .inl z_400.2.2))] := hD_408
        clear hP_400 hD_400 hS_400
        refine lv_aload_n hx hb dX11_throughStream_165 rfl (lv_at hl_407 4 rfl) ?_
        refine va_get (D := E.1) (ci := 12) (v := .ref a_stream) (C := RX11) (T := TX11) (N := 45) hx hb hts in_X11 hown hK hP_408 0 rfl rfl 41 (by decide) w_0 (fun _ h9 => h9) rfl dX11_throughStream_166 ?_
        refine lv_iload hx hb dX11_throughStream_169 (lv_at hl_407 1 rfl) ?_
        refine lv_iload hx hb dX11_throughStream_171 (lv_at hl_407 0 rfl) ?_
        refine va_iast hx hb hK hP_408 hD_408 hS_408 1 0 rfl rfl (by rw [ev_405]; exact isB_in (isB_rem (nn_add2 qv_z_400.1 (qv_z_400.2 _ (by omega))))) dX11_throughStream_173 (fun H_409 locs_409 hP_409 hD_409 hS_409 => ?_)
        replace hP_409 : va_P E.1 vwCl [(o, .inr (12, [.int Mthrown, .int (nI rv), .ref a_user, .int (nI Musers), .ref a_owner, .int (nI Mowners), .ref a_tried, .int (nI Mtries), .ref a_id, .int (nI Mids), .ref a_tape, .int (nI Mtaped), .int (nI Mtaken), .int MisPlain, .int Mpermissions, .ref a_entries, .ref a_sizes, .ref a_key, .int MisOpen, .int Mfilter, .int (nI Mcollected), .ref a_bytes, .int Mobject, .int MisBack, .int (nI MoutSize), .ref a_out, .int (nI Msaid), .ref a_message, .ref a_digest, .ref a_words, .ref a_h, .ref a_v, .ref a_fillBytes, .ref a_sines, .ref a_roots, .ref a_box, .ref a_backBox, .ref a_roundKeys, .int (nI Mrounds), .ref a_state, .ref a_other, .ref a_stream, .ref a_work, .ref a_padded, .ref a_ownKey])), (a_stream, .inl (E.2.1, 256, .inl (upd (upd z_400.2.1 ((i_400 + 1) % 256) (z_400.2.1 v_405.toNatClampNeg)) v_405.toNatClampNeg (z_400.2.1 ((i_400 + 1) % 256))))), (ax_by, .inl (E.2.1, nby, .inl Yby)), (ax_row, .inl (E.2.1, nrow, .inl z_400.2.2))] H_409 := hP_409
        replace hD_409 : va_D A [(o, .inr (12, [.int Mthrown, .int (nI rv), .ref a_user, .int (nI Musers), .ref a_owner, .int (nI Mowners), .ref a_tried, .int (nI Mtries), .ref a_id, .int (nI Mids), .ref a_tape, .int (nI Mtaped), .int (nI Mtaken), .int MisPlain, .int Mpermissions, .ref a_entries, .ref a_sizes, .ref a_key, .int MisOpen, .int Mfilter, .int (nI Mcollected), .ref a_bytes, .int Mobject, .int MisBack, .int (nI MoutSize), .ref a_out, .int (nI Msaid), .ref a_message, .ref a_digest, .ref a_words, .ref a_h, .ref a_v, .ref a_fillBytes, .ref a_sines, .ref a_roots, .ref a_box, .ref a_backBox, .ref a_roundKeys, .int (nI Mrounds), .ref a_state, .ref a_other, .ref a_stream, .ref a_work, .ref a_padded, .ref a_ownKey])), (a_stream, .inl (E.2.1, 256, .inl (upd (upd z_400.2.1 ((i_400 + 1) % 256) (z_400.2.1 v_405.toNatClampNeg)) v_405.toNatClampNeg (z_400.2.1 ((i_400 + 1) % 256))))), (ax_by, .inl (E.2.1, nby, .inl Yby)), (ax_row, .inl (E.2.1, nrow, .inl z_400.2.2))] := hD_409
        clear hP_408 hD_408 hS_408
        refine lv_aload hx hb dX11_throughStream_174 (lv_at hl_407 8 rfl) ?_
        refine lv_iload hx hb dX11_throughStream_176 (lv_at hl_407 9 rfl) ?_
        refine lv_iload hx hb dX11_throughStream_178 (lv_at hl_407 3 rfl) ?_
        refine lv_iadd hx hb dX11_throughStream_180 ?_
        refine lv_topi (fun y_410 ey_410 => ?_)
        obtain rfl : y_410 = (nI (fr + i_400)) := ey_410.trans (nI_add _ _)
        refine lv_aload hx hb dX11_throughStream_181 (lv_at hl_407 8 rfl) ?_
        refine lv_iload hx hb dX11_throughStream_183 (lv_at hl_407 9 rfl) ?_
        refine lv_iload hx hb dX11_throughStream_185 (lv_at hl_407 3 rfl) ?_
        refine lv_iadd hx hb dX11_throughStream_187 ?_
        refine lv_topi (fun y_411 ey_411 => ?_)
        obtain rfl : y_411 = (nI (fr + i_400)) := ey_411.trans (nI_add _ _)
        refine g_iald (e0 := fr + i_400) hx hb hK hP_409 3 0 rfl rfl (by omega) (by omega) dX11_throughStream_188 ?_
        refine lv_aload_n hx hb dX11_throughStream_189 rfl (lv_at hl_407 4 rfl) ?_
        refine va_get (D := E.1) (ci := 12) (v := .ref a_stream) (C := RX11) (T := TX11) (N := 45) hx hb hts in_X11 hown hK hP_409 0 rfl rfl 41 (by decide) w_0 (fun _ h9 => h9) rfl dX11_throughStream_190 ?_
        refine lv_aload_n hx hb dX11_throughStream_193 rfl (lv_at hl_407 4 rfl) ?_
        refine va_get (D := E.1) (ci := 12) (v := .ref a_stream) (C := RX11) (T := TX11) (N := 45) hx hb hts in_X11 hown hK hP_409 0 rfl rfl 41 (by decide) w_0 (fun _ h9 => h9) rfl dX11_throughStream_194 ?_
        refine lv_iload hx hb dX11_throughStream_197 (lv_at hl_407 2 rfl) ?_
        refine g_iald (e0 := (i_400 + 1) % 256) hx hb hK hP_409 1 0 rfl rfl (by omega) (by omega) dX11_throughStream_199 ?_
        refine lv_aload_n hx hb dX11_throughStream_200 rfl (lv_at hl_407 4 rfl) ?_
        refine va_get (D := E.1) (ci := 12) (v := .ref a_stream) (C := RX11) (T := TX11) (N := 45) hx hb hts in_X11 hown hK hP_409 0 rfl rfl 41 (by decide) w_0 (fun _ h9 => h9) rfl dX11_throughStream_201 ?_
        refine lv_iload hx hb dX11_throughStream_204 (lv_at hl_407 1 rfl) ?_
        refine va_iald hx hb hK hP_409 1 0 rfl rfl (by rw [ev_405]; exact isB_in (isB_rem (nn_add2 qv_z_400.1 (qv_z_400.2 _ (by omega))))) dX11_throughStream_206 ?_
        refine lv_iadd hx hb dX11_throughStream_207 ?_
        refine lv_topi (fun v_412 ev_412 => ?_)
        refine lv_sipush (v := 256) hx hb dX11_throughStream_208 (by decide) ?_
        refine lv_irem hx hb dX11_throughStream_211 (by decide) ?_
        refine va_iald hx hb hK hP_409 1 0 rfl rfl (by subst ev_412; subst ev_405; exact isB_in (isB_rem (nn_add2 (isB_sw qv_z_400.2 (by omega) (isB_cl (isB_rem (nn_add2 qv_z_400.1 (qv_z_400.2 _ (by omega))))) _ (by omega)) (isB_sw qv_z_400.2 (by omega) (isB_cl (isB_rem (nn_add2 qv_z_400.1 (qv_z_400.2 _ (by omega))))) _ (isB_cl (isB_rem (nn_add2 qv_z_400.1 (qv_z_400.2 _ (by omega))))))))) dX11_throughStream_212 ?_
        refine lv_ixor hx hb dX11_throughStream_213 ?_
        refine lv_topi (fun v_413 ev_413 => ?_)
        refine g_iast (e0 := fr + i_400) hx hb hK hP_409 hD_409 hS_409 3 0 rfl rfl (by omega) (by omega) dX11_throughStream_214 (fun H_414 locs_414 hP_414 hD_414 hS_414 => ?_)
        replace hP_414 : va_P E.1 vwCl [(o, .inr (12, [.int Mthrown, .int (nI rv), .ref a_user, .int (nI Musers), .ref a_owner, .int (nI Mowners), .ref a_tried, .int (nI Mtries), .ref a_id, .int (nI Mids), .ref a_tape, .int (nI Mtaped), .int (nI Mtaken), .int MisPlain, .int Mpermissions, .ref a_entries, .ref a_sizes, .ref a_key, .int MisOpen, .int Mfilter, .int (nI Mcollected), .ref a_bytes, .int Mobject, .int MisBack, .int (nI MoutSize), .ref a_out, .int (nI Msaid), .ref a_message, .ref a_digest, .ref a_words, .ref a_h, .ref a_v, .ref a_fillBytes, .ref a_sines, .ref a_roots, .ref a_box, .ref a_backBox, .ref a_roundKeys, .int (nI Mrounds), .ref a_state, .ref a_other, .ref a_stream, .ref a_work, .ref a_padded, .ref a_ownKey])), (a_stream, .inl (E.2.1, 256, .inl (upd (upd z_400.2.1 ((i_400 + 1) % 256) (z_400.2.1 v_405.toNatClampNeg)) v_405.toNatClampNeg (z_400.2.1 ((i_400 + 1) % 256))))), (ax_by, .inl (E.2.1, nby, .inl Yby)), (ax_row, .inl (E.2.1, nrow, .inl (upd z_400.2.2 (fr + i_400) v_413)))] H_414 := hP_414
        replace hD_414 : va_D A [(o, .inr (12, [.int Mthrown, .int (nI rv), .ref a_user, .int (nI Musers), .ref a_owner, .int (nI Mowners), .ref a_tried, .int (nI Mtries), .ref a_id, .int (nI Mids), .ref a_tape, .int (nI Mtaped), .int (nI Mtaken), .int MisPlain, .int Mpermissions, .ref a_entries, .ref a_sizes, .ref a_key, .int MisOpen, .int Mfilter, .int (nI Mcollected), .ref a_bytes, .int Mobject, .int MisBack, .int (nI MoutSize), .ref a_out, .int (nI Msaid), .ref a_message, .ref a_digest, .ref a_words, .ref a_h, .ref a_v, .ref a_fillBytes, .ref a_sines, .ref a_roots, .ref a_box, .ref a_backBox, .ref a_roundKeys, .int (nI Mrounds), .ref a_state, .ref a_other, .ref a_stream, .ref a_work, .ref a_padded, .ref a_ownKey])), (a_stream, .inl (E.2.1, 256, .inl (upd (upd z_400.2.1 ((i_400 + 1) % 256) (z_400.2.1 v_405.toNatClampNeg)) v_405.toNatClampNeg (z_400.2.1 ((i_400 + 1) % 256))))), (ax_by, .inl (E.2.1, nby, .inl Yby)), (ax_row, .inl (E.2.1, nrow, .inl (upd z_400.2.2 (fr + i_400) v_413)))] := hD_414
        clear hP_409 hD_409 hS_409
        refine lv_iinc (v := (nI (i_400 + 1))) (lv' := [(8, .int (nI (i_400 + 1))), (10, .int (z_400.2.1 ((i_400 + 1) % 256))), (7, .int v_405), (9, .int (nI ((i_400 + 1) % 256))), (0, .ref o), (1, .ref ax_by), (2, .int (nI size)), (3, .int xv), (4, .ref ax_row), (5, .int (nI fr)), (6, .int (nI cn))]) hx hb dX11_throughStream_215 hl_407 (k := 3) rfl (nI_add _ 1) (by decide) rfl (fun ls_415 hl_415 => ?_)
        clear hl_407
        refine lv_goto (tgt := 109) hx hb dX11_throughStream_218 (by decide) ?_
        exact ih_400 ((v_405, (upd (upd z_400.2.1 ((i_400 + 1) % 256) (z_400.2.1 v_405.toNatClampNeg)) v_405.toNatClampNeg (z_400.2.1 ((i_400 + 1) % 256))), (upd z_400.2.2 (fr + i_400) v_413)) : Int32 × (Nat → Int32) × (Nat → Int32)) _ _ _ (((show (B_X11_throughStream_109 fr) i_400 z_400 = _ from (gLet_eq ev_405 (gLet_eq ev_412 (gLet_eq ev_413 rfl)))).symm.trans (congrArg ((B_X11_throughStream_109 fr) i_400) hz_400)).trans (itr_s _ _ _).symm) ⟨lv_sub hl_415 [0, 2, 4, 5, 6, 7, 8, 9, 10] rfl, (hP_414.sub [0, 1, 2, 3] rfl), (hD_414.sub [0, 1, 2, 3] (by decide) rfl), hS_414⟩
      · intro z_416 H_416 locs_416 ls_416 hz_416 hI_416
        obtain ⟨hl_416, hP_416, hD_416, hS_416⟩ := hI_416
        replace hl_416 : lv_has ls_416 11 [(8, .int (nI cn)), (7, .int z_416.1), (0, .ref o), (1, .ref ax_by), (2, .int (nI size)), (3, .int xv), (4, .ref ax_row), (5, .int (nI fr)), (6, .int (nI cn))] := hl_416
        replace hP_416 : va_P E.1 vwCl [(o, .inr (12, [.int Mthrown, .int (nI rv), .ref a_user, .int (nI Musers), .ref a_owner, .int (nI Mowners), .ref a_tried, .int (nI Mtries), .ref a_id, .int (nI Mids), .ref a_tape, .int (nI Mtaped), .int (nI Mtaken), .int MisPlain, .int Mpermissions, .ref a_entries, .ref a_sizes, .ref a_key, .int MisOpen, .int Mfilter, .int (nI Mcollected), .ref a_bytes, .int Mobject, .int MisBack, .int (nI MoutSize), .ref a_out, .int (nI Msaid), .ref a_message, .ref a_digest, .ref a_words, .ref a_h, .ref a_v, .ref a_fillBytes, .ref a_sines, .ref a_roots, .ref a_box, .ref a_backBox, .ref a_roundKeys, .int (nI Mrounds), .ref a_state, .ref a_other, .ref a_stream, .ref a_work, .ref a_padded, .ref a_ownKey])), (a_stream, .inl (E.2.1, 256, .inl z_416.2.1)), (ax_by, .inl (E.2.1, nby, .inl Yby)), (ax_row, .inl (E.2.1, nrow, .inl z_416.2.2))] H_416 := hP_416
        replace hD_416 : va_D A [(o, .inr (12, [.int Mthrown, .int (nI rv), .ref a_user, .int (nI Musers), .ref a_owner, .int (nI Mowners), .ref a_tried, .int (nI Mtries), .ref a_id, .int (nI Mids), .ref a_tape, .int (nI Mtaped), .int (nI Mtaken), .int MisPlain, .int Mpermissions, .ref a_entries, .ref a_sizes, .ref a_key, .int MisOpen, .int Mfilter, .int (nI Mcollected), .ref a_bytes, .int Mobject, .int MisBack, .int (nI MoutSize), .ref a_out, .int (nI Msaid), .ref a_message, .ref a_digest, .ref a_words, .ref a_h, .ref a_v, .ref a_fillBytes, .ref a_sines, .ref a_roots, .ref a_box, .ref a_backBox, .ref a_roundKeys, .int (nI Mrounds), .ref a_state, .ref a_other, .ref a_stream, .ref a_work, .ref a_padded, .ref a_ownKey])), (a_stream, .inl (E.2.1, 256, .inl z_416.2.1)), (ax_by, .inl (E.2.1, nby, .inl Yby)), (ax_row, .inl (E.2.1, nrow, .inl z_416.2.2))] := hD_416
        clear hl_347 hP_344 hD_344 hS_344
        refine lv_iload hx hb dX11_throughStream_109 (lv_at hl_416 0 rfl) ?_
        refine lv_iload hx hb dX11_throughStream_111 (lv_at hl_416 8 rfl) ?_
        refine lv_icmp_ge (tgt := 221) hx hb dX11_throughStream_113 (by decide) (fun c_417 => ?_) (fun c_417 => (by have c_417 := (not_congr (nI_leI (a := cn) (b := cn) (by omega) (by omega))).mp c_417; exfalso; omega))
        replace c_417 : cn ≤ cn := (nI_leI (a := cn) (b := cn) (by omega) (by omega)).mp c_417
        have hpost : ((z_416.2.1, z_416.2.2) : (Nat → Int32) × (Nat → Int32)) = F_X11_throughStream Mstream Yby Yrow size xv fr cn := (show F_X11_throughStream Mstream Yby Yrow size xv fr cn = ((z_416.2.1, z_416.2.2) : (Nat → Int32) × (Nat → Int32)) from (gLet_eq hz_300 (gLet_eq hz_344 (gLet_eq hz_416 rfl)))).symm
        have hP9 := hP_416.sub (ws' := [(o, .inr (12, [.int Mthrown, .int (nI rv), .ref a_user, .int (nI Musers), .ref a_owner, .int (nI Mowners), .ref a_tried, .int (nI Mtries), .ref a_id, .int (nI Mids), .ref a_tape, .int (nI Mtaped), .int (nI Mtaken), .int MisPlain, .int Mpermissions, .ref a_entries, .ref a_sizes, .ref a_key, .int MisOpen, .int Mfilter, .int (nI Mcollected), .ref a_bytes, .int Mobject, .int MisBack, .int (nI MoutSize), .ref a_out, .int (nI Msaid), .ref a_message, .ref a_digest, .ref a_words, .ref a_h, .ref a_v, .ref a_fillBytes, .ref a_sines, .ref a_roots, .ref a_box, .ref a_backBox, .ref a_roundKeys, .int (nI Mrounds), .ref a_state, .ref a_other, .ref a_stream, .ref a_work, .ref a_padded, .ref a_ownKey])), (a_stream, .inl (E.2.1, 256, .inl z_416.2.1)), (ax_by, .inl (E.2.1, nby, .inl Yby)), (ax_row, .inl (E.2.1, nrow, .inl z_416.2.2))]) [0, 1, 2, 3] rfl
        have hD9 := hD_416.sub (ws' := [(o, .inr (12, [.int Mthrown, .int (nI rv), .ref a_user, .int (nI Musers), .ref a_owner, .int (nI Mowners), .ref a_tried, .int (nI Mtries), .ref a_id, .int (nI Mids), .ref a_tape, .int (nI Mtaped), .int (nI Mtaken), .int MisPlain, .int Mpermissions, .ref a_entries, .ref a_sizes, .ref a_key, .int MisOpen, .int Mfilter, .int (nI Mcollected), .ref a_bytes, .int Mobject, .int MisBack, .int (nI MoutSize), .ref a_out, .int (nI Msaid), .ref a_message, .ref a_digest, .ref a_words, .ref a_h, .ref a_v, .ref a_fillBytes, .ref a_sines, .ref a_roots, .ref a_box, .ref a_backBox, .ref a_roundKeys, .int (nI Mrounds), .ref a_state, .ref a_other, .ref a_stream, .ref a_work, .ref a_padded, .ref a_ownKey])), (a_stream, .inl (E.2.1, 256, .inl z_416.2.1)), (ax_by, .inl (E.2.1, nby, .inl Yby)), (ax_row, .inl (E.2.1, nrow, .inl z_416.2.2))]) [0, 1, 2, 3] (by decide) rfl
        exact W.vret hx hb hr (fun t ht hW => ⟨⟨(z_416.2.1, z_416.2.2), rfl, hpost, by rw [ht]; exact hP9, hD9⟩, hS_416.F ht⟩) hS_416.2.2 dX11_throughStream_221
set_option maxHeartbeats 4000000 in
set_option maxRecDepth 100000 in
theorem k_X11_times (E : gE) (l : Launch) (ta : Int32) (tb : Int32) : gMi E l yX11_times wsX11_times ({ frames := 0, cells := 0, slots := 0, locals := 0 }) 0 0 [.int ta, .int tb] [] (fun (rr : Int32) (_ : Unit) => rr = F_X11_times ta tb) (fun (_ : Unit) => []) := by
  intro sz
  refine Met.ofW (cc := cX11_times) (maxL := 4) (ret := (some .int)) (by decide) rfl ?_
  intro p e s m args below meth c s₁ B hml hv
  obtain ⟨rfl, hsz, hP, hV, hD0⟩ := hv
  have hx := B.exec
  have hb := B.bytes
  have hr := B.returns
  have hts := atoms_spec (ws := wsX11_times) B.pre
  have hown : s.vm.findClass RX11 = some m.cls := findClass_of_methodNamed B.named
  have hlocks := B.notSynchronized
  subst hsz
  have hD := hD0.self (sz := s.heap.size)
  clear hD0
  generalize hAe : va_A [] s.heap.size = A at hD hV ⊢
  have hA : ∀ q : Nat, s.heap.size ≤ q → A q := fun q h => by rw [← hAe]; exact Or.inr h
  have hS : va_S A s.heap s.heap [] := va_S.rf
  have hK := hV.1
  have hF : CallFix p m c cX11_times 4 s _ wsX11_times RX11 := ⟨hx, hb, hml, hown, hts⟩
  have hl := lv_entry [.int ta, .int tb] (n := 4) (Nat.le_of_ble_eq_true rfl)
  rw [lg_entry_eq]
  generalize (lg_sl [.int ta, .int tb] ++ List.replicate (4 - (lg_sl [.int ta, .int tb]).length) Slot.unset).toArray = ls at hl ⊢
  have hl : lv_has ls 4 [(0, .int ta), (1, .int tb)] := hl
  refine lv_iconst (v := 0) hx hb dX11_times_0 (by decide) ?_
  refine lv_istore_n (lv' := [(2, .int 0), (0, .int ta), (1, .int tb)]) hx hb dX11_times_1 rfl hl (by decide) rfl (fun ls_135 hl_135 => ?_)
  clear hl
  refine lv_bipush (v := 7) hx hb dX11_times_2 (by decide) ?_
  refine lv_istore_n (lv' := [(3, .int 7), (2, .int 0), (0, .int ta), (1, .int tb)]) hx hb dX11_times_4 rfl hl_135 (by decide) rfl (fun ls_136 hl_136 => ?_)
  clear hl_135
  replace hl_136 : lv_has ls_136 4 [(3, .int (nI 8 - 1)), (2, .int 0), (0, .int ta), (1, .int tb)] := by rw [← (show (7 : Int32) = nI 8 - 1 from by decide)]; exact hl_136
  refine g_down (N := 8) (B_X11_times_5 tb ta) (0 : Int32) (Inv := fun i_0 z_183 H_0 locs_0 ls_0 => lv_has ls_0 4 [(3, .int (nI i_0 - 1)), (2, .int z_183), (0, .int ta), (1, .int tb)] ∧ va_P E.1 vwCl [] H_0 ∧ va_D A [] ∧ va_S A s.heap H_0 locs_0) (G := fun H_0 locs_0 ls_0 => W _ _ _ _ _ _ _ _ _ _ H_0 locs_0 _ _ _ (F0 _ 5 ls_0 [])) ?_ ?_ ⟨lv_sub hl_136 [0, 1, 2, 3] rfl, hP, hD, hS⟩
  · intro j_184 z_184 H_184 locs_184 ls_184 hij_184 hz_184 hI_184 ih_184
    obtain ⟨hl_184, hP_184, hD_184, hS_184⟩ := hI_184
    replace hl_184 : lv_has ls_184 4 [(3, .int (nI j_184)), (2, .int z_184), (0, .int ta), (1, .int tb)] := (by have q := hl_184; rw [nI_pred] at q; exact q)
    replace hP_184 : va_P E.1 vwCl [] H_184 := hP_184
    replace hD_184 : va_D A [] := hD_184
    clear hl_136 hP hD hS
    refine lv_iload_n hx hb dX11_times_5 rfl (lv_at hl_184 0 rfl) ?_
    refine lv_if_lt (tgt := 53) hx hb dX11_times_6 (by decide) (fun c_185 => (by have c_185 := (nI_ltI (a := j_184) (b := 0) (by omega) (by omega)).mp c_185; exfalso; omega)) (fun c_185 => ?_)
    replace c_185 : ¬ j_184 < 0 := (not_congr (nI_ltI (a := j_184) (b := 0) (by omega) (by omega))).mp c_185
    refine lv_iconst (v := 2) hx hb dX11_times_9 (by decide) ?_
    refine lv_iload_n hx hb dX11_times_10 rfl (lv_at hl_184 1 rfl) ?_
    refine lv_imul hx hb dX11_times_11 ?_
    refine lv_istore_n (lv' := [(2, .int (2 * z_184)), (3, .int (nI j_184)), (0, .int ta), (1, .int tb)]) hx hb dX11_times_12 rfl hl_184 (by decide) rfl (fun ls_186 hl_186 => ?_)
    clear hl_184
    refine lv_iload_n hx hb dX11_times_13 rfl (lv_at hl_186 0 rfl) ?_
    refine lv_sipush (v := 255) hx hb dX11_times_14 (by decide) ?_
    refine lv_icmp_le (tgt := 28) hx hb dX11_times_17 (by decide) (fun c_187 => ?_) (fun c_187 => ?_)
    · replace c_187 : (2 * z_184) ≤ 255 := c_187
      refine lv_iload_n hx hb dX11_times_28 rfl (lv_at hl_186 0 rfl) ?_
      refine lv_istore_n (lv' := [(2, .int (2 * z_184)), (3, .int (nI j_184)), (0, .int ta), (1, .int tb)]) hx hb dX11_times_29 rfl hl_186 (by decide) rfl (fun ls_188 hl_188 => ?_)
      clear hl_186
      refine lv_iload_n hx hb dX11_times_30 rfl (lv_at hl_188 3 rfl) ?_
      refine lv_iload_n hx hb dX11_times_31 rfl (lv_at hl_188 1 rfl) ?_
      refine lv_ishr hx hb dX11_times_32 ?_
      refine lv_iconst (v := 1) hx hb dX11_times_33 (by decide) ?_
      refine lv_iand hx hb dX11_times_34 ?_
      refine lv_iconst (v := 1) hx hb dX11_times_35 (by decide) ?_
      refine lv_icmp_ne (tgt := 45) hx hb dX11_times_36 (by decide) (fun c_189 => ?_) (fun c_189 => ?_)
      · replace c_189 : ¬ (((tb >>> ((nI j_184) &&& 31)) &&& 1) = 1) := c_189
        refine lv_iload_n hx hb dX11_times_45 rfl (lv_at hl_188 0 rfl) ?_
        refine lv_istore_n (lv' := [(2, .int (2 * z_184)), (3, .int (nI j_184)), (0, .int ta), (1, .int tb)]) hx hb dX11_times_46 rfl hl_188 (by decide) rfl (fun ls_190 hl_190 => ?_)
        clear hl_188
        refine lv_iinc (v := (nI j_184 - 1)) (lv' := [(3, .int (nI j_184 - 1)), (2, .int (2 * z_184)), (0, .int ta), (1, .int tb)]) hx hb dX11_times_47 hl_190 (k := 1) rfl (g_dm1 _) (by decide) rfl (fun ls_191 hl_191 => ?_)
        clear hl_190
        refine lv_goto (tgt := 5) hx hb dX11_times_50 (by decide) ?_
        exact ih_184 ((2 * z_184) : Int32) _ _ _ ((congrArg (itd (B_X11_times_5 tb ta) j_184) (show (B_X11_times_5 tb ta) j_184 z_184 = _ from ((if_pos c_187).trans ((if_neg c_189).trans rfl)))).symm.trans ((itd_s _ _ _).symm.trans hz_184)) ⟨lv_sub hl_191 [0, 1, 2, 3] rfl, (hP_184.sub [] rfl), (hD_184.sub [] (by decide) rfl), hS_184⟩
      · replace c_189 : ((tb >>> ((nI j_184) &&& 31)) &&& 1) = 1 := c_189
        refine lv_iload_n hx hb dX11_times_39 rfl (lv_at hl_188 0 rfl) ?_
        refine lv_iload_n hx hb dX11_times_40 rfl (lv_at hl_188 2 rfl) ?_
        refine lv_ixor hx hb dX11_times_41 ?_
        refine lv_goto (tgt := 46) hx hb dX11_times_42 (by decide) ?_
        refine lv_istore_n (lv' := [(2, .int ((2 * z_184) ^^^ ta)), (3, .int (nI j_184)), (0, .int ta), (1, .int tb)]) hx hb dX11_times_46 rfl hl_188 (by decide) rfl (fun ls_192 hl_192 => ?_)
        clear hl_188
        refine lv_iinc (v := (nI j_184 - 1)) (lv' := [(3, .int (nI j_184 - 1)), (2, .int ((2 * z_184) ^^^ ta)), (0, .int ta), (1, .int tb)]) hx hb dX11_times_47 hl_192 (k := 1) rfl (g_dm1 _) (by decide) rfl (fun ls_193 hl_193 => ?_)
        clear hl_192
        refine lv_goto (tgt := 5) hx hb dX11_times_50 (by decide) ?_
        exact ih_184 (((2 * z_184) ^^^ ta) : Int32) _ _ _ ((congrArg (itd (B_X11_times_5 tb ta) j_184) (show (B_X11_times_5 tb ta) j_184 z_184 = _ from ((if_pos c_187).trans ((if_pos c_189).trans rfl)))).symm.trans ((itd_s _ _ _).symm.trans hz_184)) ⟨lv_sub hl_193 [0, 1, 2, 3] rfl, (hP_184.sub [] rfl), (hD_184.sub [] (by decide) rfl), hS_184⟩
    · replace c_187 : ¬ ((2 * z_184) ≤ 255) := c_187
      refine lv_iload_n hx hb dX11_times_20 rfl (lv_at hl_186 0 rfl) ?_
      refine lv_sipush (v := 283) hx hb dX11_times_21 (by decide) ?_
      refine lv_ixor hx hb dX11_times_24 ?_
      refine lv_goto (tgt := 29) hx hb dX11_times_25 (by decide) ?_
      refine lv_istore_n (lv' := [(2, .int ((2 * z_184) ^^^ 283)), (3, .int (nI j_184)), (0, .int ta), (1, .int tb)]) hx hb dX11_times_29 rfl hl_186 (by decide) rfl (fun ls_194 hl_194 => ?_)
      clear hl_186
      refine lv_iload_n hx hb dX11_times_30 rfl (lv_at hl_194 3 rfl) ?_
      refine lv_iload_n hx hb dX11_times_31 rfl (lv_at hl_194 1 rfl) ?_
      refine lv_ishr hx hb dX11_times_32 ?_
      refine lv_iconst (v := 1) hx hb dX11_times_33 (by decide) ?_
      refine lv_iand hx hb dX11_times_34 ?_
      refine lv_iconst (v := 1) hx hb dX11_times_35 (by decide) ?_
      refine lv_icmp_ne (tgt := 45) hx hb dX11_times_36 (by decide) (fun c_195 => ?_) (fun c_195 => ?_)
      · replace c_195 : ¬ (((tb >>> ((nI j_184) &&& 31)) &&& 1) = 1) := c_195
        refine lv_iload_n hx hb dX11_times_45 rfl (lv_at hl_194 0 rfl) ?_
        refine lv_istore_n (lv' := [(2, .int ((2 * z_184) ^^^ 283)), (3, .int (nI j_184)), (0, .int ta), (1, .int tb)]) hx hb dX11_times_46 rfl hl_194 (by decide) rfl (fun ls_196 hl_196 => ?_)
        clear hl_194
        refine lv_iinc (v := (nI j_184 - 1)) (lv' := [(3, .int (nI j_184 - 1)), (2, .int ((2 * z_184) ^^^ 283)), (0, .int ta), (1, .int tb)]) hx hb dX11_times_47 hl_196 (k := 1) rfl (g_dm1 _) (by decide) rfl (fun ls_197 hl_197 => ?_)
        clear hl_196
        refine lv_goto (tgt := 5) hx hb dX11_times_50 (by decide) ?_
        exact ih_184 (((2 * z_184) ^^^ 283) : Int32) _ _ _ ((congrArg (itd (B_X11_times_5 tb ta) j_184) (show (B_X11_times_5 tb ta) j_184 z_184 = _ from ((if_neg c_187).trans ((if_neg c_195).trans rfl)))).symm.trans ((itd_s _ _ _).symm.trans hz_184)) ⟨lv_sub hl_197 [0, 1, 2, 3] rfl, (hP_184.sub [] rfl), (hD_184.sub [] (by decide) rfl), hS_184⟩
      · replace c_195 : ((tb >>> ((nI j_184) &&& 31)) &&& 1) = 1 := c_195
        refine lv_iload_n hx hb dX11_times_39 rfl (lv_at hl_194 0 rfl) ?_
        refine lv_iload_n hx hb dX11_times_40 rfl (lv_at hl_194 2 rfl) ?_
        refine lv_ixor hx hb dX11_times_41 ?_
        refine lv_goto (tgt := 46) hx hb dX11_times_42 (by decide) ?_
        refine lv_istore_n (lv' := [(2, .int (((2 * z_184) ^^^ 283) ^^^ ta)), (3, .int (nI j_184)), (0, .int ta), (1, .int tb)]) hx hb dX11_times_46 rfl hl_194 (by decide) rfl (fun ls_198 hl_198 => ?_)
        clear hl_194
        refine lv_iinc (v := (nI j_184 - 1)) (lv' := [(3, .int (nI j_184 - 1)), (2, .int (((2 * z_184) ^^^ 283) ^^^ ta)), (0, .int ta), (1, .int tb)]) hx hb dX11_times_47 hl_198 (k := 1) rfl (g_dm1 _) (by decide) rfl (fun ls_199 hl_199 => ?_)
        clear hl_198
        refine lv_goto (tgt := 5) hx hb dX11_times_50 (by decide) ?_
        exact ih_184 ((((2 * z_184) ^^^ 283) ^^^ ta) : Int32) _ _ _ ((congrArg (itd (B_X11_times_5 tb ta) j_184) (show (B_X11_times_5 tb ta) j_184 z_184 = _ from ((if_neg c_187).trans ((if_pos c_195).trans rfl)))).symm.trans ((itd_s _ _ _).symm.trans hz_184)) ⟨lv_sub hl_199 [0, 1, 2, 3] rfl, (hP_184.sub [] rfl), (hD_184.sub [] (by decide) rfl), hS_184⟩
  · intro z_200 H_200 locs_200 ls_200 hz_200 hI_200
    obtain ⟨hl_200, hP_200, hD_200, hS_200⟩ := hI_200
    replace hl_200 : lv_has ls_200 4 [(3, .int (-1)), (2, .int z_200), (0, .int ta), (1, .int tb)] := hl_200
    replace hP_200 : va_P E.1 vwCl [] H_200 := hP_200
    replace hD_200 : va_D A [] := hD_200
    clear hl_136 hP hD hS
    refine lv_iload_n hx hb dX11_times_5 rfl (lv_at hl_200 0 rfl) ?_
    refine lv_if_lt (tgt := 53) hx hb dX11_times_6 (by decide) (fun c_201 => ?_) (fun c_201 => absurd (by decide) c_201)
    refine lv_iload_n hx hb dX11_times_53 rfl (lv_at hl_200 1 rfl) ?_
    have hpost : (z_200 : Int32) = F_X11_times ta tb := (show F_X11_times ta tb = (z_200 : Int32) from (gLet_eq hz_200 rfl)).symm
    have hP9 := hP_200.sub (ws' := []) [] rfl
    have hD9 := hD_200.sub (ws' := []) [] (by decide) rfl
    exact W.iret (v := z_200) hx hb hr (fun t ht hW => ⟨⟨z_200, (), rfl, hpost, by rw [ht]; exact hP9, hD9⟩, hS_200.F ht⟩) hS_200.2.2 dX11_times_54
set_option maxHeartbeats 4000000 in
set_option maxRecDepth 100000 in
theorem k_X11_addRound (E : gE) (l : Launch) (o a_user a_owner a_tried a_id a_tape a_entries a_sizes a_key a_bytes a_out a_message a_digest a_words a_h a_v a_fillBytes a_sines a_roots a_box a_backBox a_roundKeys a_state a_other a_stream a_work a_padded a_ownKey : Nat) (rv : Nat) (Mthrown : Int32) (Musers : Nat) (Mowners : Nat) (Mtries : Nat) (Mids : Nat) (Mtaped : Nat) (Mtaken : Nat) (MisPlain : Int32) (Mpermissions : Int32) (MisOpen : Int32) (Mfilter : Int32) (Mcollected : Nat) (Mobject : Int32) (MisBack : Int32) (MoutSize : Nat) (Msaid : Nat) (MroundKeys : Nat → Int32) (Mrounds : Nat) (Mstate : Nat → Int32) (rr : Nat) (hrr : rr ≤ 14) : gMv E l yX11_addRound wsX11_addRound ({ frames := 0, cells := 0, slots := 0, locals := 0 }) 0 0 [.ref o, .int (nI rr)] [(o, .inr (12, [.int Mthrown, .int (nI rv), .ref a_user, .int (nI Musers), .ref a_owner, .int (nI Mowners), .ref a_tried, .int (nI Mtries), .ref a_id, .int (nI Mids), .ref a_tape, .int (nI Mtaped), .int (nI Mtaken), .int MisPlain, .int Mpermissions, .ref a_entries, .ref a_sizes, .ref a_key, .int MisOpen, .int Mfilter, .int (nI Mcollected), .ref a_bytes, .int Mobject, .int MisBack, .int (nI MoutSize), .ref a_out, .int (nI Msaid), .ref a_message, .ref a_digest, .ref a_words, .ref a_h, .ref a_v, .ref a_fillBytes, .ref a_sines, .ref a_roots, .ref a_box, .ref a_backBox, .ref a_roundKeys, .int (nI Mrounds), .ref a_state, .ref a_other, .ref a_stream, .ref a_work, .ref a_padded, .ref a_ownKey])), (a_roundKeys, .inl (E.2.1, 240, .inl MroundKeys)), (a_state, .inl (E.2.1, 16, .inl Mstate))] (fun (uu : Nat → Int32) => uu = F_X11_addRound MroundKeys Mstate rr) (fun (uu : Nat → Int32) => [(o, .inr (12, [.int Mthrown, .int (nI rv), .ref a_user, .int (nI Musers), .ref a_owner, .int (nI Mowners), .ref a_tried, .int (nI Mtries), .ref a_id, .int (nI Mids), .ref a_tape, .int (nI Mtaped), .int (nI Mtaken), .int MisPlain, .int Mpermissions, .ref a_entries, .ref a_sizes, .ref a_key, .int MisOpen, .int Mfilter, .int (nI Mcollected), .ref a_bytes, .int Mobject, .int MisBack, .int (nI MoutSize), .ref a_out, .int (nI Msaid), .ref a_message, .ref a_digest, .ref a_words, .ref a_h, .ref a_v, .ref a_fillBytes, .ref a_sines, .ref a_roots, .ref a_box, .ref a_backBox, .ref a_roundKeys, .int (nI Mrounds), .ref a_state, .ref a_other, .ref a_stream, .ref a_work, .ref a_padded, .ref a_ownKey])), (a_roundKeys, .inl (E.2.1, 240, .inl MroundKeys)), (a_state, .inl (E.2.1, 16, .inl uu))]) := by
  intro sz
  refine Met.ofW (cc := cX11_addRound) (maxL := 3) (ret := none) (by decide) rfl ?_
  intro p e s m args below meth c s₁ B hml hv
  obtain ⟨rfl, hsz, hP, hV, hD0⟩ := hv
  have hx := B.exec
  have hb := B.bytes
  have hr := B.returns
  have hts := atoms_spec (ws := wsX11_addRound) B.pre
  have hown : s.vm.findClass RX11 = some m.cls := findClass_of_methodNamed B.named
  have hlocks := B.notSynchronized
  subst hsz
  have hD := hD0.self (sz := s.heap.size)
  clear hD0
  generalize hAe : va_A [(o, .inr (12, [.int Mthrown, .int (nI rv), .ref a_user, .int (nI Musers), .ref a_owner, .int (nI Mowners), .ref a_tried, .int (nI Mtries), .ref a_id, .int (nI Mids), .ref a_tape, .int (nI Mtaped), .int (nI Mtaken), .int MisPlain, .int Mpermissions, .ref a_entries, .ref a_sizes, .ref a_key, .int MisOpen, .int Mfilter, .int (nI Mcollected), .ref a_bytes, .int Mobject, .int MisBack, .int (nI MoutSize), .ref a_out, .int (nI Msaid), .ref a_message, .ref a_digest, .ref a_words, .ref a_h, .ref a_v, .ref a_fillBytes, .ref a_sines, .ref a_roots, .ref a_box, .ref a_backBox, .ref a_roundKeys, .int (nI Mrounds), .ref a_state, .ref a_other, .ref a_stream, .ref a_work, .ref a_padded, .ref a_ownKey])), (a_roundKeys, .inl (E.2.1, 240, .inl MroundKeys)), (a_state, .inl (E.2.1, 16, .inl Mstate))] s.heap.size = A at hD hV ⊢
  have hA : ∀ q : Nat, s.heap.size ≤ q → A q := fun q h => by rw [← hAe]; exact Or.inr h
  have hS : va_S A s.heap s.heap [] := va_S.rf
  have hK := hV.1
  have hF : CallFix p m c cX11_addRound 3 s _ wsX11_addRound RX11 := ⟨hx, hb, hml, hown, hts⟩
  have hl := lv_entry [.ref o, .int (nI rr)] (n := 3) (Nat.le_of_ble_eq_true rfl)
  rw [lg_entry_eq]
  generalize (lg_sl [.ref o, .int (nI rr)] ++ List.replicate (3 - (lg_sl [.ref o, .int (nI rr)]).length) Slot.unset).toArray = ls at hl ⊢
  have hl : lv_has ls 3 [(0, .ref o), (1, .int (nI rr))] := hl
  have in_X11 : ∀ w ∈ wsX110, w ∈ wsX11_addRound := by decide +kernel
  have w_0 := hts (.fieldLink RX11 201 "CryptRowsModel" "state" "[I") (by decide +kernel)
  have w_1 := hts (.fieldLink RX11 198 "CryptRowsModel" "roundKeys" "[I") (by decide +kernel)
  refine lv_iconst (v := 0) hx hb dX11_addRound_0 (by decide) ?_
  refine lv_istore_n (lv' := [(2, .int 0), (0, .ref o), (1, .int (nI rr))]) hx hb dX11_addRound_1 rfl hl (by decide) rfl (fun ls_63 hl_63 => ?_)
  clear hl
  refine g_up (N := 16) (B_X11_addRound_2 MroundKeys rr) (Mstate : Nat → Int32) (Inv := fun i_0 z_85 H_0 locs_0 ls_0 => lv_has ls_0 3 [(2, .int (nI i_0)), (0, .ref o), (1, .int (nI rr))] ∧ va_P E.1 vwCl [(o, .inr (12, [.int Mthrown, .int (nI rv), .ref a_user, .int (nI Musers), .ref a_owner, .int (nI Mowners), .ref a_tried, .int (nI Mtries), .ref a_id, .int (nI Mids), .ref a_tape, .int (nI Mtaped), .int (nI Mtaken), .int MisPlain, .int Mpermissions, .ref a_entries, .ref a_sizes, .ref a_key, .int MisOpen, .int Mfilter, .int (nI Mcollected), .ref a_bytes, .int Mobject, .int MisBack, .int (nI MoutSize), .ref a_out, .int (nI Msaid), .ref a_message, .ref a_digest, .ref a_words, .ref a_h, .ref a_v, .ref a_fillBytes, .ref a_sines, .ref a_roots, .ref a_box, .ref a_backBox, .ref a_roundKeys, .int (nI Mrounds), .ref a_state, .ref a_other, .ref a_stream, .ref a_work, .ref a_padded, .ref a_ownKey])), (a_roundKeys, .inl (E.2.1, 240, .inl MroundKeys)), (a_state, .inl (E.2.1, 16, .inl z_85))] H_0 ∧ va_D A [(o, .inr (12, [.int Mthrown, .int (nI rv), .ref a_user, .int (nI Musers), .ref a_owner, .int (nI Mowners), .ref a_tried, .int (nI Mtries), .ref a_id, .int (nI Mids), .ref a_tape, .int (nI Mtaped), .int (nI Mtaken), .int MisPlain, .int Mpermissions, .ref a_entries, .ref a_sizes, .ref a_key, .int MisOpen, .int Mfilter, .int (nI Mcollected), .ref a_bytes, .int Mobject, .int MisBack, .int (nI MoutSize), .ref a_out, .int (nI Msaid), .ref a_message, .ref a_digest, .ref a_words, .ref a_h, .ref a_v, .ref a_fillBytes, .ref a_sines, .ref a_roots, .ref a_box, .ref a_backBox, .ref a_roundKeys, .int (nI Mrounds), .ref a_state, .ref a_other, .ref a_stream, .ref a_work, .ref a_padded, .ref a_ownKey])), (a_roundKeys, .inl (E.2.1, 240, .inl MroundKeys)), (a_state, .inl (E.2.1, 16, .inl z_85))] ∧ va_S A s.heap H_0 locs_0) (G := fun H_0 locs_0 ls_0 => W _ _ _ _ _ _ _ _ _ _ H_0 locs_0 _ _ _ (F0 _ 2 ls_0 [])) ?_ ?_ ⟨lv_sub hl_63 [0, 1, 2] rfl, hP, hD, hS⟩
  · intro j_86 i_86 z_86 H_86 locs_86 ls_86 hij_86 hz_86 hI_86 ih_86
    obtain ⟨hl_86, hP_86, hD_86, hS_86⟩ := hI_86
    replace hl_86 : lv_has ls_86 3 [(2, .int (nI i_86)), (0, .ref o), (1, .int (nI rr))] := hl_86
    replace hP_86 : va_P E.1 vwCl [(o, .inr (12, [.int Mthrown, .int (nI rv), .ref a_user, .int (nI Musers), .ref a_owner, .int (nI Mowners), .ref a_tried, .int (nI Mtries), .ref a_id, .int (nI Mids), .ref a_tape, .int (nI Mtaped), .int (nI Mtaken), .int MisPlain, .int Mpermissions, .ref a_entries, .ref a_sizes, .ref a_key, .int MisOpen, .int Mfilter, .int (nI Mcollected), .ref a_bytes, .int Mobject, .int MisBack, .int (nI MoutSize), .ref a_out, .int (nI Msaid), .ref a_message, .ref a_digest, .ref a_words, .ref a_h, .ref a_v, .ref a_fillBytes, .ref a_sines, .ref a_roots, .ref a_box, .ref a_backBox, .ref a_roundKeys, .int (nI Mrounds), .ref a_state, .ref a_other, .ref a_stream, .ref a_work, .ref a_padded, .ref a_ownKey])), (a_roundKeys, .inl (E.2.1, 240, .inl MroundKeys)), (a_state, .inl (E.2.1, 16, .inl z_86))] H_86 := hP_86
    replace hD_86 : va_D A [(o, .inr (12, [.int Mthrown, .int (nI rv), .ref a_user, .int (nI Musers), .ref a_owner, .int (nI Mowners), .ref a_tried, .int (nI Mtries), .ref a_id, .int (nI Mids), .ref a_tape, .int (nI Mtaped), .int (nI Mtaken), .int MisPlain, .int Mpermissions, .ref a_entries, .ref a_sizes, .ref a_key, .int MisOpen, .int Mfilter, .int (nI Mcollected), .ref a_bytes, .int Mobject, .int MisBack, .int (nI MoutSize), .ref a_out, .int (nI Msaid), .ref a_message, .ref a_digest, .ref a_words, .ref a_h, .ref a_v, .ref a_fillBytes, .ref a_sines, .ref a_roots, .ref a_box, .ref a_backBox, .ref a_roundKeys, .int (nI Mrounds), .ref a_state, .ref a_other, .ref a_stream, .ref a_work, .ref a_padded, .ref a_ownKey])), (a_roundKeys, .inl (E.2.1, 240, .inl MroundKeys)), (a_state, .inl (E.2.1, 16, .inl z_86))] := hD_86
    clear hl_63 hP hD hS
    refine lv_iload_n hx hb dX11_addRound_2 rfl (lv_at hl_86 0 rfl) ?_
    refine lv_bipush (v := 16) hx hb dX11_addRound_3 (by decide) ?_
    refine lv_icmp_ge (tgt := 38) hx hb dX11_addRound_5 (by decide) (fun c_87 => (by have c_87 := (nI_leI (a := 16) (b := i_86) (by omega) (by omega)).mp c_87; exfalso; omega)) (fun c_87 => ?_)
    replace c_87 : ¬ 16 ≤ i_86 := (not_congr (nI_leI (a := 16) (b := i_86) (by omega) (by omega))).mp c_87
    refine lv_aload_n hx hb dX11_addRound_8 rfl (lv_at hl_86 1 rfl) ?_
    refine va_get (D := E.1) (ci := 12) (v := .ref a_state) (C := RX11) (T := TX11) (N := 45) hx hb hts in_X11 hown hK hP_86 0 rfl rfl 39 (by decide) w_0 (fun _ h9 => h9) rfl dX11_addRound_9 ?_
    refine lv_iload_n hx hb dX11_addRound_12 rfl (lv_at hl_86 0 rfl) ?_
    refine lv_aload_n hx hb dX11_addRound_13 rfl (lv_at hl_86 1 rfl) ?_
    refine va_get (D := E.1) (ci := 12) (v := .ref a_state) (C := RX11) (T := TX11) (N := 45) hx hb hts in_X11 hown hK hP_86 0 rfl rfl 39 (by decide) w_0 (fun _ h9 => h9) rfl dX11_addRound_14 ?_
    refine lv_iload_n hx hb dX11_addRound_17 rfl (lv_at hl_86 0 rfl) ?_
    refine g_iald (e0 := i_86) hx hb hK hP_86 2 0 rfl rfl (by omega) (by omega) dX11_addRound_18 ?_
    refine lv_aload_n hx hb dX11_addRound_19 rfl (lv_at hl_86 1 rfl) ?_
    refine va_get (D := E.1) (ci := 12) (v := .ref a_roundKeys) (C := RX11) (T := TX11) (N := 45) hx hb hts in_X11 hown hK hP_86 0 rfl rfl 37 (by decide) w_1 (fun _ h9 => h9) rfl dX11_addRound_20 ?_
    refine lv_bipush (v := 16) hx hb dX11_addRound_23 (by decide) ?_
    refine lv_iload_n hx hb dX11_addRound_25 rfl (lv_at hl_86 2 rfl) ?_
    refine lv_imul hx hb dX11_addRound_26 ?_
    refine lv_topi (fun y_88 ey_88 => ?_)
    obtain rfl : y_88 = (nI (16 * rr)) := ey_88.trans (pk_mul _ _)
    refine lv_iload_n hx hb dX11_addRound_27 rfl (lv_at hl_86 0 rfl) ?_
    refine lv_iadd hx hb dX11_addRound_28 ?_
    refine lv_topi (fun y_89 ey_89 => ?_)
    obtain rfl : y_89 = (nI ((16 * rr) + i_86)) := ey_89.trans (nI_add _ _)
    refine g_iald (e0 := (16 * rr) + i_86) hx hb hK hP_86 1 0 rfl rfl (by omega) (by omega) dX11_addRound_29 ?_
    refine lv_ixor hx hb dX11_addRound_30 ?_
    refine g_iast (e0 := i_86) hx hb hK hP_86 hD_86 hS_86 2 0 rfl rfl (by omega) (by omega) dX11_addRound_31 (fun H_90 locs_90 hP_90 hD_90 hS_90 => ?_)
    replace hP_90 : va_P E.1 vwCl [(o, .inr (12, [.int Mthrown, .int (nI rv), .ref a_user, .int (nI Musers), .ref a_owner, .int (nI Mowners), .ref a_tried, .int (nI Mtries), .ref a_id, .int (nI Mids), .ref a_tape, .int (nI Mtaped), .int (nI Mtaken), .int MisPlain, .int Mpermissions, .ref a_entries, .ref a_sizes, .ref a_key, .int MisOpen, .int Mfilter, .int (nI Mcollected), .ref a_bytes, .int Mobject, .int MisBack, .int (nI MoutSize), .ref a_out, .int (nI Msaid), .ref a_message, .ref a_digest, .ref a_words, .ref a_h, .ref a_v, .ref a_fillBytes, .ref a_sines, .ref a_roots, .ref a_box, .ref a_backBox, .ref a_roundKeys, .int (nI Mrounds), .ref a_state, .ref a_other, .ref a_stream, .ref a_work, .ref a_padded, .ref a_ownKey])), (a_roundKeys, .inl (E.2.1, 240, .inl MroundKeys)), (a_state, .inl (E.2.1, 16, .inl (upd z_86 i_86 ((z_86 i_86) ^^^ (MroundKeys ((16 * rr) + i_86))))))] H_90 := hP_90
    replace hD_90 : va_D A [(o, .inr (12, [.int Mthrown, .int (nI rv), .ref a_user, .int (nI Musers), .ref a_owner, .int (nI Mowners), .ref a_tried, .int (nI Mtries), .ref a_id, .int (nI Mids), .ref a_tape, .int (nI Mtaped), .int (nI Mtaken), .int MisPlain, .int Mpermissions, .ref a_entries, .ref a_sizes, .ref a_key, .int MisOpen, .int Mfilter, .int (nI Mcollected), .ref a_bytes, .int Mobject, .int MisBack, .int (nI MoutSize), .ref a_out, .int (nI Msaid), .ref a_message, .ref a_digest, .ref a_words, .ref a_h, .ref a_v, .ref a_fillBytes, .ref a_sines, .ref a_roots, .ref a_box, .ref a_backBox, .ref a_roundKeys, .int (nI Mrounds), .ref a_state, .ref a_other, .ref a_stream, .ref a_work, .ref a_padded, .ref a_ownKey])), (a_roundKeys, .inl (E.2.1, 240, .inl MroundKeys)), (a_state, .inl (E.2.1, 16, .inl (upd z_86 i_86 ((z_86 i_86) ^^^ (MroundKeys ((16 * rr) + i_86))))))] := hD_90
    clear hP_86 hD_86 hS_86
    refine lv_iinc (v := (nI (i_86 + 1))) (lv' := [(2, .int (nI (i_86 + 1))), (0, .ref o), (1, .int (nI rr))]) hx hb dX11_addRound_32 hl_86 (k := 0) rfl (nI_add _ 1) (by decide) rfl (fun ls_91 hl_91 => ?_)
    clear hl_86
    refine lv_goto (tgt := 2) hx hb dX11_addRound_35 (by decide) ?_
    exact ih_86 ((upd z_86 i_86 ((z_86 i_86) ^^^ (MroundKeys ((16 * rr) + i_86)))) : Nat → Int32) _ _ _ (((show (B_X11_addRound_2 MroundKeys rr) i_86 z_86 = _ from rfl).symm.trans (congrArg ((B_X11_addRound_2 MroundKeys rr) i_86) hz_86)).trans (itr_s _ _ _).symm) ⟨lv_sub hl_91 [0, 1, 2] rfl, (hP_90.sub [0, 1, 2] rfl), (hD_90.sub [0, 1, 2] (by decide) rfl), hS_90⟩
  · intro z_92 H_92 locs_92 ls_92 hz_92 hI_92
    obtain ⟨hl_92, hP_92, hD_92, hS_92⟩ := hI_92
    replace hl_92 : lv_has ls_92 3 [(2, .int (nI 16)), (0, .ref o), (1, .int (nI rr))] := hl_92
    replace hP_92 : va_P E.1 vwCl [(o, .inr (12, [.int Mthrown, .int (nI rv), .ref a_user, .int (nI Musers), .ref a_owner, .int (nI Mowners), .ref a_tried, .int (nI Mtries), .ref a_id, .int (nI Mids), .ref a_tape, .int (nI Mtaped), .int (nI Mtaken), .int MisPlain, .int Mpermissions, .ref a_entries, .ref a_sizes, .ref a_key, .int MisOpen, .int Mfilter, .int (nI Mcollected), .ref a_bytes, .int Mobject, .int MisBack, .int (nI MoutSize), .ref a_out, .int (nI Msaid), .ref a_message, .ref a_digest, .ref a_words, .ref a_h, .ref a_v, .ref a_fillBytes, .ref a_sines, .ref a_roots, .ref a_box, .ref a_backBox, .ref a_roundKeys, .int (nI Mrounds), .ref a_state, .ref a_other, .ref a_stream, .ref a_work, .ref a_padded, .ref a_ownKey])), (a_roundKeys, .inl (E.2.1, 240, .inl MroundKeys)), (a_state, .inl (E.2.1, 16, .inl z_92))] H_92 := hP_92
    replace hD_92 : va_D A [(o, .inr (12, [.int Mthrown, .int (nI rv), .ref a_user, .int (nI Musers), .ref a_owner, .int (nI Mowners), .ref a_tried, .int (nI Mtries), .ref a_id, .int (nI Mids), .ref a_tape, .int (nI Mtaped), .int (nI Mtaken), .int MisPlain, .int Mpermissions, .ref a_entries, .ref a_sizes, .ref a_key, .int MisOpen, .int Mfilter, .int (nI Mcollected), .ref a_bytes, .int Mobject, .int MisBack, .int (nI MoutSize), .ref a_out, .int (nI Msaid), .ref a_message, .ref a_digest, .ref a_words, .ref a_h, .ref a_v, .ref a_fillBytes, .ref a_sines, .ref a_roots, .ref a_box, .ref a_backBox, .ref a_roundKeys, .int (nI Mrounds), .ref a_state, .ref a_other, .ref a_stream, .ref a_work, .ref a_padded, .ref a_ownKey])), (a_roundKeys, .inl (E.2.1, 240, .inl MroundKeys)), (a_state, .inl (E.2.1, 16, .inl z_92))] := hD_92
    clear hl_63 hP hD hS
    refine lv_iload_n hx hb dX11_addRound_2 rfl (lv_at hl_92 0 rfl) ?_
    refine lv_bipush (v := 16) hx hb dX11_addRound_3 (by decide) ?_
    refine lv_icmp_ge (tgt := 38) hx hb dX11_addRound_5 (by decide) (fun c_93 => ?_) (fun c_93 => (by have c_93 := (not_congr (nI_leI (a := 16) (b := 16) (by omega) (by omega))).mp c_93; exfalso; omega))
    replace c_93 : 16 ≤ 16 := (nI_leI (a := 16) (b := 16) (by omega) (by omega)).mp c_93
    have hpost : (z_92 : Nat → Int32) = F_X11_addRound MroundKeys Mstate rr := (show F_X11_addRound MroundKeys Mstate rr = (z_92 : Nat → Int32) from (gLet_eq hz_92 rfl)).symm
    have hP9 := hP_92.sub (ws' := [(o, .inr (12, [.int Mthrown, .int (nI rv), .ref a_user, .int (nI Musers), .ref a_owner, .int (nI Mowners), .ref a_tried, .int (nI Mtries), .ref a_id, .int (nI Mids), .ref a_tape, .int (nI Mtaped), .int (nI Mtaken), .int MisPlain, .int Mpermissions, .ref a_entries, .ref a_sizes, .ref a_key, .int MisOpen, .int Mfilter, .int (nI Mcollected), .ref a_bytes, .int Mobject, .int MisBack, .int (nI MoutSize), .ref a_out, .int (nI Msaid), .ref a_message, .ref a_digest, .ref a_words, .ref a_h, .ref a_v, .ref a_fillBytes, .ref a_sines, .ref a_roots, .ref a_box, .ref a_backBox, .ref a_roundKeys, .int (nI Mrounds), .ref a_state, .ref a_other, .ref a_stream, .ref a_work, .ref a_padded, .ref a_ownKey])), (a_roundKeys, .inl (E.2.1, 240, .inl MroundKeys)), (a_state, .inl (E.2.1, 16, .inl z_92))]) [0, 1, 2] rfl
    have hD9 := hD_92.sub (ws' := [(o, .inr (12, [.int Mthrown, .int (nI rv), .ref a_user, .int (nI Musers), .ref a_owner, .int (nI Mowners), .ref a_tried, .int (nI Mtries), .ref a_id, .int (nI Mids), .ref a_tape, .int (nI Mtaped), .int (nI Mtaken), .int MisPlain, .int Mpermissions, .ref a_entries, .ref a_sizes, .ref a_key, .int MisOpen, .int Mfilter, .int (nI Mcollected), .ref a_bytes, .int Mobject, .int MisBack, .int (nI MoutSize), .ref a_out, .int (nI Msaid), .ref a_message, .ref a_digest, .ref a_words, .ref a_h, .ref a_v, .ref a_fillBytes, .ref a_sines, .ref a_roots, .ref a_box, .ref a_backBox, .ref a_roundKeys, .int (nI Mrounds), .ref a_state, .ref a_other, .ref a_stream, .ref a_work, .ref a_padded, .ref a_ownKey])), (a_roundKeys, .inl (E.2.1, 240, .inl MroundKeys)), (a_state, .inl (E.2.1, 16, .inl z_92))]) [0, 1, 2] (by decide) rfl
    exact W.vret hx hb hr (fun t ht hW => ⟨⟨z_92, rfl, hpost, by rw [ht]; exact hP9, hD9⟩, hS_92.F ht⟩) hS_92.2.2 dX11_addRound_38
set_option maxHeartbeats 4000000 in
set_option maxRecDepth 100000 in
theorem k_X11_mix (E : gE) (l : Launch) (o a_user a_owner a_tried a_id a_tape a_entries a_sizes a_key a_bytes a_out a_message a_digest a_words a_h a_v a_fillBytes a_sines a_roots a_box a_backBox a_roundKeys a_state a_other a_stream a_work a_padded a_ownKey : Nat) (rv : Nat) (Mthrown : Int32) (Musers : Nat) (Mowners : Nat) (Mtries : Nat) (Mids : Nat) (Mtaped : Nat) (Mtaken : Nat) (MisPlain : Int32) (Mpermissions : Int32) (MisOpen : Int32) (Mfilter : Int32) (Mcollected : Nat) (Mobject : Int32) (MisBack : Int32) (MoutSize : Nat) (Msaid : Nat) (Mrounds : Nat) (Mstate : Nat → Int32) (Mother : Nat → Int32) (ma : Int32) (mb : Int32) (mc_ : Int32) (md : Int32) : gMv E l yX11_mix wsX11_mix ({ frames := 1, cells := 0, slots := 0, locals := 23 }) 0 0 [.ref o, .int ma, .int mb, .int mc_, .int md] [(o, .inr (12, [.int Mthrown, .int (nI rv), .ref a_user, .int (nI Musers), .ref a_owner, .int (nI Mowners), .ref a_tried, .int (nI Mtries), .ref a_id, .int (nI Mids), .ref a_tape, .int (nI Mtaped), .int (nI Mtaken), .int MisPlain, .int Mpermissions, .ref a_entries, .ref a_sizes, .ref a_key, .int MisOpen, .int Mfilter, .int (nI Mcollected), .ref a_bytes, .int Mobject, .int MisBack, .int (nI MoutSize), .ref a_out, .int (nI Msaid), .ref a_message, .ref a_digest, .ref a_words, .ref a_h, .ref a_v, .ref a_fillBytes, .ref a_sines, .ref a_roots, .ref a_box, .ref a_backBox, .ref a_roundKeys, .int (nI Mrounds), .ref a_state, .ref a_other, .ref a_stream, .ref a_work, .ref a_padded, .ref a_ownKey])), (a_state, .inl (E.2.1, 16, .inl Mstate)), (a_other, .inl (E.2.1, 16, .inl Mother))] (fun (uu : (Nat → Int32) × (Nat → Int32)) => uu = F_X11_mix Mstate Mother ma mb mc_ md) (fun (uu : (Nat → Int32) × (Nat → Int32)) => [(o, .inr (12, [.int Mthrown, .int (nI rv), .ref a_user, .int (nI Musers), .ref a_owner, .int (nI Mowners), .ref a_tried, .int (nI Mtries), .ref a_id, .int (nI Mids), .ref a_tape, .int (nI Mtaped), .int (nI Mtaken), .int MisPlain, .int Mpermissions, .ref a_entries, .ref a_sizes, .ref a_key, .int MisOpen, .int Mfilter, .int (nI Mcollected), .ref a_bytes, .int Mobject, .int MisBack, .int (nI MoutSize), .ref a_out, .int (nI Msaid), .ref a_message, .ref a_digest, .ref a_words, .ref a_h, .ref a_v, .ref a_fillBytes, .ref a_sines, .ref a_roots, .ref a_box, .ref a_backBox, .ref a_roundKeys, .int (nI Mrounds), .ref a_state, .ref a_other, .ref a_stream, .ref a_work, .ref a_padded, .ref a_ownKey])), (a_state, .inl (E.2.1, 16, .inl uu.1)), (a_other, .inl (E.2.1, 16, .inl uu.2))]) := by
  intro sz
  refine Met.ofW (cc := cX11_mix) (maxL := 7) (ret := none) (by decide) rfl ?_
  intro p e s m args below meth c s₁ B hml hv
  obtain ⟨rfl, hsz, hP, hV, hD0⟩ := hv
  have hx := B.exec
  have hb := B.bytes
  have hr := B.returns
  have hts := atoms_spec (ws := wsX11_mix) B.pre
  have hown : s.vm.findClass RX11 = some m.cls := findClass_of_methodNamed B.named
  have hlocks := B.notSynchronized
  subst hsz
  have hD := hD0.self (sz := s.heap.size)
  clear hD0
  generalize hAe : va_A [(o, .inr (12, [.int Mthrown, .int (nI rv), .ref a_user, .int (nI Musers), .ref a_owner, .int (nI Mowners), .ref a_tried, .int (nI Mtries), .ref a_id, .int (nI Mids), .ref a_tape, .int (nI Mtaped), .int (nI Mtaken), .int MisPlain, .int Mpermissions, .ref a_entries, .ref a_sizes, .ref a_key, .int MisOpen, .int Mfilter, .int (nI Mcollected), .ref a_bytes, .int Mobject, .int MisBack, .int (nI MoutSize), .ref a_out, .int (nI Msaid), .ref a_message, .ref a_digest, .ref a_words, .ref a_h, .ref a_v, .ref a_fillBytes, .ref a_sines, .ref a_roots, .ref a_box, .ref a_backBox, .ref a_roundKeys, .int (nI Mrounds), .ref a_state, .ref a_other, .ref a_stream, .ref a_work, .ref a_padded, .ref a_ownKey])), (a_state, .inl (E.2.1, 16, .inl Mstate)), (a_other, .inl (E.2.1, 16, .inl Mother))] s.heap.size = A at hD hV ⊢
  have hA : ∀ q : Nat, s.heap.size ≤ q → A q := fun q h => by rw [← hAe]; exact Or.inr h
  have hS : va_S A s.heap s.heap [] := va_S.rf
  have hK := hV.1
  have hF : CallFix p m c cX11_mix 7 s _ wsX11_mix RX11 := ⟨hx, hb, hml, hown, hts⟩
  have hl := lv_entry [.ref o, .int ma, .int mb, .int mc_, .int md] (n := 7) (Nat.le_of_ble_eq_true rfl)
  rw [lg_entry_eq]
  generalize (lg_sl [.ref o, .int ma, .int mb, .int mc_, .int md] ++ List.replicate (7 - (lg_sl [.ref o, .int ma, .int mb, .int mc_, .int md]).length) Slot.unset).toArray = ls at hl ⊢
  have hl : lv_has ls 7 [(0, .ref o), (1, .int ma), (2, .int mb), (3, .int mc_), (4, .int md)] := hl
  have in_X11 : ∀ w ∈ wsX110, w ∈ wsX11_mix := by decide +kernel
  have w_0 := hts (.fieldLink RX11 204 "CryptRowsModel" "other" "[I") (by decide +kernel)
  have w_1 := hts (.fieldLink RX11 201 "CryptRowsModel" "state" "[I") (by decide +kernel)
  refine lv_iconst (v := 0) hx hb dX11_mix_0 (by decide) ?_
  refine lv_istore (lv' := [(5, .int 0), (0, .ref o), (1, .int ma), (2, .int mb), (3, .int mc_), (4, .int md)]) hx hb dX11_mix_1 hl (by decide) rfl (fun ls_253 hl_253 => ?_)
  clear hl
  refine g_up (N := 16) (B_X11_mix_3 ma Mstate mb mc_ md) (Mother : Nat → Int32) (Inv := fun i_0 z_329 H_0 locs_0 ls_0 => lv_has ls_0 7 [(5, .int (nI i_0)), (0, .ref o), (1, .int ma), (2, .int mb), (3, .int mc_), (4, .int md)] ∧ va_P E.1 vwCl [(o, .inr (12, [.int Mthrown, .int (nI rv), .ref a_user, .int (nI Musers), .ref a_owner, .int (nI Mowners), .ref a_tried, .int (nI Mtries), .ref a_id, .int (nI Mids), .ref a_tape, .int (nI Mtaped), .int (nI Mtaken), .int MisPlain, .int Mpermissions, .ref a_entries, .ref a_sizes, .ref a_key, .int MisOpen, .int Mfilter, .int (nI Mcollected), .ref a_bytes, .int Mobject, .int MisBack, .int (nI MoutSize), .ref a_out, .int (nI Msaid), .ref a_message, .ref a_digest, .ref a_words, .ref a_h, .ref a_v, .ref a_fillBytes, .ref a_sines, .ref a_roots, .ref a_box, .ref a_backBox, .ref a_roundKeys, .int (nI Mrounds), .ref a_state, .ref a_other, .ref a_stream, .ref a_work, .ref a_padded, .ref a_ownKey])), (a_state, .inl (E.2.1, 16, .inl Mstate)), (a_other, .inl (E.2.1, 16, .inl z_329))] H_0 ∧ va_D A [(o, .inr (12, [.int Mthrown, .int (nI rv), .ref a_user, .int (nI Musers), .ref a_owner, .int (nI Mowners), .ref a_tried, .int (nI Mtries), .ref a_id, .int (nI Mids), .ref a_tape, .int (nI Mtaped), .int (nI Mtaken), .int MisPlain, .int Mpermissions, .ref a_entries, .ref a_sizes, .ref a_key, .int MisOpen, .int Mfilter, .int (nI Mcollected), .ref a_bytes, .int Mobject, .int MisBack, .int (nI MoutSize), .ref a_out, .int (nI Msaid), .ref a_message, .ref a_digest, .ref a_words, .ref a_h, .ref a_v, .ref a_fillBytes, .ref a_sines, .ref a_roots, .ref a_box, .ref a_backBox, .ref a_roundKeys, .int (nI Mrounds), .ref a_state, .ref a_other, .ref a_stream, .ref a_work, .ref a_padded, .ref a_ownKey])), (a_state, .inl (E.2.1, 16, .inl Mstate)), (a_other, .inl (E.2.1, 16, .inl z_329))] ∧ va_S A s.heap H_0 locs_0) (G := fun H_0 locs_0 ls_0 => W _ _ _ _ _ _ _ _ _ _ H_0 locs_0 _ _ _ (F0 _ 3 ls_0 [])) ?_ ?_ ⟨lv_sub hl_253 [0, 1, 2, 3, 4, 5] rfl, hP, hD, hS⟩
  · intro j_330 i_330 z_330 H_330 locs_330 ls_330 hij_330 hz_330 hI_330 ih_330
    obtain ⟨hl_330, hP_330, hD_330, hS_330⟩ := hI_330
    replace hl_330 : lv_has ls_330 7 [(5, .int (nI i_330)), (0, .ref o), (1, .int ma), (2, .int mb), (3, .int mc_), (4, .int md)] := hl_330
    replace hP_330 : va_P E.1 vwCl [(o, .inr (12, [.int Mthrown, .int (nI rv), .ref a_user, .int (nI Musers), .ref a_owner, .int (nI Mowners), .ref a_tried, .int (nI Mtries), .ref a_id, .int (nI Mids), .ref a_tape, .int (nI Mtaped), .int (nI Mtaken), .int MisPlain, .int Mpermissions, .ref a_entries, .ref a_sizes, .ref a_key, .int MisOpen, .int Mfilter, .int (nI Mcollected), .ref a_bytes, .int Mobject, .int MisBack, .int (nI MoutSize), .ref a_out, .int (nI Msaid), .ref a_message, .ref a_digest, .ref a_words, .ref a_h, .ref a_v, .ref a_fillBytes, .ref a_sines, .ref a_roots, .ref a_box, .ref a_backBox, .ref a_roundKeys, .int (nI Mrounds), .ref a_state, .ref a_other, .ref a_stream, .ref a_work, .ref a_padded, .ref a_ownKey])), (a_state, .inl (E.2.1, 16, .inl Mstate)), (a_other, .inl (E.2.1, 16, .inl z_330))] H_330 := hP_330
    replace hD_330 : va_D A [(o, .inr (12, [.int Mthrown, .int (nI rv), .ref a_user, .int (nI Musers), .ref a_owner, .int (nI Mowners), .ref a_tried, .int (nI Mtries), .ref a_id, .int (nI Mids), .ref a_tape, .int (nI Mtaped), .int (nI Mtaken), .int MisPlain, .int Mpermissions, .ref a_entries, .ref a_sizes, .ref a_key, .int MisOpen, .int Mfilter, .int (nI Mcollected), .ref a_bytes, .int Mobject, .int MisBack, .int (nI MoutSize), .ref a_out, .int (nI Msaid), .ref a_message, .ref a_digest, .ref a_words, .ref a_h, .ref a_v, .ref a_fillBytes, .ref a_sines, .ref a_roots, .ref a_box, .ref a_backBox, .ref a_roundKeys, .int (nI Mrounds), .ref a_state, .ref a_other, .ref a_stream, .ref a_work, .ref a_padded, .ref a_ownKey])), (a_state, .inl (E.2.1, 16, .inl Mstate)), (a_other, .inl (E.2.1, 16, .inl z_330))] := hD_330
    clear hl_253 hP hD hS
    refine lv_iload hx hb dX11_mix_3 (lv_at hl_330 0 rfl) ?_
    refine lv_bipush (v := 16) hx hb dX11_mix_5 (by decide) ?_
    refine lv_icmp_ge (tgt := 101) hx hb dX11_mix_7 (by decide) (fun c_331 => (by have c_331 := (nI_leI (a := 16) (b := i_330) (by omega) (by omega)).mp c_331; exfalso; omega)) (fun c_331 => ?_)
    replace c_331 : ¬ 16 ≤ i_330 := (not_congr (nI_leI (a := 16) (b := i_330) (by omega) (by omega))).mp c_331
    refine lv_iload hx hb dX11_mix_10 (lv_at hl_330 0 rfl) ?_
    refine lv_iload hx hb dX11_mix_12 (lv_at hl_330 0 rfl) ?_
    refine lv_iconst (v := 4) hx hb dX11_mix_14 (by decide) ?_
    refine lv_irem hx hb dX11_mix_15 (by decide) ?_
    refine lv_topi (fun y_332 ey_332 => ?_)
    obtain rfl : y_332 = (nI (i_330 % 4)) := ey_332.trans (pk_rem (a := i_330) (d := 4) (by omega) (by omega) (by omega))
    refine lv_isub hx hb dX11_mix_16 ?_
    refine lv_topi (fun y_333 ey_333 => ?_)
    obtain rfl : y_333 = (nI (i_330 - (i_330 % 4))) := ey_333.trans (pk_sub (a := i_330) (b := i_330 % 4) (by omega))
    refine lv_istore (lv' := [(6, .int (nI (i_330 - (i_330 % 4)))), (5, .int (nI i_330)), (0, .ref o), (1, .int ma), (2, .int mb), (3, .int mc_), (4, .int md)]) hx hb dX11_mix_17 hl_330 (by decide) rfl (fun ls_334 hl_334 => ?_)
    clear hl_330
    refine lv_aload_n hx hb dX11_mix_19 rfl (lv_at hl_334 2 rfl) ?_
    refine va_get (D := E.1) (ci := 12) (v := .ref a_other) (C := RX11) (T := TX11) (N := 45) hx hb hts in_X11 hown hK hP_330 0 rfl rfl 40 (by decide) w_0 (fun _ h9 => h9) rfl dX11_mix_20 ?_
    refine lv_iload hx hb dX11_mix_23 (lv_at hl_334 1 rfl) ?_
    refine lv_iload_n hx hb dX11_mix_25 rfl (lv_at hl_334 3 rfl) ?_
    refine lv_aload_n hx hb dX11_mix_26 rfl (lv_at hl_334 2 rfl) ?_
    refine va_get (D := E.1) (ci := 12) (v := .ref a_state) (C := RX11) (T := TX11) (N := 45) hx hb hts in_X11 hown hK hP_330 0 rfl rfl 39 (by decide) w_1 (fun _ h9 => h9) rfl dX11_mix_27 ?_
    refine lv_iload hx hb dX11_mix_30 (lv_at hl_334 1 rfl) ?_
    refine g_iald (e0 := i_330) hx hb hK hP_330 1 0 rfl rfl (by omega) (by omega) dX11_mix_32 ?_
    refine gSi hF hl_334 hV hP_330 hD_330 hS_330 hA [] [0, 1, 2] (wc := []) (wr := [(o, .inr (12, [.int Mthrown, .int (nI rv), .ref a_user, .int (nI Musers), .ref a_owner, .int (nI Mowners), .ref a_tried, .int (nI Mtries), .ref a_id, .int (nI Mids), .ref a_tape, .int (nI Mtaped), .int (nI Mtaken), .int MisPlain, .int Mpermissions, .ref a_entries, .ref a_sizes, .ref a_key, .int MisOpen, .int Mfilter, .int (nI Mcollected), .ref a_bytes, .int Mobject, .int MisBack, .int (nI MoutSize), .ref a_out, .int (nI Msaid), .ref a_message, .ref a_digest, .ref a_words, .ref a_h, .ref a_v, .ref a_fillBytes, .ref a_sines, .ref a_roots, .ref a_box, .ref a_backBox, .ref a_roundKeys, .int (nI Mrounds), .ref a_state, .ref a_other, .ref a_stream, .ref a_work, .ref a_padded, .ref a_ownKey])), (a_state, .inl (E.2.1, 16, .inl Mstate)), (a_other, .inl (E.2.1, 16, .inl z_330))]) rfl rfl rfl (by decide) (k_X11_times E l ma (Mstate i_330)) (va_cwS 2 hts gX11_mix_X11_times rfl rfl rfl (by decide +kernel) ⟨Nat.le_of_ble_eq_true rfl, Nat.le_of_ble_eq_true rfl⟩) rfl rfl (Nat.le_of_ble_eq_true rfl) dX11_mix_33 ⟨Nat.le_of_ble_eq_true rfl, Nat.le_of_ble_eq_true rfl⟩ (fun r_335 _ H_336 locs_336 hu_335 hP_336 hD_336 hS_336 => ?_)
    have er_335 : r_335 = F_X11_times ma (Mstate i_330) := hu_335
    clear hu_335
    replace hP_336 : va_P E.1 vwCl [(o, .inr (12, [.int Mthrown, .int (nI rv), .ref a_user, .int (nI Musers), .ref a_owner, .int (nI Mowners), .ref a_tried, .int (nI Mtries), .ref a_id, .int (nI Mids), .ref a_tape, .int (nI Mtaped), .int (nI Mtaken), .int MisPlain, .int Mpermissions, .ref a_entries, .ref a_sizes, .ref a_key, .int MisOpen, .int Mfilter, .int (nI Mcollected), .ref a_bytes, .int Mobject, .int MisBack, .int (nI MoutSize), .ref a_out, .int (nI Msaid), .ref a_message, .ref a_digest, .ref a_words, .ref a_h, .ref a_v, .ref a_fillBytes, .ref a_sines, .ref a_roots, .ref a_box, .ref a_backBox, .ref a_roundKeys, .int (nI Mrounds), .ref a_state, .ref a_other, .ref a_stream, .ref a_work, .ref a_padded, .ref a_ownKey])), (a_state, .inl (E.2.1, 16, .inl Mstate)), (a_other, .inl (E.2.1, 16, .inl z_330))] H_336 := hP_336
    replace hD_336 : va_D A [(o, .inr (12, [.int Mthrown, .int (nI rv), .ref a_user, .int (nI Musers), .ref a_owner, .int (nI Mowners), .ref a_tried, .int (nI Mtries), .ref a_id, .int (nI Mids), .ref a_tape, .int (nI Mtaped), .int (nI Mtaken), .int MisPlain, .int Mpermissions, .ref a_entries, .ref a_sizes, .ref a_key, .int MisOpen, .int Mfilter, .int (nI Mcollected), .ref a_bytes, .int Mobject, .int MisBack, .int (nI MoutSize), .ref a_out, .int (nI Msaid), .ref a_message, .ref a_digest, .ref a_words, .ref a_h, .ref a_v, .ref a_fillBytes, .ref a_sines, .ref a_roots, .ref a_box, .ref a_backBox, .ref a_roundKeys, .int (nI Mrounds), .ref a_state, .ref a_other, .ref a_stream, .ref a_work, .ref a_padded, .ref a_ownKey])), (a_state, .inl (E.2.1, 16, .inl Mstate)), (a_other, .inl (E.2.1, 16, .inl z_330))] := hD_336
    clear hP_330 hD_330 hS_330
    refine lv_iload_n hx hb dX11_mix_36 rfl (lv_at hl_334 4 rfl) ?_
    refine lv_aload_n hx hb dX11_mix_37 rfl (lv_at hl_334 2 rfl) ?_
    refine va_get (D := E.1) (ci := 12) (v := .ref a_state) (C := RX11) (T := TX11) (N := 45) hx hb hts in_X11 hown hK hP_336 0 rfl rfl 39 (by decide) w_1 (fun _ h9 => h9) rfl dX11_mix_38 ?_
    refine lv_iload hx hb dX11_mix_41 (lv_at hl_334 0 rfl) ?_
    refine lv_iload hx hb dX11_mix_43 (lv_at hl_334 1 rfl) ?_
    refine lv_iconst (v := 1) hx hb dX11_mix_45 (by decide) ?_
    refine lv_iadd hx hb dX11_mix_46 ?_
    refine lv_topi (fun y_337 ey_337 => ?_)
    obtain rfl : y_337 = (nI (i_330 + 1)) := ey_337.trans (nI_add _ _)
    refine lv_iconst (v := 4) hx hb dX11_mix_47 (by decide) ?_
    refine lv_irem hx hb dX11_mix_48 (by decide) ?_
    refine lv_topi (fun y_338 ey_338 => ?_)
    obtain rfl : y_338 = (nI ((i_330 + 1) % 4)) := ey_338.trans (pk_rem (a := i_330 + 1) (d := 4) (by omega) (by omega) (by omega))
    refine lv_iadd hx hb dX11_mix_49 ?_
    refine lv_topi (fun y_339 ey_339 => ?_)
    obtain rfl : y_339 = (nI ((i_330 - (i_330 % 4)) + ((i_330 + 1) % 4))) := ey_339.trans (nI_add _ _)
    refine g_iald (e0 := (i_330 - (i_330 % 4)) + ((i_330 + 1) % 4)) hx hb hK hP_336 1 0 rfl rfl (by omega) (by omega) dX11_mix_50 ?_
    refine gSi hF hl_334 hV hP_336 hD_336 hS_336 hA [] [0, 1, 2] (wc := []) (wr := [(o, .inr (12, [.int Mthrown, .int (nI rv), .ref a_user, .int (nI Musers), .ref a_owner, .int (nI Mowners), .ref a_tried, .int (nI Mtries), .ref a_id, .int (nI Mids), .ref a_tape, .int (nI Mtaped), .int (nI Mtaken), .int MisPlain, .int Mpermissions, .ref a_entries, .ref a_sizes, .ref a_key, .int MisOpen, .int Mfilter, .int (nI Mcollected), .ref a_bytes, .int Mobject, .int MisBack, .int (nI MoutSize), .ref a_out, .int (nI Msaid), .ref a_message, .ref a_digest, .ref a_words, .ref a_h, .ref a_v, .ref a_fillBytes, .ref a_sines, .ref a_roots, .ref a_box, .ref a_backBox, .ref a_roundKeys, .int (nI Mrounds), .ref a_state, .ref a_other, .ref a_stream, .ref a_work, .ref a_padded, .ref a_ownKey])), (a_state, .inl (E.2.1, 16, .inl Mstate)), (a_other, .inl (E.2.1, 16, .inl z_330))]) rfl rfl rfl (by decide) (k_X11_times E l mb (Mstate ((i_330 - (i_330 % 4)) + ((i_330 + 1) % 4)))) (va_cwS 2 hts gX11_mix_X11_times rfl rfl rfl (by decide +kernel) ⟨Nat.le_of_ble_eq_true rfl, Nat.le_of_ble_eq_true rfl⟩) rfl rfl (Nat.le_of_ble_eq_true rfl) dX11_mix_51 ⟨Nat.le_of_ble_eq_true rfl, Nat.le_of_ble_eq_true rfl⟩ (fun r_340 _ H_341 locs_341 hu_340 hP_341 hD_341 hS_341 => ?_)
    have er_340 : r_340 = F_X11_times mb (Mstate ((i_330 - (i_330 % 4)) + ((i_330 + 1) % 4))) := hu_340
    clear hu_340
    replace hP_341 : va_P E.1 vwCl [(o, .inr (12, [.int Mthrown, .int (nI rv), .ref a_user, .int (nI Musers), .ref a_owner, .int (nI Mowners), .ref a_tried, .int (nI Mtries), .ref a_id, .int (nI Mids), .ref a_tape, .int (nI Mtaped), .int (nI Mtaken), .int MisPlain, .int Mpermissions, .ref a_entries, .ref a_sizes, .ref a_key, .int MisOpen, .int Mfilter, .int (nI Mcollected), .ref a_bytes, .int Mobject, .int MisBack, .int (nI MoutSize), .ref a_out, .int (nI Msaid), .ref a_message, .ref a_digest, .ref a_words, .ref a_h, .ref a_v, .ref a_fillBytes, .ref a_sines, .ref a_roots, .ref a_box, .ref a_backBox, .ref a_roundKeys, .int (nI Mrounds), .ref a_state, .ref a_other, .ref a_stream, .ref a_work, .ref a_padded, .ref a_ownKey])), (a_state, .inl (E.2.1, 16, .inl Mstate)), (a_other, .inl (E.2.1, 16, .inl z_330))] H_341 := hP_341
    replace hD_341 : va_D A [(o, .inr (12, [.int Mthrown, .int (nI rv), .ref a_user, .int (nI Musers), .ref a_owner, .int (nI Mowners), .ref a_tried, .int (nI Mtries), .ref a_id, .int (nI Mids), .ref a_tape, .int (nI Mtaped), .int (nI Mtaken), .int MisPlain, .int Mpermissions, .ref a_entries, .ref a_sizes, .ref a_key, .int MisOpen, .int Mfilter, .int (nI Mcollected), .ref a_bytes, .int Mobject, .int MisBack, .int (nI MoutSize), .ref a_out, .int (nI Msaid), .ref a_message, .ref a_digest, .ref a_words, .ref a_h, .ref a_v, .ref a_fillBytes, .ref a_sines, .ref a_roots, .ref a_box, .ref a_backBox, .ref a_roundKeys, .int (nI Mrounds), .ref a_state, .ref a_other, .ref a_stream, .ref a_work, .ref a_padded, .ref a_ownKey])), (a_state, .inl (E.2.1, 16, .inl Mstate)), (a_other, .inl (E.2.1, 16, .inl z_330))] := hD_341
    clear hP_336 hD_336 hS_336
    refine lv_ixor hx hb dX11_mix_54 ?_
    refine lv_iload_n hx hb dX11_mix_55 rfl (lv_at hl_334 5 rfl) ?_
    refine lv_aload_n hx hb dX11_mix_56 rfl (lv_at hl_334 2 rfl) ?_
    refine va_get (D := E.1) (ci := 12) (v := .ref a_state) (C := RX11) (T := TX11) (N := 45) hx hb hts in_X11 hown hK hP_341 0 rfl rfl 39 (by decide) w_1 (fun _ h9 => h9) rfl dX11_mix_57 ?_
    refine lv_iload hx hb dX11_mix_60 (lv_at hl_334 0 rfl) ?_
    refine lv_iload hx hb dX11_mix_62 (lv_at hl_334 1 rfl) ?_
    refine lv_iconst (v := 2) hx hb dX11_mix_64 (by decide) ?_
    refine lv_iadd hx hb dX11_mix_65 ?_
    refine lv_topi (fun y_342 ey_342 => ?_)
    obtain rfl : y_342 = (nI (i_330 + 2)) := ey_342.trans (nI_add _ _)
    refine lv_iconst (v := 4) hx hb dX11_mix_66 (by decide) ?_
    refine lv_irem hx hb dX11_mix_67 (by decide) ?_
    refine lv_topi (fun y_343 ey_343 => ?_)
    obtain rfl : y_343 = (nI ((i_330 + 2) % 4)) := ey_343.trans (pk_rem (a := i_330 + 2) (d := 4) (by omega) (by omega) (by omega))
    refine lv_iadd hx hb dX11_mix_68 ?_
    refine lv_topi (fun y_344 ey_344 => ?_)
    obtain rfl : y_344 = (nI ((i_330 - (i_330 % 4)) + ((i_330 + 2) % 4))) := ey_344.trans (nI_add _ _)
    refine g_iald (e0 := (i_330 - (i_330 % 4)) + ((i_330 + 2) % 4)) hx hb hK hP_341 1 0 rfl rfl (by omega) (by omega) dX11_mix_69 ?_
    refine gSi hF hl_334 hV hP_341 hD_341 hS_341 hA [] [0, 1, 2] (wc := []) (wr := [(o, .inr (12, [.int Mthrown, .int (nI rv), .ref a_user, .int (nI Musers), .ref a_owner, .int (nI Mowners), .ref a_tried, .int (nI Mtries), .ref a_id, .int (nI Mids), .ref a_tape, .int (nI Mtaped), .int (nI Mtaken), .int MisPlain, .int Mpermissions, .ref a_entries, .ref a_sizes, .ref a_key, .int MisOpen, .int Mfilter, .int (nI Mcollected), .ref a_bytes, .int Mobject, .int MisBack, .int (nI MoutSize), .ref a_out, .int (nI Msaid), .ref a_message, .ref a_digest, .ref a_words, .ref a_h, .ref a_v, .ref a_fillBytes, .ref a_sines, .ref a_roots, .ref a_box, .ref a_backBox, .ref a_roundKeys, .int (nI Mrounds), .ref a_state, .ref a_other, .ref a_stream, .ref a_work, .ref a_padded, .ref a_ownKey])), (a_state, .inl (E.2.1, 16, .inl Mstate)), (a_other, .inl (E.2.1, 16, .inl z_330))]) rfl rfl rfl (by decide) (k_X11_times E l mc_ (Mstate ((i_330 - (i_330 % 4)) + ((i_330 + 2) % 4)))) (va_cwS 2 hts gX11_mix_X11_times rfl rfl rfl (by decide +kernel) ⟨Nat.le_of_ble_eq_true rfl, Nat.le_of_ble_eq_true rfl⟩) rfl rfl (Nat.le_of_ble_eq_true rfl) dX11_mix_70 ⟨Nat.le_of_ble_eq_true rfl, Nat.le_of_ble_eq_true rfl⟩ (fun r_345 _ H_346 locs_346 hu_345 hP_346 hD_346 hS_346 => ?_)
    have er_345 : r_345 = F_X11_times mc_ (Mstate ((i_330 - (i_330 % 4)) + ((i_330 + 2) % 4))) := hu_345
    clear hu_345
    replace hP_346 : va_P E.1 vwCl [(o, .inr (12, [.int Mthrown, .int (nI rv), .ref a_user, .int (nI Musers), .ref a_owner, .int (nI Mowners), .ref a_tried, .int (nI Mtries), .ref a_id, .int (nI Mids), .ref a_tape, .int (nI Mtaped), .int (nI Mtaken), .int MisPlain, .int Mpermissions, .ref a_entries, .ref a_sizes, .ref a_key, .int MisOpen, .int Mfilter, .int (nI Mcollected), .ref a_bytes, .int Mobject, .int MisBack, .int (nI MoutSize), .ref a_out, .int (nI Msaid), .ref a_message, .ref a_digest, .ref a_words, .ref a_h, .ref a_v, .ref a_fillBytes, .ref a_sines, .ref a_roots, .ref a_box, .ref a_backBox, .ref a_roundKeys, .int (nI Mrounds), .ref a_state, .ref a_other, .ref a_stream, .ref a_work, .ref a_padded, .ref a_ownKey])), (a_state, .inl (E.2.1, 16, .inl Mstate)), (a_other, .inl (E.2.1, 16, .inl z_330))] H_346 := hP_346
    replace hD_346 : va_D A [(o, .inr (12, [.int Mthrown, .int (nI rv), .ref a_user, .int (nI Musers), .ref a_owner, .int (nI Mowners), .ref a_tried, .int (nI Mtries), .ref a_id, .int (nI Mids), .ref a_tape, .int (nI Mtaped), .int (nI Mtaken), .int MisPlain, .int Mpermissions, .ref a_entries, .ref a_sizes, .ref a_key, .int MisOpen, .int Mfilter, .int (nI Mcollected), .ref a_bytes, .int Mobject, .int MisBack, .int (nI MoutSize), .ref a_out, .int (nI Msaid), .ref a_message, .ref a_digest, .ref a_words, .ref a_h, .ref a_v, .ref a_fillBytes, .ref a_sines, .ref a_roots, .ref a_box, .ref a_backBox, .ref a_roundKeys, .int (nI Mrounds), .ref a_state, .ref a_other, .ref a_stream, .ref a_work, .ref a_padded, .ref a_ownKey])), (a_state, .inl (E.2.1, 16, .inl Mstate)), (a_other, .inl (E.2.1, 16, .inl z_330))] := hD_346
    clear hP_341 hD_341 hS_341
    refine lv_ixor hx hb dX11_mix_73 ?_
    refine lv_iload hx hb dX11_mix_74 (lv_at hl_334 6 rfl) ?_
    refine lv_aload_n hx hb dX11_mix_76 rfl (lv_at hl_334 2 rfl) ?_
    refine va_get (D := E.1) (ci := 12) (v := .ref a_state) (C := RX11) (T := TX11) (N := 45) hx hb hts in_X11 hown hK hP_346 0 rfl rfl 39 (by decide) w_1 (fun _ h9 => h9) rfl dX11_mix_77 ?_
    refine lv_iload hx hb dX11_mix_80 (lv_at hl_334 0 rfl) ?_
    refine lv_iload hx hb dX11_mix_82 (lv_at hl_334 1 rfl) ?_
    refine lv_iconst (v := 3) hx hb dX11_mix_84 (by decide) ?_
    refine lv_iadd hx hb dX11_mix_85 ?_
    refine lv_topi (fun y_347 ey_347 => ?_)
    obtain rfl : y_347 = (nI (i_330 + 3)) := ey_347.trans (nI_add _ _)
    refine lv_iconst (v := 4) hx hb dX11_mix_86 (by decide) ?_
    refine lv_irem hx hb dX11_mix_87 (by decide) ?_
    refine lv_topi (fun y_348 ey_348 => ?_)
    obtain rfl : y_348 = (nI ((i_330 + 3) % 4)) := ey_348.trans (pk_rem (a := i_330 + 3) (d := 4) (by omega) (by omega) (by omega))
    refine lv_iadd hx hb dX11_mix_88 ?_
    refine lv_topi (fun y_349 ey_349 => ?_)
    obtain rfl : y_349 = (nI ((i_330 - (i_330 % 4)) + ((i_330 + 3) % 4))) := ey_349.trans (nI_add _ _)
    refine g_iald (e0 := (i_330 - (i_330 % 4)) + ((i_330 + 3) % 4)) hx hb hK hP_346 1 0 rfl rfl (by omega) (by omega) dX11_mix_89 ?_
    refine gSi hF hl_334 hV hP_346 hD_346 hS_346 hA [] [0, 1, 2] (wc := []) (wr := [(o, .inr (12, [.int Mthrown, .int (nI rv), .ref a_user, .int (nI Musers), .ref a_owner, .int (nI Mowners), .ref a_tried, .int (nI Mtries), .ref a_id, .int (nI Mids), .ref a_tape, .int (nI Mtaped), .int (nI Mtaken), .int MisPlain, .int Mpermissions, .ref a_entries, .ref a_sizes, .ref a_key, .int MisOpen, .int Mfilter, .int (nI Mcollected), .ref a_bytes, .int Mobject, .int MisBack, .int (nI MoutSize), .ref a_out, .int (nI Msaid), .ref a_message, .ref a_digest, .ref a_words, .ref a_h, .ref a_v, .ref a_fillBytes, .ref a_sines, .ref a_roots, .ref a_box, .ref a_backBox, .ref a_roundKeys, .int (nI Mrounds), .ref a_state, .ref a_other, .ref a_stream, .ref a_work, .ref a_padded, .ref a_ownKey])), (a_state, .inl (E.2.1, 16, .inl Mstate)), (a_other, .inl (E.2.1, 16, .inl z_330))]) rfl rfl rfl (by decide) (k_X11_times E l md (Mstate ((i_330 - (i_330 % 4)) + ((i_330 + 3) % 4)))) (va_cwS 2 hts gX11_mix_X11_times rfl rfl rfl (by decide +kernel) ⟨Nat.le_of_ble_eq_true rfl, Nat.le_of_ble_eq_true rfl⟩) rfl rfl (Nat.le_of_ble_eq_true rfl) dX11_mix_90 ⟨Nat.le_of_ble_eq_true rfl, Nat.le_of_ble_eq_true rfl⟩ (fun r_350 _ H_351 locs_351 hu_350 hP_351 hD_351 hS_351 => ?_)
    have er_350 : r_350 = F_X11_times md (Mstate ((i_330 - (i_330 % 4)) + ((i_330 + 3) % 4))) := hu_350
    clear hu_350
    replace hP_351 : va_P E.1 vwCl [(o, .inr (12, [.int Mthrown, .int (nI rv), .ref a_user, .int (nI Musers), .ref a_owner, .int (nI Mowners), .ref a_tried, .int (nI Mtries), .ref a_id, .int (nI Mids), .ref a_tape, .int (nI Mtaped), .int (nI Mtaken), .int MisPlain, .int Mpermissions, .ref a_entries, .ref a_sizes, .ref a_key, .int MisOpen, .int Mfilter, .int (nI Mcollected), .ref a_bytes, .int Mobject, .int MisBack, .int (nI MoutSize), .ref a_out, .int (nI Msaid), .ref a_message, .ref a_digest, .ref a_words, .ref a_h, .ref a_v, .ref a_fillBytes, .ref a_sines, .ref a_roots, .ref a_box, .ref a_backBox, .ref a_roundKeys, .int (nI Mrounds), .ref a_state, .ref a_other, .ref a_stream, .ref a_work, .ref a_padded, .ref a_ownKey])), (a_state, .inl (E.2.1, 16, .inl Mstate)), (a_other, .inl (E.2.1, 16, .inl z_330))] H_351 := hP_351
    replace hD_351 : va_D A [(o, .inr (12, [.int Mthrown, .int (nI rv), .ref a_user, .int (nI Musers), .ref a_owner, .int (nI Mowners), .ref a_tried, .int (nI Mtries), .ref a_id, .int (nI Mids), .ref a_tape, .int (nI Mtaped), .int (nI Mtaken), .int MisPlain, .int Mpermissions, .ref a_entries, .ref a_sizes, .ref a_key, .int MisOpen, .int Mfilter, .int (nI Mcollected), .ref a_bytes, .int Mobject, .int MisBack, .int (nI MoutSize), .ref a_out, .int (nI Msaid), .ref a_message, .ref a_digest, .ref a_words, .ref a_h, .ref a_v, .ref a_fillBytes, .ref a_sines, .ref a_roots, .ref a_box, .ref a_backBox, .ref a_roundKeys, .int (nI Mrounds), .ref a_state, .ref a_other, .ref a_stream, .ref a_work, .ref a_padded, .ref a_ownKey])), (a_state, .inl (E.2.1, 16, .inl Mstate)), (a_other, .inl (E.2.1, 16, .inl z_330))] := hD_351
    clear hP_346 hD_346 hS_346
    refine lv_ixor hx hb dX11_mix_93 ?_
    refine g_iast (e0 := i_330) hx hb hK hP_351 hD_351 hS_351 2 0 rfl rfl (by omega) (by omega) dX11_mix_94 (fun H_352 locs_352 hP_352 hD_352 hS_352 => ?_)
    replace hP_352 : va_P E.1 vwCl [(o, .inr (12, [.int Mthrown, .int (nI rv), .ref a_user, .int (nI Musers), .ref a_owner, .int (nI Mowners), .ref a_tried, .int (nI Mtries), .ref a_id, .int (nI Mids), .ref a_tape, .int (nI Mtaped), .int (nI Mtaken), .int MisPlain, .int Mpermissions, .ref a_entries, .ref a_sizes, .ref a_key, .int MisOpen, .int Mfilter, .int (nI Mcollected), .ref a_bytes, .int Mobject, .int MisBack, .int (nI MoutSize), .ref a_out, .int (nI Msaid), .ref a_message, .ref a_digest, .ref a_words, .ref a_h, .ref a_v, .ref a_fillBytes, .ref a_sines, .ref a_roots, .ref a_box, .ref a_backBox, .ref a_roundKeys, .int (nI Mrounds), .ref a_state, .ref a_other, .ref a_stream, .ref a_work, .ref a_padded, .ref a_ownKey])), (a_state, .inl (E.2.1, 16, .inl Mstate)), (a_other, .inl (E.2.1, 16, .inl (upd z_330 i_330 (((r_335 ^^^ r_340) ^^^ r_345) ^^^ r_350))))] H_352 := hP_352
    replace hD_352 : va_D A [(o, .inr (12, [.int Mthrown, .int (nI rv), .ref a_user, .int (nI Musers), .ref a_owner, .int (nI Mowners), .ref a_tried, .int (nI Mtries), .ref a_id, .int (nI Mids), .ref a_tape, .int (nI Mtaped), .int (nI Mtaken), .int MisPlain, .int Mpermissions, .ref a_entries, .ref a_sizes, .ref a_key, .int MisOpen, .int Mfilter, .int (nI Mcollected), .ref a_bytes, .int Mobject, .int MisBack, .int (nI MoutSize), .ref a_out, .int (nI Msaid), .ref a_message, .ref a_digest, .ref a_words, .ref a_h, .ref a_v, .ref a_fillBytes, .ref a_sines, .ref a_roots, .ref a_box, .ref a_backBox, .ref a_roundKeys, .int (nI Mrounds), .ref a_state, .ref a_other, .ref a_stream, .ref a_work, .ref a_padded, .ref a_ownKey])), (a_state, .inl (E.2.1, 16, .inl Mstate)), (a_other, .inl (E.2.1, 16, .inl (upd z_330 i_330 (((r_335 ^^^ r_340) ^^^ r_345) ^^^ r_350))))] := hD_352
    clear hP_351 hD_351 hS_351
    refine lv_iinc (v := (nI (i_330 + 1))) (lv' := [(5, .int (nI (i_330 + 1))), (6, .int (nI (i_330 - (i_330 % 4)))), (0, .ref o), (1, .int ma), (2, .int mb), (3, .int mc_), (4, .int md)]) hx hb dX11_mix_95 hl_334 (k := 1) rfl (nI_add _ 1) (by decide) rfl (fun ls_353 hl_353 => ?_)
    clear hl_334
    refine lv_goto (tgt := 3) hx hb dX11_mix_98 (by decide) ?_
    exact ih_330 ((upd z_330 i_330 (((r_335 ^^^ r_340) ^^^ r_345) ^^^ r_350)) : Nat → Int32) _ _ _ (((show (B_X11_mix_3 ma Mstate mb mc_ md) i_330 z_330 = _ from (gLet_eq er_335 (gLet_eq er_340 (gLet_eq er_345 (gLet_eq er_350 rfl))))).symm.trans (congrArg ((B_X11_mix_3 ma Mstate mb mc_ md) i_330) hz_330)).trans (itr_s _ _ _).symm) ⟨lv_sub hl_353 [0, 2, 3, 4, 5, 6] rfl, (hP_352.sub [0, 1, 2] rfl), (hD_352.sub [0, 1, 2] (by decide) rfl), hS_352⟩
  · intro z_354 H_354 locs_354 ls_354 hz_354 hI_354
    obtain ⟨hl_354, hP_354, hD_354, hS_354⟩ := hI_354
    replace hl_354 : lv_has ls_354 7 [(5, .int (nI 16)), (0, .ref o), (1, .int ma), (2, .int mb), (3, .int mc_), (4, .int md)] := hl_354
    replace hP_354 : va_P E.1 vwCl [(o, .inr (12, [.int Mthrown, .int (nI rv), .ref a_user, .int (nI Musers), .ref a_owner, .int (nI Mowners), .ref a_tried, .int (nI Mtries), .ref a_id, .int (nI Mids), .ref a_tape, .int (nI Mtaped), .int (nI Mtaken), .int MisPlain, .int Mpermissions, .ref a_entries, .ref a_sizes, .ref a_key, .int MisOpen, .int Mfilter, .int (nI Mcollected), .ref a_bytes, .int Mobject, .int MisBack, .int (nI MoutSize), .ref a_out, .int (nI Msaid), .ref a_message, .ref a_digest, .ref a_words, .ref a_h, .ref a_v, .ref a_fillBytes, .ref a_sines, .ref a_roots, .ref a_box, .ref a_backBox, .ref a_roundKeys, .int (nI Mrounds), .ref a_state, .ref a_other, .ref a_stream, .ref a_work, .ref a_padded, .ref a_ownKey])), (a_state, .inl (E.2.1, 16, .inl Mstate)), (a_other, .inl (E.2.1, 16, .inl z_354))] H_354 := hP_354
    replace hD_354 : va_D A [(o, .inr (12, [.int Mthrown, .int (nI rv), .ref a_user, .int (nI Musers), .ref a_owner, .int (nI Mowners), .ref a_tried, .int (nI Mtries), .ref a_id, .int (nI Mids), .ref a_tape, .int (nI Mtaped), .int (nI Mtaken), .int MisPlain, .int Mpermissions, .ref a_entries, .ref a_sizes, .ref a_key, .int MisOpen, .int Mfilter, .int (nI Mcollected), .ref a_bytes, .int Mobject, .int MisBack, .int (nI MoutSize), .ref a_out, .int (nI Msaid), .ref a_message, .ref a_digest, .ref a_words, .ref a_h, .ref a_v, .ref a_fillBytes, .ref a_sines, .ref a_roots, .ref a_box, .ref a_backBox, .ref a_roundKeys, .int (nI Mrounds), .ref a_state, .ref a_other, .ref a_stream, .ref a_work, .ref a_padded, .ref a_ownKey])), (a_state, .inl (E.2.1, 16, .inl Mstate)), (a_other, .inl (E.2.1, 16, .inl z_354))] := hD_354
    clear hl_253 hP hD hS
    refine lv_iload hx hb dX11_mix_3 (lv_at hl_354 0 rfl) ?_
    refine lv_bipush (v := 16) hx hb dX11_mix_5 (by decide) ?_
    refine lv_icmp_ge (tgt := 101) hx hb dX11_mix_7 (by decide) (fun c_355 => ?_) (fun c_355 => (by have c_355 := (not_congr (nI_leI (a := 16) (b := 16) (by omega) (by omega))).mp c_355; exfalso; omega))
    replace c_355 : 16 ≤ 16 := (nI_leI (a := 16) (b := 16) (by omega) (by omega)).mp c_355
    refine lv_iconst (v := 0) hx hb dX11_mix_101 (by decide) ?_
    refine lv_istore (lv' := [(5, .int 0), (0, .ref o), (1, .int ma), (2, .int mb), (3, .int mc_), (4, .int md)]) hx hb dX11_mix_102 hl_354 (by decide) rfl (fun ls_356 hl_356 => ?_)
    clear hl_354
    refine g_up (N := 16) (B_X11_mix_104 z_354) (Mstate : Nat → Int32) (Inv := fun i_0 z_372 H_0 locs_0 ls_0 => lv_has ls_0 7 [(5, .int (nI i_0)), (0, .ref o), (1, .int ma), (2, .int mb), (3, .int mc_), (4, .int md)] ∧ va_P E.1 vwCl [(o, .inr (12, [.int Mthrown, .int (nI rv), .ref a_user, .int (nI Musers), .ref a_owner, .int (nI Mowners), .ref a_tried, .int (nI Mtries), .ref a_id, .int (nI Mids), .ref a_tape, .int (nI Mtaped), .int (nI Mtaken), .int MisPlain, .int Mpermissions, .ref a_entries, .ref a_sizes, .ref a_key, .int MisOpen, .int Mfilter, .int (nI Mcollected), .ref a_bytes, .int Mobject, .int MisBack, .int (nI MoutSize), .ref a_out, .int (nI Msaid), .ref a_message, .ref a_digest, .ref a_words, .ref a_h, .ref a_v, .ref a_fillBytes, .ref a_sines, .ref a_roots, .ref a_box, .ref a_backBox, .ref a_roundKeys, .int (nI Mrounds), .ref a_state, .ref a_other, .ref a_stream, .ref a_work, .ref a_padded, .ref a_ownKey])), (a_state, .inl (E.2.1, 16, .inl z_372)), (a_other, .inl (E.2.1, 16, .inl z_354))] H_0 ∧ va_D A [(o, .inr (12, [.int Mthrown, .int (nI rv), .ref a_user, .int (nI Musers), .ref a_owner, .int (nI Mowners), .ref a_tried, .int (nI Mtries), .ref a_id, .int (nI Mids), .ref a_tape, .int (nI Mtaped), .int (nI Mtaken), .int MisPlain, .int Mpermissions, .ref a_entries, .ref a_sizes, .ref a_key, .int MisOpen, .int Mfilter, .int (nI Mcollected), .ref a_bytes, .int Mobject, .int MisBack, .int (nI MoutSize), .ref a_out, .int (nI Msaid), .ref a_message, .ref a_digest, .ref a_words, .ref a_h, .ref a_v, .ref a_fillBytes, .ref a_sines, .ref a_roots, .ref a_box, .ref a_backBox, .ref a_roundKeys, .int (nI Mrounds), .ref a_state, .ref a_other, .ref a_stream, .ref a_work, .ref a_padded, .ref a_ownKey])), (a_state, .inl (E.2.1, 16, .inl z_372)), (a_other, .inl (E.2.1, 16, .inl z_354))] ∧ va_S A s.heap H_0 locs_0) (G := fun H_0 locs_0 ls_0 => W _ _ _ _ _ _ _ _ _ _ H_0 locs_0 _ _ _ (F0 _ 104 ls_0 [])) ?_ ?_ ⟨lv_sub hl_356 [0, 1, 2, 3, 4, 5] rfl, hP_354, hD_354, hS_354⟩
    · intro j_373 i_373 z_373 H_373 locs_373 ls_373 hij_373 hz_373 hI_373 ih_373
      obtain ⟨hl_373, hP_373, hD_373, hS_373⟩ := hI_373
      replace hl_373 : lv_has ls_373 7 [(5, .int (nI i_373)), (0, .ref o), (1, .int ma), (2, .int mb), (3, .int mc_), (4, .int md)] := hl_373
      replace hP_373 : va_P E.1 vwCl [(o, .inr (12, [.int Mthrown, .int (nI rv), .ref a_user, .int (nI Musers), .ref a_owner, .int (nI Mowners), .ref a_tried, .int (nI Mtries), .ref a_id, .int (nI Mids), .ref a_tape, .int (nI Mtaped), .int (nI Mtaken), .int MisPlain, .int Mpermissions, .ref a_entries, .ref a_sizes, .ref a_key, .int MisOpen, .int Mfilter, .int (nI Mcollected), .ref a_bytes, .int Mobject, .int MisBack, .int (nI MoutSize), .ref a_out, .int (nI Msaid), .ref a_message, .ref a_digest, .ref a_words, .ref a_h, .ref a_v, .ref a_fillBytes, .ref a_sines, .ref a_roots, .ref a_box, .ref a_backBox, .ref a_roundKeys, .int (nI Mrounds), .ref a_state, .ref a_other, .ref a_stream, .ref a_work, .ref a_padded, .ref a_ownKey])), (a_state, .inl (E.2.1, 16, .inl z_373)), (a_other, .inl (E.2.1, 16, .inl z_354))] H_373 := hP_373
      replace hD_373 : va_D A [(o, .inr (12, [.int Mthrown, .int (nI rv), .ref a_user, .int (nI Musers), .ref a_owner, .int (nI Mowners), .ref a_tried, .int (nI Mtries), .ref a_id, .int (nI Mids), .ref a_tape, .int (nI Mtaped), .int (nI Mtaken), .int MisPlain, .int Mpermissions, .ref a_entries, .ref a_sizes, .ref a_key, .int MisOpen, .int Mfilter, .int (nI Mcollected), .ref a_bytes, .int Mobject, .int MisBack, .int (nI MoutSize), .ref a_out, .int (nI Msaid), .ref a_message, .ref a_digest, .ref a_words, .ref a_h, .ref a_v, .ref a_fillBytes, .ref a_sines, .ref a_roots, .ref a_box, .ref a_backBox, .ref a_roundKeys, .int (nI Mrounds), .ref a_state, .ref a_other, .ref a_stream, .ref a_work, .ref a_padded, .ref a_ownKey])), (a_state, .inl (E.2.1, 16, .inl z_373)), (a_other, .inl (E.2.1, 16, .inl z_354))] := hD_373
      clear hl_356 hP_354 hD_354 hS_354
      refine lv_iload hx hb dX11_mix_104 (lv_at hl_373 0 rfl) ?_
      refine lv_bipush (v := 16) hx hb dX11_mix_106 (by decide) ?_
      refine lv_icmp_ge (tgt := 131) hx hb dX11_mix_108 (by decide) (fun c_374 => (by have c_374 := (nI_leI (a := 16) (b := i_373) (by omega) (by omega)).mp c_374; exfalso; omega)) (fun c_374 => ?_)
      replace c_374 : ¬ 16 ≤ i_373 := (not_congr (nI_leI (a := 16) (b := i_373) (by omega) (by omega))).mp c_374
      refine lv_aload_n hx hb dX11_mix_111 rfl (lv_at hl_373 1 rfl) ?_
      refine va_get (D := E.1) (ci := 12) (v := .ref a_state) (C := RX11) (T := TX11) (N := 45) hx hb hts in_X11 hown hK hP_373 0 rfl rfl 39 (by decide) w_1 (fun _ h9 => h9) rfl dX11_mix_112 ?_
      refine lv_iload hx hb dX11_mix_115 (lv_at hl_373 0 rfl) ?_
      refine lv_aload_n hx hb dX11_mix_117 rfl (lv_at hl_373 1 rfl) ?_
      refine va_get (D := E.1) (ci := 12) (v := .ref a_other) (C := RX11) (T := TX11) (N := 45) hx hb hts in_X11 hown hK hP_373 0 rfl rfl 40 (by decide) w_0 (fun _ h9 => h9) rfl dX11_mix_118 ?_
      refine lv_iload hx hb dX11_mix_121 (lv_at hl_373 0 rfl) ?_
      refine g_iald (e0 := i_373) hx hb hK hP_373 2 0 rfl rfl (by omega) (by omega) dX11_mix_123 ?_
      refine g_iast (e0 := i_373) hx hb hK hP_373 hD_373 hS_373 1 0 rfl rfl (by omega) (by omega) dX11_mix_124 (fun H_375 locs_375 hP_375 hD_375 hS_375 => ?_)
      replace hP_375 : va_P E.1 vwCl [(o, .inr (12, [.int Mthrown, .int (nI rv), .ref a_user, .int (nI Musers), .ref a_owner, .int (nI Mowners), .ref a_tried, .int (nI Mtries), .ref a_id, .int (nI Mids), .ref a_tape, .int (nI Mtaped), .int (nI Mtaken), .int MisPlain, .int Mpermissions, .ref a_entries, .ref a_sizes, .ref a_key, .int MisOpen, .int Mfilter, .int (nI Mcollected), .ref a_bytes, .int Mobject, .int MisBack, .int (nI MoutSize), .ref a_out, .int (nI Msaid), .ref a_message, .ref a_digest, .ref a_words, .ref a_h, .ref a_v, .ref a_fillBytes, .ref a_sines, .ref a_roots, .ref a_box, .ref a_backBox, .ref a_roundKeys, .int (nI Mrounds), .ref a_state, .ref a_other, .ref a_stream, .ref a_work, .ref a_padded, .ref a_ownKey])), (a_state, .inl (E.2.1, 16, .inl (upd z_373 i_373 (z_354 i_373)))), (a_other, .inl (E.2.1, 16, .inl z_354))] H_375 := hP_375
      replace hD_375 : va_D A [(o, .inr (12, [.int Mthrown, .int (nI rv), .ref a_user, .int (nI Musers), .ref a_owner, .int (nI Mowners), .ref a_tried, .int (nI Mtries), .ref a_id, .int (nI Mids), .ref a_tape, .int (nI Mtaped), .int (nI Mtaken), .int MisPlain, .int Mpermissions, .ref a_entries, .ref a_sizes, .ref a_key, .int MisOpen, .int Mfilter, .int (nI Mcollected), .ref a_bytes, .int Mobject, .int MisBack, .int (nI MoutSize), .ref a_out, .int (nI Msaid), .ref a_message, .ref a_digest, .ref a_words, .ref a_h, .ref a_v, .ref a_fillBytes, .ref a_sines, .ref a_roots, .ref a_box, .ref a_backBox, .ref a_roundKeys, .int (nI Mrounds), .ref a_state, .ref a_other, .ref a_stream, .ref a_work, .ref a_padded, .ref a_ownKey])), (a_state, .inl (E.2.1, 16, .inl (upd z_373 i_373 (z_354 i_373)))), (a_other, .inl (E.2.1, 16, .inl z_354))] := hD_375
      clear hP_373 hD_373 hS_373
      refine lv_iinc (v := (nI (i_373 + 1))) (lv' := [(5, .int (nI (i_373 + 1))), (0, .ref o), (1, .int ma), (2, .int mb), (3, .int mc_), (4, .int md)]) hx hb dX11_mix_125 hl_373 (k := 0) rfl (nI_add _ 1) (by decide) rfl (fun ls_376 hl_376 => ?_)
      clear hl_373
      refine lv_goto (tgt := 104) hx hb dX11_mix_128 (by decide) ?_
      exact ih_373 ((upd z_373 i_373 (z_354 i_373)) : Nat → Int32) _ _ _ (((show (B_X11_mix_104 z_354) i_373 z_373 = _ from rfl).symm.trans (congrArg ((B_X11_mix_104 z_354) i_373) hz_373)).trans (itr_s _ _ _).symm) ⟨lv_sub hl_376 [0, 1, 2, 3, 4, 5] rfl, (hP_375.sub [0, 1, 2] rfl), (hD_375.sub [0, 1, 2] (by decide) rfl), hS_375⟩
    · intro z_377 H_377 locs_377 ls_377 hz_377 hI_377
      obtain ⟨hl_377, hP_377, hD_377, hS_377⟩ := hI_377
      replace hl_377 : lv_has ls_377 7 [(5, .int (nI 16)), (0, .ref o), (1, .int ma), (2, .int mb), (3, .int mc_), (4, .int md)] := hl_377
      replace hP_377 : va_P E.1 vwCl [(o, .inr (12, [.int Mthrown, .int (nI rv), .ref a_user, .int (nI Musers), .ref a_owner, .int (nI Mowners), .ref a_tried, .int (nI Mtries), .ref a_id, .int (nI Mids), .ref a_tape, .int (nI Mtaped), .int (nI Mtaken), .int MisPlain, .int Mpermissions, .ref a_entries, .ref a_sizes, .ref a_key, .int MisOpen, .int Mfilter, .int (nI Mcollected), .ref a_bytes, .int Mobject, .int MisBack, .int (nI MoutSize), .ref a_out, .int (nI Msaid), .ref a_message, .ref a_digest, .ref a_words, .ref a_h, .ref a_v, .ref a_fillBytes, .ref a_sines, .ref a_roots, .ref a_box, .ref a_backBox, .ref a_roundKeys, .int (nI Mrounds), .ref a_state, .ref a_other, .ref a_stream, .ref a_work, .ref a_padded, .ref a_ownKey])), (a_state, .inl (E.2.1, 16, .inl z_377)), (a_other, .inl (E.2.1, 16, .inl z_354))] H_377 := hP_377
      replace hD_377 : va_D A [(o, .inr (12, [.int Mthrown, .int (nI rv), .ref a_user, .int (nI Musers), .ref a_owner, .int (nI Mowners), .ref a_tried, .int (nI Mtries), .ref a_id, .int (nI Mids), .ref a_tape, .int (nI Mtaped), .int (nI Mtaken), .int MisPlain, .int Mpermissions, .ref a_entries, .ref a_sizes, .ref a_key, .int MisOpen, .int Mfilter, .int (nI Mcollected), .ref a_bytes, .int Mobject, .int MisBack, .int (nI MoutSize), .ref a_out, .int (nI Msaid), .ref a_message, .ref a_digest, .ref a_words, .ref a_h, .ref a_v, .ref a_fillBytes, .ref a_sines, .ref a_roots, .ref a_box, .ref a_backBox, .ref a_roundKeys, .int (nI Mrounds), .ref a_state, .ref a_other, .ref a_stream, .ref a_work, .ref a_padded, .ref a_ownKey])), (a_state, .inl (E.2.1, 16, .inl z_377)), (a_other, .inl (E.2.1, 16, .inl z_354))] := hD_377
      clear hl_356 hP_354 hD_354 hS_354
      refine lv_iload hx hb dX11_mix_104 (lv_at hl_377 0 rfl) ?_
      refine lv_bipush (v := 16) hx hb dX11_mix_106 (by decide) ?_
      refine lv_icmp_ge (tgt := 131) hx hb dX11_mix_108 (by decide) (fun c_378 => ?_) (fun c_378 => absurd c_355 ((not_congr (nI_leI (a := 16) (b := 16) (by omega) (by omega))).mp c_378))
      replace c_378 : 16 ≤ 16 := (nI_leI (a := 16) (b := 16) (by omega) (by omega)).mp c_378
      have hpost : ((z_377, z_354) : (Nat → Int32) × (Nat → Int32)) = F_X11_mix Mstate Mother ma mb mc_ md := (show F_X11_mix Mstate Mother ma mb mc_ md = ((z_377, z_354) : (Nat → Int32) × (Nat → Int32)) from (gLet_eq hz_354 (gLet_eq hz_377 rfl))).symm
      have hP9 := hP_377.sub (ws' := [(o, .inr (12, [.int Mthrown, .int (nI rv), .ref a_user, .int (nI Musers), .ref a_owner, .int (nI Mowners), .ref a_tried, .int (nI Mtries), .ref a_id, .int (nI Mids), .ref a_tape, .int (nI Mtaped), .int (nI Mtaken), .int MisPlain, .int Mpermissions, .ref a_entries, .ref a_sizes, .ref a_key, .int MisOpen, .int Mfilter, .int (nI Mcollected), .ref a_bytes, .int Mobject, .int MisBack, .int (nI MoutSize), .ref a_out, .int (nI Msaid), .ref a_message, .ref a_digest, .ref a_words, .ref a_h, .ref a_v, .ref a_fillBytes, .ref a_sines, .ref a_roots, .ref a_box, .ref a_backBox, .ref a_roundKeys, .int (nI Mrounds), .ref a_state, .ref a_other, .ref a_stream, .ref a_work, .ref a_padded, .ref a_ownKey])), (a_state, .inl (E.2.1, 16, .inl z_377)), (a_other, .inl (E.2.1, 16, .inl z_354))]) [0, 1, 2] rfl
      have hD9 := hD_377.sub (ws' := [(o, .inr (12, [.int Mthrown, .int (nI rv), .ref a_user, .int (nI Musers), .ref a_owner, .int (nI Mowners), .ref a_tried, .int (nI Mtries), .ref a_id, .int (nI Mids), .ref a_tape, .int (nI Mtaped), .int (nI Mtaken), .int MisPlain, .int Mpermissions, .ref a_entries, .ref a_sizes, .ref a_key, .int MisOpen, .int Mfilter, .int (nI Mcollected), .ref a_bytes, .int Mobject, .int MisBack, .int (nI MoutSize), .ref a_out, .int (nI Msaid), .ref a_message, .ref a_digest, .ref a_words, .ref a_h, .ref a_v, .ref a_fillBytes, .ref a_sines, .ref a_roots, .ref a_box, .ref a_backBox, .ref a_roundKeys, .int (nI Mrounds), .ref a_state, .ref a_other, .ref a_stream, .ref a_work, .ref a_padded, .ref a_ownKey])), (a_state, .inl (E.2.1, 16, .inl z_377)), (a_other, .inl (E.2.1, 16, .inl z_354))]) [0, 1, 2] (by decide) rfl
      exact W.vret hx hb hr (fun t ht hW => ⟨⟨(z_377, z_354), rfl, hpost, by rw [ht]; exact hP9, hD9⟩, hS_377.F ht⟩) hS_377.2.2 dX11_mix_131
set_option maxHeartbeats 4000000 in
set_option maxRecDepth 100000 in
theorem k_X11_substitute_0 (E : gE) (l : Launch) (o a_user a_owner a_tried a_id a_tape a_entries a_sizes a_key a_bytes a_out a_message a_digest a_words a_h a_v a_fillBytes a_sines a_roots a_box a_backBox a_roundKeys a_state a_other a_stream a_work a_padded a_ownKey : Nat) (rv : Nat) (Mthrown : Int32) (Musers : Nat) (Mowners : Nat) (Mtries : Nat) (Mids : Nat) (Mtaped : Nat) (Mtaken : Nat) (MisPlain : Int32) (Mpermissions : Int32) (MisOpen : Int32) (Mfilter : Int32) (Mcollected : Nat) (Mobject : Int32) (MisBack : Int32) (MoutSize : Nat) (Msaid : Nat) (Mbox : Nat → Int32) (Mrounds : Nat) (Mstate : Nat → Int32) (Mother : Nat → Int32) (hstB : ∀ k : Nat, k < 16 → isB (Mstate k)) : gMv E l yX11_substitute wsX11_substitute ({ frames := 0, cells := 0, slots := 0, locals := 0 }) 0 0 [.ref o, .int 0] [(o, .inr (12, [.int Mthrown, .int (nI rv), .ref a_user, .int (nI Musers), .ref a_owner, .int (nI Mowners), .ref a_tried, .int (nI Mtries), .ref a_id, .int (nI Mids), .ref a_tape, .int (nI Mtaped), .int (nI Mtaken), .int MisPlain, .int Mpermissions, .ref a_entries, .ref a_sizes, .ref a_key, .int MisOpen, .int Mfilter, .int (nI Mcollected), .ref a_bytes, .int Mobject, .int MisBack, .int (nI MoutSize), .ref a_out, .int (nI Msaid), .ref a_message, .ref a_digest, .ref a_words, .ref a_h, .ref a_v, .ref a_fillBytes, .ref a_sines, .ref a_roots, .ref a_box, .ref a_backBox, .ref a_roundKeys, .int (nI Mrounds), .ref a_state, .ref a_other, .ref a_stream, .ref a_work, .ref a_padded, .ref a_ownKey])), (a_box, .inl (E.2.1, 256, .inl Mbox)), (a_state, .inl (E.2.1, 16, .inl Mstate)), (a_other, .inl (E.2.1, 16, .inl Mother))] (fun (uu : (Nat → Int32) × (Nat → Int32)) => uu = F_X11_substitute_0 Mbox Mstate Mother) (fun (uu : (Nat → Int32) × (Nat → Int32)) => [(o, .inr (12, [.int Mthrown, .int (nI rv), .ref a_user, .int (nI Musers), .ref a_owner, .int (nI Mowners), .ref a_tried, .int (nI Mtries), .ref a_id, .int (nI Mids), .ref a_tape, .int (nI Mtaped), .int (nI Mtaken), .int MisPlain, .int Mpermissions, .ref a_entries, .ref a_sizes, .ref a_key, .int MisOpen, .int Mfilter, .int (nI Mcollected), .ref a_bytes, .int Mobject, .int MisBack, .int (nI MoutSize), .ref a_out, .int (nI Msaid), .ref a_message, .ref a_digest, .ref a_words, .ref a_h, .ref a_v, .ref a_fillBytes, .ref a_sines, .ref a_roots, .ref a_box, .ref a_backBox, .ref a_roundKeys, .int (nI Mrounds), .ref a_state, .ref a_other, .ref a_stream, .ref a_work, .ref a_padded, .ref a_ownKey])), (a_box, .inl (E.2.1, 256, .inl Mbox)), (a_state, .inl (E.2.1, 16, .inl uu.1)), (a_other, .inl (E.2.1, 16, .inl uu.2))]) := by
  intro sz
  refine Met.ofW (cc := cX11_substitute) (maxL := 5) (ret := none) (by decide) rfl ?_
  intro p e s m args below meth c s₁ B hml hv
  obtain ⟨rfl, hsz, hP, hV, hD0⟩ := hv
  have hx := B.exec
  have hb := B.bytes
  have hr := B.returns
  have hts := atoms_spec (ws := wsX11_substitute) B.pre
  have hown : s.vm.findClass RX11 = some m.cls := findClass_of_methodNamed B.named
  have hlocks := B.notSynchronized
  subst hsz
  have hD := hD0.self (sz := s.heap.size)
  clear hD0
  generalize hAe : va_A [(o, .inr (12, [.int Mthrown, .int (nI rv), .ref a_user, .int (nI Musers), .ref a_owner, .int (nI Mowners), .ref a_tried, .int (nI Mtries), .ref a_id, .int (nI Mids), .ref a_tape, .int (nI Mtaped), .int (nI Mtaken), .int MisPlain, .int Mpermissions, .ref a_entries, .ref a_sizes, .ref a_key, .int MisOpen, .int Mfilter, .int (nI Mcollected), .ref a_bytes, .int Mobject, .int MisBack, .int (nI MoutSize), .ref a_out, .int (nI Msaid), .ref a_message, .ref a_digest, .ref a_words, .ref a_h, .ref a_v, .ref a_fillBytes, .ref a_sines, .ref a_roots, .ref a_box, .ref a_backBox, .ref a_roundKeys, .int (nI Mrounds), .ref a_state, .ref a_other, .ref a_stream, .ref a_work, .ref a_padded, .ref a_ownKey])), (a_box, .inl (E.2.1, 256, .inl Mbox)), (a_state, .inl (E.2.1, 16, .inl Mstate)), (a_other, .inl (E.2.1, 16, .inl Mother))] s.heap.size = A at hD hV ⊢
  have hA : ∀ q : Nat, s.heap.size ≤ q → A q := fun q h => by rw [← hAe]; exact Or.inr h
  have hS : va_S A s.heap s.heap [] := va_S.rf
  have hK := hV.1
  have hF : CallFix p m c cX11_substitute 5 s _ wsX11_substitute RX11 := ⟨hx, hb, hml, hown, hts⟩
  have hl := lv_entry [.ref o, .int 0] (n := 5) (Nat.le_of_ble_eq_true rfl)
  rw [lg_entry_eq]
  generalize (lg_sl [.ref o, .int 0] ++ List.replicate (5 - (lg_sl [.ref o, .int 0]).length) Slot.unset).toArray = ls at hl ⊢
  have hl : lv_has ls 5 [(0, .ref o), (1, .int 0)] := hl
  have in_X11 : ∀ w ∈ wsX110, w ∈ wsX11_substitute := by decide +kernel
  have w_0 := hts (.fieldLink RX11 204 "CryptRowsModel" "other" "[I") (by decide +kernel)
  have w_1 := hts (.fieldLink RX11 192 "CryptRowsModel" "box" "[I") (by decide +kernel)
  have w_2 := hts (.fieldLink RX11 201 "CryptRowsModel" "state" "[I") (by decide +kernel)
  refine lv_iconst (v := 0) hx hb dX11_substitute_0 (by decide) ?_
  refine lv_istore_n (lv' := [(2, .int 0), (0, .ref o), (1, .int 0)]) hx hb dX11_substitute_1 rfl hl (by decide) rfl (fun ls_467 hl_467 => ?_)
  clear hl
  refine lv_iload_n hx hb dX11_substitute_2 rfl (lv_at hl_467 0 rfl) ?_
  refine lv_iconst (v := 4) hx hb dX11_substitute_3 (by decide) ?_
  refine lv_icmp_ge (tgt := 96) hx hb dX11_substitute_4 (by decide) (fun c_468 => absurd c_468 (by decide)) (fun c_468 => ?_)
  refine lv_iconst (v := 0) hx hb dX11_substitute_7 (by decide) ?_
  refine lv_istore_n (lv' := [(3, .int 0), (2, .int 0), (0, .ref o), (1, .int 0)]) hx hb dX11_substitute_8 rfl hl_467 (by decide) rfl (fun ls_469 hl_469 => ?_)
  clear hl_467
  refine lv_iload_n hx hb dX11_substitute_9 rfl (lv_at hl_469 0 rfl) ?_
  refine lv_iconst (v := 4) hx hb dX11_substitute_10 (by decide) ?_
  refine lv_icmp_ge (tgt := 90) hx hb dX11_substitute_11 (by decide) (fun c_470 => absurd c_470 (by decide)) (fun c_470 => ?_)
  refine lv_iload_n hx hb dX11_substitute_14 rfl (lv_at hl_469 3 rfl) ?_
  refine lv_if_eq (tgt := 28) hx hb dX11_substitute_15 (by decide) (fun c_471 => ?_) (fun c_471 => absurd (by decide) c_471)
  refine lv_iload_n hx hb dX11_substitute_28 rfl (lv_at hl_469 1 rfl) ?_
  refine lv_iload_n hx hb dX11_substitute_29 rfl (lv_at hl_469 0 rfl) ?_
  refine lv_iadd hx hb dX11_substitute_30 ?_
  refine lv_topi (fun y_472 ey_472 => ?_)
  obtain rfl : y_472 = 0 := ey_472.trans (by decide)
  refine lv_iconst (v := 4) hx hb dX11_substitute_31 (by decide) ?_
  refine lv_irem hx hb dX11_substitute_32 (by decide) ?_
  refine lv_topi (fun y_473 ey_473 => ?_)
  obtain rfl : y_473 = 0 := ey_473.trans (by decide)
  refine lv_istore (lv' := [(4, .int 0), (3, .int 0), (2, .int 0), (0, .ref o), (1, .int 0)]) hx hb dX11_substitute_33 hl_469 (by decide) rfl (fun ls_474 hl_474 => ?_)
  clear hl_469
  refine lv_aload_n hx hb dX11_substitute_35 rfl (lv_at hl_474 3 rfl) ?_
  refine va_get (D := E.1) (ci := 12) (v := .ref a_other) (C := RX11) (T := TX11) (N := 45) hx hb hts in_X11 hown hK hP 0 rfl rfl 40 (by decide) w_0 (fun _ h9 => h9) rfl dX11_substitute_36 ?_
  refine lv_iconst (v := 4) hx hb dX11_substitute_39 (by decide) ?_
  refine lv_iload_n hx hb dX11_substitute_40 rfl (lv_at hl_474 2 rfl) ?_
  refine lv_imul hx hb dX11_substitute_41 ?_
  refine lv_topi (fun y_475 ey_475 => ?_)
  obtain rfl : y_475 = 0 := ey_475.trans (by decide)
  refine lv_iload_n hx hb dX11_substitute_42 rfl (lv_at hl_474 1 rfl) ?_
  refine lv_iadd hx hb dX11_substitute_43 ?_
  refine lv_topi (fun y_476 ey_476 => ?_)
  obtain rfl : y_476 = 0 := ey_476.trans (by decide)
  refine lv_iload_n hx hb dX11_substitute_44 rfl (lv_at hl_474 4 rfl) ?_
  refine lv_if_eq (tgt := 67) hx hb dX11_substitute_45 (by decide) (fun c_477 => ?_) (fun c_477 => absurd (by decide) c_477)
  refine lv_aload_n hx hb dX11_substitute_67 rfl (lv_at hl_474 3 rfl) ?_
  refine va_get (D := E.1) (ci := 12) (v := .ref a_box) (C := RX11) (T := TX11) (N := 45) hx hb hts in_X11 hown hK hP 0 rfl rfl 35 (by decide) w_1 (fun _ h9 => h9) rfl dX11_substitute_68 ?_
  refine lv_aload_n hx hb dX11_substitute_71 rfl (lv_at hl_474 3 rfl) ?_
  refine va_get (D := E.1) (ci := 12) (v := .ref a_state) (C := RX11) (T := TX11) (N := 45) hx hb hts in_X11 hown hK hP 0 rfl rfl 39 (by decide) w_2 (fun _ h9 => h9) rfl dX11_substitute_72 ?_
  refine lv_iconst (v := 4) hx hb dX11_substitute_75 (by decide) ?_
  refine lv_iload hx hb dX11_substitute_76 (lv_at hl_474 0 rfl) ?_
  refine lv_imul hx hb dX11_substitute_78 ?_
  refine lv_topi (fun y_478 ey_478 => ?_)
  obtain rfl : y_478 = 0 := ey_478.trans (by decide)
  refine lv_iload_n hx hb dX11_substitute_79 rfl (lv_at hl_474 1 rfl) ?_
  refine lv_iadd hx hb dX11_substitute_80 ?_
  refine lv_topi (fun y_479 ey_479 => ?_)
  obtain rfl : y_479 = 0 := ey_479.trans (by decide)
  refine g_iald (e0 := 0) hx hb hK hP 2 0 rfl rfl (by omega) (by omega) dX11_substitute_81 ?_
  refine va_iald hx hb hK hP 1 0 rfl rfl (isB_in (hstB _ (by omega))) dX11_substitute_82 ?_
  refine g_iast (e0 := 0) hx hb hK hP hD hS 3 0 rfl rfl (by omega) (by omega) dX11_substitute_83 (fun H_480 locs_480 hP_480 hD_480 hS_480 => ?_)
  replace hP_480 : va_P E.1 vwCl [(o, .inr (12, [.int Mthrown, .int (nI rv), .ref a_user, .int (nI Musers), .ref a_owner, .int (nI Mowners), .ref a_tried, .int (nI Mtries), .ref a_id, .int (nI Mids), .ref a_tape, .int (nI Mtaped), .int (nI Mtaken), .int MisPlain, .int Mpermissions, .ref a_entries, .ref a_sizes, .ref a_key, .int MisOpen, .int Mfilter, .int (nI Mcollected), .ref a_bytes, .int Mobject, .int MisBack, .int (nI MoutSize), .ref a_out, .int (nI Msaid), .ref a_message, .ref a_digest, .ref a_words, .ref a_h, .ref a_v, .ref a_fillBytes, .ref a_sines, .ref a_roots, .ref a_box, .ref a_backBox, .ref a_roundKeys, .int (nI Mrounds), .ref a_state, .ref a_other, .ref a_stream, .ref a_work, .ref a_padded, .ref a_ownKey])), (a_box, .inl (E.2.1, 256, .inl Mbox)), (a_state, .inl (E.2.1, 16, .inl Mstate)), (a_other, .inl (E.2.1, 16, .inl (upd Mother 0 (Mbox (Mstate 0).toNatClampNeg))))] H_480 := hP_480
  replace hD_480 : va_D A [(o, .inr (12, [.int Mthrown, .int (nI rv), .ref a_user, .int (nI Musers), .ref a_owner, .int (nI Mowners), .ref a_tried, .int (nI Mtries), .ref a_id, .int (nI Mids), .ref a_tape, .int (nI Mtaped), .int (nI Mtaken), .int MisPlain, .int Mpermissions, .ref a_entries, .ref a_sizes, .ref a_key, .int MisOpen, .int Mfilter, .int (nI Mcollected), .ref a_bytes, .int Mobject, .int MisBack, .int (nI MoutSize), .ref a_out, .int (nI Msaid), .ref a_message, .ref a_digest, .ref a_words, .ref a_h, .ref a_v, .ref a_fillBytes, .ref a_sines, .ref a_roots, .ref a_box, .ref a_backBox, .ref a_roundKeys, .int (nI Mrounds), .ref a_state, .ref a_other, .ref a_stream, .ref a_work, .ref a_padded, .ref a_ownKey])), (a_box, .inl (E.2.1, 256, .inl Mbox)), (a_state, .inl (E.2.1, 16, .inl Mstate)), (a_other, .inl (E.2.1, 16, .inl (upd Mother 0 (Mbox (Mstate 0).toNatClampNeg))))] := hD_480
  clear hP hD hS
  refine lv_iinc (v := 1) (lv' := [(3, .int 1), (4, .int 0), (2, .int 0), (0, .ref o), (1, .int 0)]) hx hb dX11_substitute_84 hl_474 (k := 1) rfl (by decide) (by decide) rfl (fun ls_481 hl_481 => ?_)
  clear hl_474
  refine lv_goto (tgt := 9) hx hb dX11_substitute_87 (by decide) ?_
  refine lv_iload_n hx hb dX11_substitute_9 rfl (lv_at hl_481 0 rfl) ?_
  refine lv_iconst (v := 4) hx hb dX11_substitute_10 (by decide) ?_
  refine lv_icmp_ge (tgt := 90) hx hb dX11_substitute_11 (by decide) (fun c_482 => absurd c_482 (by decide)) (fun c_482 => ?_)
  refine lv_iload_n hx hb dX11_substitute_14 rfl (lv_at hl_481 4 rfl) ?_
  refine lv_if_eq (tgt := 28) hx hb dX11_substitute_15 (by decide) (fun c_483 => ?_) (fun c_483 => absurd (by decide) c_483)
  refine lv_iload_n hx hb dX11_substitute_28 rfl (lv_at hl_481 2 rfl) ?_
  refine lv_iload_n hx hb dX11_substitute_29 rfl (lv_at hl_481 0 rfl) ?_
  refine lv_iadd hx hb dX11_substitute_30 ?_
  refine lv_topi (fun y_484 ey_484 => ?_)
  obtain rfl : y_484 = 1 := ey_484.trans (by decide)
  refine lv_iconst (v := 4) hx hb dX11_substitute_31 (by decide) ?_
  refine lv_irem hx hb dX11_substitute_32 (by decide) ?_
  refine lv_topi (fun y_485 ey_485 => ?_)
  obtain rfl : y_485 = 1 := ey_485.trans (by decide)
  refine lv_istore (lv' := [(4, .int 1), (3, .int 1), (2, .int 0), (0, .ref o), (1, .int 0)]) hx hb dX11_substitute_33 hl_481 (by decide) rfl (fun ls_486 hl_486 => ?_)
  clear hl_481
  refine lv_aload_n hx hb dX11_substitute_35 rfl (lv_at hl_486 3 rfl) ?_
  refine va_get (D := E.1) (ci := 12) (v := .ref a_other) (C := RX11) (T := TX11) (N := 45) hx hb hts in_X11 hown hK hP_480 0 rfl rfl 40 (by decide) w_0 (fun _ h9 => h9) rfl dX11_substitute_36 ?_
  refine lv_iconst (v := 4) hx hb dX11_substitute_39 (by decide) ?_
  refine lv_iload_n hx hb dX11_substitute_40 rfl (lv_at hl_486 2 rfl) ?_
  refine lv_imul hx hb dX11_substitute_41 ?_
  refine lv_topi (fun y_487 ey_487 => ?_)
  obtain rfl : y_487 = 0 := ey_487.trans (by decide)
  refine lv_iload_n hx hb dX11_substitute_42 rfl (lv_at hl_486 1 rfl) ?_
  refine lv_iadd hx hb dX11_substitute_43 ?_
  refine lv_topi (fun y_488 ey_488 => ?_)
  obtain rfl : y_488 = 1 := ey_488.trans (by decide)
  refine lv_iload_n hx hb dX11_substitute_44 rfl (lv_at hl_486 4 rfl) ?_
  refine lv_if_eq (tgt := 67) hx hb dX11_substitute_45 (by decide) (fun c_489 => ?_) (fun c_489 => absurd (by decide) c_489)
  refine lv_aload_n hx hb dX11_substitute_67 rfl (lv_at hl_486 3 rfl) ?_
  refine va_get (D := E.1) (ci := 12) (v := .ref a_box) (C := RX11) (T := TX11) (N := 45) hx hb hts in_X11 hown hK hP_480 0 rfl rfl 35 (by decide) w_1 (fun _ h9 => h9) rfl dX11_substitute_68 ?_
  refine lv_aload_n hx hb dX11_substitute_71 rfl (lv_at hl_486 3 rfl) ?_
  refine va_get (D := E.1) (ci := 12) (v := .ref a_state) (C := RX11) (T := TX11) (N := 45) hx hb hts in_X11 hown hK hP_480 0 rfl rfl 39 (by decide) w_2 (fun _ h9 => h9) rfl dX11_substitute_72 ?_
  refine lv_iconst (v := 4) hx hb dX11_substitute_75 (by decide) ?_
  refine lv_iload hx hb dX11_substitute_76 (lv_at hl_486 0 rfl) ?_
  refine lv_imul hx hb dX11_substitute_78 ?_
  refine lv_topi (fun y_490 ey_490 => ?_)
  obtain rfl : y_490 = 4 := ey_490.trans (by decide)
  refine lv_iload_n hx hb dX11_substitute_79 rfl (lv_at hl_486 1 rfl) ?_
  refine lv_iadd hx hb dX11_substitute_80 ?_
  refine lv_topi (fun y_491 ey_491 => ?_)
  obtain rfl : y_491 = 5 := ey_491.trans (by decide)
  refine g_iald (e0 := 5) hx hb hK hP_480 2 0 rfl rfl (by omega) (by omega) dX11_substitute_81 ?_
  refine va_iald hx hb hK hP_480 1 0 rfl rfl (isB_in (hstB _ (by omega))) dX11_substitute_82 ?_
  refine g_iast (e0 := 1) hx hb hK hP_480 hD_480 hS_480 3 0 rfl rfl (by omega) (by omega) dX11_substitute_83 (fun H_492 locs_492 hP_492 hD_492 hS_492 => ?_)
  replace hP_492 : va_P E.1 vwCl [(o, .inr (12, [.int Mthrown, .int (nI rv), .ref a_user, .int (nI Musers), .ref a_owner, .int (nI Mowners), .ref a_tried, .int (nI Mtries), .ref a_id, .int (nI Mids), .ref a_tape, .int (nI Mtaped), .int (nI Mtaken), .int MisPlain, .int Mpermissions, .ref a_entries, .ref a_sizes, .ref a_key, .int MisOpen, .int Mfilter, .int (nI Mcollected), .ref a_bytes, .int Mobject, .int MisBack, .int (nI MoutSize), .ref a_out, .int (nI Msaid), .ref a_message, .ref a_digest, .ref a_words, .ref a_h, .ref a_v, .ref a_fillBytes, .ref a_sines, .ref a_roots, .ref a_box, .ref a_backBox, .ref a_roundKeys, .int (nI Mrounds), .ref a_state, .ref a_other, .ref a_stream, .ref a_work, .ref a_padded, .ref a_ownKey])), (a_box, .inl (E.2.1, 256, .inl Mbox)), (a_state, .inl (E.2.1, 16, .inl Mstate)), (a_other, .inl (E.2.1, 16, .inl (upd (upd Mother 0 (Mbox (Mstate 0).toNatClampNeg)) 1 (Mbox (Mstate 5).toNatClampNeg))))] H_492 := hP_492
  replace hD_492 : va_D A [(o, .inr (12, [.int Mthrown, .int (nI rv), .ref a_user, .int (nI Musers), .ref a_owner, .int (nI Mowners), .ref a_tried, .int (nI Mtries), .ref a_id, .int (nI Mids), .ref a_tape, .int (nI Mtaped), .int (nI Mtaken), .int MisPlain, .int Mpermissions, .ref a_entries, .ref a_sizes, .ref a_key, .int MisOpen, .int Mfilter, .int (nI Mcollected), .ref a_bytes, .int Mobject, .int MisBack, .int (nI MoutSize), .ref a_out, .int (nI Msaid), .ref a_message, .ref a_digest, .ref a_words, .ref a_h, .ref a_v, .ref a_fillBytes, .ref a_sines, .ref a_roots, .ref a_box, .ref a_backBox, .ref a_roundKeys, .int (nI Mrounds), .ref a_state, .ref a_other, .ref a_stream, .ref a_work, .ref a_padded, .ref a_ownKey])), (a_box, .inl (E.2.1, 256, .inl Mbox)), (a_state, .inl (E.2.1, 16, .inl Mstate)), (a_other, .inl (E.2.1, 16, .inl (upd (upd Mother 0 (Mbox (Mstate 0).toNatClampNeg)) 1 (Mbox (Mstate 5).toNatClampNeg))))] := hD_492
  clear hP_480 hD_480 hS_480
  refine lv_iinc (v := 2) (lv' := [(3, .int 2), (4, .int 1), (2, .int 0), (0, .ref o), (1, .int 0)]) hx hb dX11_substitute_84 hl_486 (k := 1) rfl (by decide) (by decide) rfl (fun ls_493 hl_493 => ?_)
  clear hl_486
  refine lv_goto (tgt := 9) hx hb dX11_substitute_87 (by decide) ?_
  refine lv_iload_n hx hb dX11_substitute_9 rfl (lv_at hl_493 0 rfl) ?_
  refine lv_iconst (v := 4) hx hb dX11_substitute_10 (by decide) ?_
  refine lv_icmp_ge (tgt := 90) hx hb dX11_substitute_11 (by decide) (fun c_494 => absurd c_494 (by decide)) (fun c_494 => ?_)
  refine lv_iload_n hx hb dX11_substitute_14 rfl (lv_at hl_493 4 rfl) ?_
  refine lv_if_eq (tgt := 28) hx hb dX11_substitute_15 (by decide) (fun c_495 => ?_) (fun c_495 => absurd (by decide) c_495)
  refine lv_iload_n hx hb dX11_substitute_28 rfl (lv_at hl_493 2 rfl) ?_
  refine lv_iload_n hx hb dX11_substitute_29 rfl (lv_at hl_493 0 rfl) ?_
  refine lv_iadd hx hb dX11_substitute_30 ?_
  refine lv_topi (fun y_496 ey_496 => ?_)
  obtain rfl : y_496 = 2 := ey_496.trans (by decide)
  refine lv_iconst (v := 4) hx hb dX11_substitute_31 (by decide) ?_
  refine lv_irem hx hb dX11_substitute_32 (by decide) ?_
  refine lv_topi (fun y_497 ey_497 => ?_)
  obtain rfl : y_497 = 2 := ey_497.trans (by decide)
  refine lv_istore (lv' := [(4, .int 2), (3, .int 2), (2, .int 0), (0, .ref o), (1, .int 0)]) hx hb dX11_substitute_33 hl_493 (by decide) rfl (fun ls_498 hl_498 => ?_)
  clear hl_493
  refine lv_aload_n hx hb dX11_substitute_35 rfl (lv_at hl_498 3 rfl) ?_
  refine va_get (D := E.1) (ci := 12) (v := .ref a_other) (C := RX11) (T := TX11) (N := 45) hx hb hts in_X11 hown hK hP_492 0 rfl rfl 40 (by decide) w_0 (fun _ h9 => h9) rfl dX11_substitute_36 ?_
  refine lv_iconst (v := 4) hx hb dX11_substitute_39 (by decide) ?_
  refine lv_iload_n hx hb dX11_substitute_40 rfl (lv_at hl_498 2 rfl) ?_
  refine lv_imul hx hb dX11_substitute_41 ?_
  refine lv_topi (fun y_499 ey_499 => ?_)
  obtain rfl : y_499 = 0 := ey_499.trans (by decide)
  refine lv_iload_n hx hb dX11_substitute_42 rfl (lv_at hl_498 1 rfl) ?_
  refine lv_iadd hx hb dX11_substitute_43 ?_
  refine lv_topi (fun y_500 ey_500 => ?_)
  obtain rfl : y_500 = 2 := ey_500.trans (by decide)
  refine lv_iload_n hx hb dX11_substitute_44 rfl (lv_at hl_498 4 rfl) ?_
  refine lv_if_eq (tgt := 67) hx hb dX11_substitute_45 (by decide) (fun c_501 => ?_) (fun c_501 => absurd (by decide) c_501)
  refine lv_aload_n hx hb dX11_substitute_67 rfl (lv_at hl_498 3 rfl) ?_
  refine va_get (D := E.1) (ci := 12) (v := .ref a_box) (C := RX11) (T := TX11) (N := 45) hx hb hts in_X11 hown hK hP_492 0 rfl rfl 35 (by decide) w_1 (fun _ h9 => h9) rfl dX11_substitute_68 ?_
  refine lv_aload_n hx hb dX11_substitute_71 rfl (lv_at hl_498 3 rfl) ?_
  refine va_get (D := E.1) (ci := 12) (v := .ref a_state) (C := RX11) (T := TX11) (N := 45) hx hb hts in_X11 hown hK hP_492 0 rfl rfl 39 (by decide) w_2 (fun _ h9 => h9) rfl dX11_substitute_72 ?_
  refine lv_iconst (v := 4) hx hb dX11_substitute_75 (by decide) ?_
  refine lv_iload hx hb dX11_substitute_76 (lv_at hl_498 0 rfl) ?_
  refine lv_imul hx hb dX11_substitute_78 ?_
  refine lv_topi (fun y_502 ey_502 => ?_)
  obtain rfl : y_502 = 8 := ey_502.trans (by decide)
  refine lv_iload_n hx hb dX11_substitute_79 rfl (lv_at hl_498 1 rfl) ?_
  refine lv_iadd hx hb dX11_substitute_80 ?_
  refine lv_topi (fun y_503 ey_503 => ?_)
  obtain rfl : y_503 = 10 := ey_503.trans (by decide)
  refine g_iald (e0 := 10) hx hb hK hP_492 2 0 rfl rfl (by omega) (by omega) dX11_substitute_81 ?_
  refine va_iald hx hb hK hP_492 1 0 rfl rfl (isB_in (hstB _ (by omega))) dX11_substitute_82 ?_
  refine g_iast (e0 := 2) hx hb hK hP_492 hD_492 hS_492 3 0 rfl rfl (by omega) (by omega) dX11_substitute_83 (fun H_504 locs_504 hP_504 hD_504 hS_504 => ?_)
  replace hP_504 : va_P E.1 vwCl [(o, .inr (12, [.int Mthrown, .int (nI rv), .ref a_user, .int (nI Musers), .ref a_owner, .int (nI Mowners), .ref a_tried, .int (nI Mtries), .ref a_id, .int (nI Mids), .ref a_tape, .int (nI Mtaped), .int (nI Mtaken), .int MisPlain, .int Mpermissions, .ref a_entries, .ref a_sizes, .ref a_key, .int MisOpen, .int Mfilter, .int (nI Mcollected), .ref a_bytes, .int Mobject, .int MisBack, .int (nI MoutSize), .ref a_out, .int (nI Msaid), .ref a_message, .ref a_digest, .ref a_words, .ref a_h, .ref a_v, .ref a_fillBytes, .ref a_sines, .ref a_roots, .ref a_box, .ref a_backBox, .ref a_roundKeys, .int (nI Mrounds), .ref a_state, .ref a_other, .ref a_stream, .ref a_work, .ref a_padded, .ref a_ownKey])), (a_box, .inl (E.2.1, 256, .inl Mbox)), (a_state, .inl (E.2.1, 16, .inl Mstate)), (a_other, .inl (E.2.1, 16, .inl (upd (upd (upd Mother 0 (Mbox (Mstate 0).toNatClampNeg)) 1 (Mbox (Mstate 5).toNatClampNeg)) 2 (Mbox (Mstate 10).toNatClampNeg))))] H_504 := hP_504
  replace hD_504 : va_D A [(o, .inr (12, [.int Mthrown, .int (nI rv), .ref a_user, .int (nI Musers), .ref a_owner, .int (nI Mowners), .ref a_tried, .int (nI Mtries), .ref a_id, .int (nI Mids), .ref a_tape, .int (nI Mtaped), .int (nI Mtaken), .int MisPlain, .int Mpermissions, .ref a_entries, .ref a_sizes, .ref a_key, .int MisOpen, .int Mfilter, .int (nI Mcollected), .ref a_bytes, .int Mobject, .int MisBack, .int (nI MoutSize), .ref a_out, .int (nI Msaid), .ref a_message, .ref a_digest, .ref a_words, .ref a_h, .ref a_v, .ref a_fillBytes, .ref a_sines, .ref a_roots, .ref a_box, .ref a_backBox, .ref a_roundKeys, .int (nI Mrounds), .ref a_state, .ref a_other, .ref a_stream, .ref a_work, .ref a_padded, .ref a_ownKey])), (a_box, .inl (E.2.1, 256, .inl Mbox)), (a_state, .inl (E.2.1, 16, .inl Mstate)), (a_other, .inl (E.2.1, 16, .inl (upd (upd (upd Mother 0 (Mbox (Mstate 0).toNatClampNeg)) 1 (Mbox (Mstate 5).toNatClampNeg)) 2 (Mbox (Mstate 10).toNatClampNeg))))] := hD_504
  clear hP_492 hD_492 hS_492
  refine lv_iinc (v := 3) (lv' := [(3, .int 3), (4, .int 2), (2, .int 0), (0, .ref o), (1, .int 0)]) hx hb dX11_substitute_84 hl_498 (k := 1) rfl (by decide) (by decide) rfl (fun ls_505 hl_505 => ?_)
  clear hl_498
  refine lv_goto (tgt := 9) hx hb dX11_substitute_87 (by decide) ?_
  refine lv_iload_n hx hb dX11_substitute_9 rfl (lv_at hl_505 0 rfl) ?_
  refine lv_iconst (v := 4) hx hb dX11_substitute_10 (by decide) ?_
  refine lv_icmp_ge (tgt := 90) hx hb dX11_substitute_11 (by decide) (fun c_506 => absurd c_506 (by decide)) (fun c_506 => ?_)
  refine lv_iload_n hx hb dX11_substitute_14 rfl (lv_at hl_505 4 rfl) ?_
  refine lv_if_eq (tgt := 28) hx hb dX11_substitute_15 (by decide) (fun c_507 => ?_) (fun c_507 => absurd (by decide) c_507)
  refine lv_iload_n hx hb dX11_substitute_28 rfl (lv_at hl_505 2 rfl) ?_
  refine lv_iload_n hx hb dX11_substitute_29 rfl (lv_at hl_505 0 rfl) ?_
  refine lv_iadd hx hb dX11_substitute_30 ?_
  refine lv_topi (fun y_508 ey_508 => ?_)
  obtain rfl : y_508 = 3 := ey_508.trans (by decide)
  refine lv_iconst (v := 4) hx hb dX11_substitute_31 (by decide) ?_
  refine lv_irem hx hb dX11_substitute_32 (by decide) ?_
  refine lv_topi (fun y_509 ey_509 => ?_)
  obtain rfl : y_509 = 3 := ey_509.trans (by decide)
  refine lv_istore (lv' := [(4, .int 3), (3, .int 3), (2, .int 0), (0, .ref o), (1, .int 0)]) hx hb dX11_substitute_33 hl_505 (by decide) rfl (fun ls_510 hl_510 => ?_)
  clear hl_505
  refine lv_aload_n hx hb dX11_substitute_35 rfl (lv_at hl_510 3 rfl) ?_
  refine va_get (D := E.1) (ci := 12) (v := .ref a_other) (C := RX11) (T := TX11) (N := 45) hx hb hts in_X11 hown hK hP_504 0 rfl rfl 40 (by decide) w_0 (fun _ h9 => h9) rfl dX11_substitute_36 ?_
  refine lv_iconst (v := 4) hx hb dX11_substitute_39 (by decide) ?_
  refine lv_iload_n hx hb dX11_substitute_40 rfl (lv_at hl_510 2 rfl) ?_
  refine lv_imul hx hb dX11_substitute_41 ?_
  refine lv_topi (fun y_511 ey_511 => ?_)
  obtain rfl : y_511 = 0 := ey_511.trans (by decide)
  refine lv_iload_n hx hb dX11_substitute_42 rfl (lv_at hl_510 1 rfl) ?_
  refine lv_iadd hx hb dX11_substitute_43 ?_
  refine lv_topi (fun y_512 ey_512 => ?_)
  obtain rfl : y_512 = 3 := ey_512.trans (by decide)
  refine lv_iload_n hx hb dX11_substitute_44 rfl (lv_at hl_510 4 rfl) ?_
  refine lv_if_eq (tgt := 67) hx hb dX11_substitute_45 (by decide) (fun c_513 => ?_) (fun c_513 => absurd (by decide) c_513)
  refine lv_aload_n hx hb dX11_substitute_67 rfl (lv_at hl_510 3 rfl) ?_
  refine va_get (D := E.1) (ci := 12) (v := .ref a_box) (C := RX11) (T := TX11) (N := 45) hx hb hts in_X11 hown hK hP_504 0 rfl rfl 35 (by decide) w_1 (fun _ h9 => h9) rfl dX11_substitute_68 ?_
  refine lv_aload_n hx hb dX11_substitute_71 rfl (lv_at hl_510 3 rfl) ?_
  refine va_get (D := E.1) (ci := 12) (v := .ref a_state) (C := RX11) (T := TX11) (N := 45) hx hb hts in_X11 hown hK hP_504 0 rfl rfl 39 (by decide) w_2 (fun _ h9 => h9) rfl dX11_substitute_72 ?_
  refine lv_iconst (v := 4) hx hb dX11_substitute_75 (by decide) ?_
  refine lv_iload hx hb dX11_substitute_76 (lv_at hl_510 0 rfl) ?_
  refine lv_imul hx hb dX11_substitute_78 ?_
  refine lv_topi (fun y_514 ey_514 => ?_)
  obtain rfl : y_514 = 12 := ey_514.trans (by decide)
  refine lv_iload_n hx hb dX11_substitute_79 rfl (lv_at hl_510 1 rfl) ?_
  refine lv_iadd hx hb dX11_substitute_80 ?_
  refine lv_topi (fun y_515 ey_515 => ?_)
  obtain rfl : y_515 = 15 := ey_515.trans (by decide)
  refine g_iald (e0 := 15) hx hb hK hP_504 2 0 rfl rfl (by omega) (by omega) dX11_substitute_81 ?_
  refine va_iald hx hb hK hP_504 1 0 rfl rfl (isB_in (hstB _ (by omega))) dX11_substitute_82 ?_
  refine g_iast (e0 := 3) hx hb hK hP_504 hD_504 hS_504 3 0 rfl rfl (by omega) (by omega) dX11_substitute_83 (fun H_516 locs_516 hP_516 hD_516 hS_516 => ?_)
  replace hP_516 : va_P E.1 vwCl [(o, .inr (12, [.int Mthrown, .int (nI rv), .ref a_user, .int (nI Musers), .ref a_owner, .int (nI Mowners), .ref a_tried, .int (nI Mtries), .ref a_id, .int (nI Mids), .ref a_tape, .int (nI Mtaped), .int (nI Mtaken), .int MisPlain, .int Mpermissions, .ref a_entries, .ref a_sizes, .ref a_key, .int MisOpen, .int Mfilter, .int (nI Mcollected), .ref a_bytes, .int Mobject, .int MisBack, .int (nI MoutSize), .ref a_out, .int (nI Msaid), .ref a_message, .ref a_digest, .ref a_words, .ref a_h, .ref a_v, .ref a_fillBytes, .ref a_sines, .ref a_roots, .ref a_box, .ref a_backBox, .ref a_roundKeys, .int (nI Mrounds), .ref a_state, .ref a_other, .ref a_stream, .ref a_work, .ref a_padded, .ref a_ownKey])), (a_box, .inl (E.2.1, 256, .inl Mbox)), (a_state, .inl (E.2.1, 16, .inl Mstate)), (a_other, .inl (E.2.1, 16, .inl (upd (upd (upd (upd Mother 0 (Mbox (Mstate 0).toNatClampNeg)) 1 (Mbox (Mstate 5).toNatClampNeg)) 2 (Mbox (Mstate 10).toNatClampNeg)) 3 (Mbox (Mstate 15).toNatClampNeg))))] H_516 := hP_516
  replace hD_516 : va_D A [(o, .inr (12, [.int Mthrown, .int (nI rv), .ref a_user, .int (nI Musers), .ref a_owner, .int (nI Mowners), .ref a_tried, .int (nI Mtries), .ref a_id, .int (nI Mids), .ref a_tape, .int (nI Mtaped), .int (nI Mtaken), .int MisPlain, .int Mpermissions, .ref a_entries, .ref a_sizes, .ref a_key, .int MisOpen, .int Mfilter, .int (nI Mcollected), .ref a_bytes, .int Mobject, .int MisBack, .int (nI MoutSize), .ref a_out, .int (nI Msaid), .ref a_message, .ref a_digest, .ref a_words, .ref a_h, .ref a_v, .ref a_fillBytes, .ref a_sines, .ref a_roots, .ref a_box, .ref a_backBox, .ref a_roundKeys, .int (nI Mrounds), .ref a_state, .ref a_other, .ref a_stream, .ref a_work, .ref a_padded, .ref a_ownKey])), (a_box, .inl (E.2.1, 256, .inl Mbox)), (a_state, .inl (E.2.1, 16, .inl Mstate)), (a_other, .inl (E.2.1, 16, .inl (upd (upd (upd (upd Mother 0 (Mbox (Mstate 0).toNatClampNeg)) 1 (Mbox (Mstate 5).toNatClampNeg)) 2 (Mbox (Mstate 10).toNatClampNeg)) 3 (Mbox (Mstate 15).toNatClampNeg))))] := hD_516
  clear hP_504 hD_504 hS_504
  refine lv_iinc (v := 4) (lv' := [(3, .int 4), (4, .int 3), (2, .int 0), (0, .ref o), (1, .int 0)]) hx hb dX11_substitute_84 hl_510 (k := 1) rfl (by decide) (by decide) rfl (fun ls_517 hl_517 => ?_)
  clear hl_510
  refine lv_goto (tgt := 9) hx hb dX11_substitute_87 (by decide) ?_
  refine lv_iload_n hx hb dX11_substitute_9 rfl (lv_at hl_517 0 rfl) ?_
  refine lv_iconst (v := 4) hx hb dX11_substitute_10 (by decide) ?_
  refine lv_icmp_ge (tgt := 90) hx hb dX11_substitute_11 (by decide) (fun c_518 => ?_) (fun c_518 => absurd (by decide) c_518)
  refine lv_iinc (v := 1) (lv' := [(2, .int 1), (3, .int 4), (4, .int 3), (0, .ref o), (1, .int 0)]) hx hb dX11_substitute_90 hl_517 (k := 2) rfl (by decide) (by decide) rfl (fun ls_519 hl_519 => ?_)
  clear hl_517
  refine lv_goto (tgt := 2) hx hb dX11_substitute_93 (by decide) ?_
  refine lv_iload_n hx hb dX11_substitute_2 rfl (lv_at hl_519 0 rfl) ?_
  refine lv_iconst (v := 4) hx hb dX11_substitute_3 (by decide) ?_
  refine lv_icmp_ge (tgt := 96) hx hb dX11_substitute_4 (by decide) (fun c_520 => absurd c_520 (by decide)) (fun c_520 => ?_)
  refine lv_iconst (v := 0) hx hb dX11_substitute_7 (by decide) ?_
  refine lv_istore_n (lv' := [(3, .int 0), (2, .int 1), (4, .int 3), (0, .ref o), (1, .int 0)]) hx hb dX11_substitute_8 rfl hl_519 (by decide) rfl (fun ls_521 hl_521 => ?_)
  clear hl_519
  refine lv_iload_n hx hb dX11_substitute_9 rfl (lv_at hl_521 0 rfl) ?_
  refine lv_iconst (v := 4) hx hb dX11_substitute_10 (by decide) ?_
  refine lv_icmp_ge (tgt := 90) hx hb dX11_substitute_11 (by decide) (fun c_522 => absurd c_522 (by decide)) (fun c_522 => ?_)
  refine lv_iload_n hx hb dX11_substitute_14 rfl (lv_at hl_521 4 rfl) ?_
  refine lv_if_eq (tgt := 28) hx hb dX11_substitute_15 (by decide) (fun c_523 => ?_) (fun c_523 => absurd (by decide) c_523)
  refine lv_iload_n hx hb dX11_substitute_28 rfl (lv_at hl_521 1 rfl) ?_
  refine lv_iload_n hx hb dX11_substitute_29 rfl (lv_at hl_521 0 rfl) ?_
  refine lv_iadd hx hb dX11_substitute_30 ?_
  refine lv_topi (fun y_524 ey_524 => ?_)
  obtain rfl : y_524 = 1 := ey_524.trans (by decide)
  refine lv_iconst (v := 4) hx hb dX11_substitute_31 (by decide) ?_
  refine lv_irem hx hb dX11_substitute_32 (by decide) ?_
  refine lv_topi (fun y_525 ey_525 => ?_)
  obtain rfl : y_525 = 1 := ey_525.trans (by decide)
  refine lv_istore (lv' := [(4, .int 1), (3, .int 0), (2, .int 1), (0, .ref o), (1, .int 0)]) hx hb dX11_substitute_33 hl_521 (by decide) rfl (fun ls_526 hl_526 => ?_)
  clear hl_521
  refine lv_aload_n hx hb dX11_substitute_35 rfl (lv_at hl_526 3 rfl) ?_
  refine va_get (D := E.1) (ci := 12) (v := .ref a_other) (C := RX11) (T := TX11) (N := 45) hx hb hts in_X11 hown hK hP_516 0 rfl rfl 40 (by decide) w_0 (fun _ h9 => h9) rfl dX11_substitute_36 ?_
  refine lv_iconst (v := 4) hx hb dX11_substitute_39 (by decide) ?_
  refine lv_iload_n hx hb dX11_substitute_40 rfl (lv_at hl_526 2 rfl) ?_
  refine lv_imul hx hb dX11_substitute_41 ?_
  refine lv_topi (fun y_527 ey_527 => ?_)
  obtain rfl : y_527 = 4 := ey_527.trans (by decide)
  refine lv_iload_n hx hb dX11_substitute_42 rfl (lv_at hl_526 1 rfl) ?_
  refine lv_iadd hx hb dX11_substitute_43 ?_
  refine lv_topi (fun y_528 ey_528 => ?_)
  obtain rfl : y_528 = 4 := ey_528.trans (by decide)
  refine lv_iload_n hx hb dX11_substitute_44 rfl (lv_at hl_526 4 rfl) ?_
  refine lv_if_eq (tgt := 67) hx hb dX11_substitute_45 (by decide) (fun c_529 => ?_) (fun c_529 => absurd (by decide) c_529)
  refine lv_aload_n hx hb dX11_substitute_67 rfl (lv_at hl_526 3 rfl) ?_
  refine va_get (D := E.1) (ci := 12) (v := .ref a_box) (C := RX11) (T := TX11) (N := 45) hx hb hts in_X11 hown hK hP_516 0 rfl rfl 35 (by decide) w_1 (fun _ h9 => h9) rfl dX11_substitute_68 ?_
  refine lv_aload_n hx hb dX11_substitute_71 rfl (lv_at hl_526 3 rfl) ?_
  refine va_get (D := E.1) (ci := 12) (v := .ref a_state) (C := RX11) (T := TX11) (N := 45) hx hb hts in_X11 hown hK hP_516 0 rfl rfl 39 (by decide) w_2 (fun _ h9 => h9) rfl dX11_substitute_72 ?_
  refine lv_iconst (v := 4) hx hb dX11_substitute_75 (by decide) ?_
  refine lv_iload hx hb dX11_substitute_76 (lv_at hl_526 0 rfl) ?_
  refine lv_imul hx hb dX11_substitute_78 ?_
  refine lv_topi (fun y_530 ey_530 => ?_)
  obtain rfl : y_530 = 4 := ey_530.trans (by decide)
  refine lv_iload_n hx hb dX11_substitute_79 rfl (lv_at hl_526 1 rfl) ?_
  refine lv_iadd hx hb dX11_substitute_80 ?_
  refine lv_topi (fun y_531 ey_531 => ?_)
  obtain rfl : y_531 = 4 := ey_531.trans (by decide)
  refine g_iald (e0 := 4) hx hb hK hP_516 2 0 rfl rfl (by omega) (by omega) dX11_substitute_81 ?_
  refine va_iald hx hb hK hP_516 1 0 rfl rfl (isB_in (hstB _ (by omega))) dX11_substitute_82 ?_
  refine g_iast (e0 := 4) hx hb hK hP_516 hD_516 hS_516 3 0 rfl rfl (by omega) (by omega) dX11_substitute_83 (fun H_532 locs_532 hP_532 hD_532 hS_532 => ?_)
  replace hP_532 : va_P E.1 vwCl [(o, .inr (12, [.int Mthrown, .int (nI rv), .ref a_user, .int (nI Musers), .ref a_owner, .int (nI Mowners), .ref a_tried, .int (nI Mtries), .ref a_id, .int (nI Mids), .ref a_tape, .int (nI Mtaped), .int (nI Mtaken), .int MisPlain, .int Mpermissions, .ref a_entries, .ref a_sizes, .ref a_key, .int MisOpen, .int Mfilter, .int (nI Mcollected), .ref a_bytes, .int Mobject, .int MisBack, .int (nI MoutSize), .ref a_out, .int (nI Msaid), .ref a_message, .ref a_digest, .ref a_words, .ref a_h, .ref a_v, .ref a_fillBytes, .ref a_sines, .ref a_roots, .ref a_box, .ref a_backBox, .ref a_roundKeys, .int (nI Mrounds), .ref a_state, .ref a_other, .ref a_stream, .ref a_work, .ref a_padded, .ref a_ownKey])), (a_box, .inl (E.2.1, 256, .inl Mbox)), (a_state, .inl (E.2.1, 16, .inl Mstate)), (a_other, .inl (E.2.1, 16, .inl (upd (upd (upd (upd (upd Mother 0 (Mbox (Mstate 0).toNatClampNeg)) 1 (Mbox (Mstate 5).toNatClampNeg)) 2 (Mbox (Mstate 10).toNatClampNeg)) 3 (Mbox (Mstate 15).toNatClampNeg)) 4 (Mbox (Mstate 4).toNatClampNeg))))] H_532 := hP_532
  replace hD_532 : va_D A [(o, .inr (12, [.int Mthrown, .int (nI rv), .ref a_user, .int (nI Musers), .ref a_owner, .int (nI Mowners), .ref a_tried, .int (nI Mtries), .ref a_id, .int (nI Mids), .ref a_tape, .int (nI Mtaped), .int (nI Mtaken), .int MisPlain, .int Mpermissions, .ref a_entries, .ref a_sizes, .ref a_key, .int MisOpen, .int Mfilter, .int (nI Mcollected), .ref a_bytes, .int Mobject, .int MisBack, .int (nI MoutSize), .ref a_out, .int (nI Msaid), .ref a_message, .ref a_digest, .ref a_words, .ref a_h, .ref a_v, .ref a_fillBytes, .ref a_sines, .ref a_roots, .ref a_box, .ref a_backBox, .ref a_roundKeys, .int (nI Mrounds), .ref a_state, .ref a_other, .ref a_stream, .ref a_work, .ref a_padded, .ref a_ownKey])), (a_box, .inl (E.2.1, 256, .inl Mbox)), (a_state, .inl (E.2.1, 16, .inl Mstate)), (a_other, .inl (E.2.1, 16, .inl (upd (upd (upd (upd (upd Mother 0 (Mbox (Mstate 0).toNatClampNeg)) 1 (Mbox (Mstate 5).toNatClampNeg)) 2 (Mbox (Mstate 10).toNatClampNeg)) 3 (Mbox (Mstate 15).toNatClampNeg)) 4 (Mbox (Mstate 4).toNatClampNeg))))] := hD_532
  clear hP_516 hD_516 hS_516
  refine lv_iinc (v := 1) (lv' := [(3, .int 1), (4, .int 1), (2, .int 1), (0, .ref o), (1, .int 0)]) hx hb dX11_substitute_84 hl_526 (k := 1) rfl (by decide) (by decide) rfl (fun ls_533 hl_533 => ?_)
  clear hl_526
  refine lv_goto (tgt := 9) hx hb dX11_substitute_87 (by decide) ?_
  refine lv_iload_n hx hb dX11_substitute_9 rfl (lv_at hl_533 0 rfl) ?_
  refine lv_iconst (v := 4) hx hb dX11_substitute_10 (by decide) ?_
  refine lv_icmp_ge (tgt := 90) hx hb dX11_substitute_11 (by decide) (fun c_534 => absurd c_534 (by decide)) (fun c_534 => ?_)
  refine lv_iload_n hx hb dX11_substitute_14 rfl (lv_at hl_533 4 rfl) ?_
  refine lv_if_eq (tgt := 28) hx hb dX11_substitute_15 (by decide) (fun c_535 => ?_) (fun c_535 => absurd (by decide) c_535)
  refine lv_iload_n hx hb dX11_substitute_28 rfl (lv_at hl_533 2 rfl) ?_
  refine lv_iload_n hx hb dX11_substitute_29 rfl (lv_at hl_533 0 rfl) ?_
  refine lv_iadd hx hb dX11_substitute_30 ?_
  refine lv_topi (fun y_536 ey_536 => ?_)
  obtain rfl : y_536 = 2 := ey_536.trans (by decide)
  refine lv_iconst (v := 4) hx hb dX11_substitute_31 (by decide) ?_
  refine lv_irem hx hb dX11_substitute_32 (by decide) ?_
  refine lv_topi (fun y_537 ey_537 => ?_)
  obtain rfl : y_537 = 2 := ey_537.trans (by decide)
  refine lv_istore (lv' := [(4, .int 2), (3, .int 1), (2, .int 1), (0, .ref o), (1, .int 0)]) hx hb dX11_substitute_33 hl_533 (by decide) rfl (fun ls_538 hl_538 => ?_)
  clear hl_533
  refine lv_aload_n hx hb dX11_substitute_35 rfl (lv_at hl_538 3 rfl) ?_
  refine va_get (D := E.1) (ci := 12) (v := .ref a_other) (C := RX11) (T := TX11) (N := 45) hx hb hts in_X11 hown hK hP_532 0 rfl rfl 40 (by decide) w_0 (fun _ h9 => h9) rfl dX11_substitute_36 ?_
  refine lv_iconst (v := 4) hx hb dX11_substitute_39 (by decide) ?_
  refine lv_iload_n hx hb dX11_substitute_40 rfl (lv_at hl_538 2 rfl) ?_
  refine lv_imul hx hb dX11_substitute_41 ?_
  refine lv_topi (fun y_539 ey_539 => ?_)
  obtain rfl : y_539 = 4 := ey_539.trans (by decide)
  refine lv_iload_n hx hb dX11_substitute_42 rfl (lv_at hl_538 1 rfl) ?_
  refine lv_iadd hx hb dX11_substitute_43 ?_
  refine lv_topi (fun y_540 ey_540 => ?_)
  obtain rfl : y_540 = 5 := ey_540.trans (by decide)
  refine lv_iload_n hx hb dX11_substitute_44 rfl (lv_at hl_538 4 rfl) ?_
  refine lv_if_eq (tgt := 67) hx hb dX11_substitute_45 (by decide) (fun c_541 => ?_) (fun c_541 => absurd (by decide) c_541)
  refine lv_aload_n hx hb dX11_substitute_67 rfl (lv_at hl_538 3 rfl) ?_
  refine va_get (D := E.1) (ci := 12) (v := .ref a_box) (C := RX11) (T := TX11) (N := 45) hx hb hts in_X11 hown hK hP_532 0 rfl rfl 35 (by decide) w_1 (fun _ h9 => h9) rfl dX11_substitute_68 ?_
  refine lv_aload_n hx hb dX11_substitute_71 rfl (lv_at hl_538 3 rfl) ?_
  refine va_get (D := E.1) (ci := 12) (v := .ref a_state) (C := RX11) (T := TX11) (N := 45) hx hb hts in_X11 hown hK hP_532 0 rfl rfl 39 (by decide) w_2 (fun _ h9 => h9) rfl dX11_substitute_72 ?_
  refine lv_iconst (v := 4) hx hb dX11_substitute_75 (by decide) ?_
  refine lv_iload hx hb dX11_substitute_76 (lv_at hl_538 0 rfl) ?_
  refine lv_imul hx hb dX11_substitute_78 ?_
  refine lv_topi (fun y_542 ey_542 => ?_)
  obtain rfl : y_542 = 8 := ey_542.trans (by decide)
  refine lv_iload_n hx hb dX11_substitute_79 rfl (lv_at hl_538 1 rfl) ?_
  refine lv_iadd hx hb dX11_substitute_80 ?_
  refine lv_topi (fun y_543 ey_543 => ?_)
  obtain rfl : y_543 = 9 := ey_543.trans (by decide)
  refine g_iald (e0 := 9) hx hb hK hP_532 2 0 rfl rfl (by omega) (by omega) dX11_substitute_81 ?_
  refine va_iald hx hb hK hP_532 1 0 rfl rfl (isB_in (hstB _ (by omega))) dX11_substitute_82 ?_
  refine g_iast (e0 := 5) hx hb hK hP_532 hD_532 hS_532 3 0 rfl rfl (by omega) (by omega) dX11_substitute_83 (fun H_544 locs_544 hP_544 hD_544 hS_544 => ?_)
  replace hP_544 : va_P E.1 vwCl [(o, .inr (12, [.int Mthrown, .int (nI rv), .ref a_user, .int (nI Musers), .ref a_owner, .int (nI Mowners), .ref a_tried, .int (nI Mtries), .ref a_id, .int (nI Mids), .ref a_tape, .int (nI Mtaped), .int (nI Mtaken), .int MisPlain, .int Mpermissions, .ref a_entries, .ref a_sizes, .ref a_key, .int MisOpen, .int Mfilter, .int (nI Mcollected), .ref a_bytes, .int Mobject, .int MisBack, .int (nI MoutSize), .ref a_out, .int (nI Msaid), .ref a_message, .ref a_digest, .ref a_words, .ref a_h, .ref a_v, .ref a_fillBytes, .ref a_sines, .ref a_roots, .ref a_box, .ref a_backBox, .ref a_roundKeys, .int (nI Mrounds), .ref a_state, .ref a_other, .ref a_stream, .ref a_work, .ref a_padded, .ref a_ownKey])), (a_box, .inl (E.2.1, 256, .inl Mbox)), (a_state, .inl (E.2.1, 16, .inl Mstate)), (a_other, .inl (E.2.1, 16, .inl (upd (upd (upd (upd (upd (upd Mother 0 (Mbox (Mstate 0).toNatClampNeg)) 1 (Mbox (Mstate 5).toNatClampNeg)) 2 (Mbox (Mstate 10).toNatClampNeg)) 3 (Mbox (Mstate 15).toNatClampNeg)) 4 (Mbox (Mstate 4).toNatClampNeg)) 5 (Mbox (Mstate 9).toNatClampNeg))))] H_544 := hP_544
  replace hD_544 : va_D A [(o, .inr (12, [.int Mthrown, .int (nI rv), .ref a_user, .int (nI Musers), .ref a_owner, .int (nI Mowners), .ref a_tried, .int (nI Mtries), .ref a_id, .int (nI Mids), .ref a_tape, .int (nI Mtaped), .int (nI Mtaken), .int MisPlain, .int Mpermissions, .ref a_entries, .ref a_sizes, .ref a_key, .int MisOpen, .int Mfilter, .int (nI Mcollected), .ref a_bytes, .int Mobject, .int MisBack, .int (nI MoutSize), .ref a_out, .int (nI Msaid), .ref a_message, .ref a_digest, .ref a_words, .ref a_h, .ref a_v, .ref a_fillBytes, .ref a_sines, .ref a_roots, .ref a_box, .ref a_backBox, .ref a_roundKeys, .int (nI Mrounds), .ref a_state, .ref a_other, .ref a_stream, .ref a_work, .ref a_padded, .ref a_ownKey])), (a_box, .inl (E.2.1, 256, .inl Mbox)), (a_state, .inl (E.2.1, 16, .inl Mstate)), (a_other, .inl (E.2.1, 16, .inl (upd (upd (upd (upd (upd (upd Mother 0 (Mbox (Mstate 0).toNatClampNeg)) 1 (Mbox (Mstate 5).toNatClampNeg)) 2 (Mbox (Mstate 10).toNatClampNeg)) 3 (Mbox (Mstate 15).toNatClampNeg)) 4 (Mbox (Mstate 4).toNatClampNeg)) 5 (Mbox (Mstate 9).toNatClampNeg))))] := hD_544
  clear hP_532 hD_532 hS_532
  refine lv_iinc (v := 2) (lv' := [(3, .int 2), (4, .int 2), (2, .int 1), (0, .ref o), (1, .int 0)]) hx hb dX11_substitute_84 hl_538 (k := 1) rfl (by decide) (by decide) rfl (fun ls_545 hl_545 => ?_)
  clear hl_538
  refine lv_goto (tgt := 9) hx hb dX11_substitute_87 (by decide) ?_
  refine lv_iload_n hx hb dX11_substitute_9 rfl (lv_at hl_545 0 rfl) ?_
  refine lv_iconst (v := 4) hx hb dX11_substitute_10 (by decide) ?_
  refine lv_icmp_ge (tgt := 90) hx hb dX11_substitute_11 (by decide) (fun c_546 => absurd c_546 (by decide)) (fun c_546 => ?_)
  refine lv_iload_n hx hb dX11_substitute_14 rfl (lv_at hl_545 4 rfl) ?_
  refine lv_if_eq (tgt := 28) hx hb dX11_substitute_15 (by decide) (fun c_547 => ?_) (fun c_547 => absurd (by decide) c_547)
  refine lv_iload_n hx hb dX11_substitute_28 rfl (lv_at hl_545 2 rfl) ?_
  refine lv_iload_n hx hb dX11_substitute_29 rfl (lv_at hl_545 0 rfl) ?_
  refine lv_iadd hx hb dX11_substitute_30 ?_
  refine lv_topi (fun y_548 ey_548 => ?_)
  obtain rfl : y_548 = 3 := ey_548.trans (by decide)
  refine lv_iconst (v := 4) hx hb dX11_substitute_31 (by decide) ?_
  refine lv_irem hx hb dX11_substitute_32 (by decide) ?_
  refine lv_topi (fun y_549 ey_549 => ?_)
  obtain rfl : y_549 = 3 := ey_549.trans (by decide)
  refine lv_istore (lv' := [(4, .int 3), (3, .int 2), (2, .int 1), (0, .ref o), (1, .int 0)]) hx hb dX11_substitute_33 hl_545 (by decide) rfl (fun ls_550 hl_550 => ?_)
  clear hl_545
  refine lv_aload_n hx hb dX11_substitute_35 rfl (lv_at hl_550 3 rfl) ?_
  refine va_get (D := E.1) (ci := 12) (v := .ref a_other) (C := RX11) (T := TX11) (N := 45) hx hb hts in_X11 hown hK hP_544 0 rfl rfl 40 (by decide) w_0 (fun _ h9 => h9) rfl dX11_substitute_36 ?_
  refine lv_iconst (v := 4) hx hb dX11_substitute_39 (by decide) ?_
  refine lv_iload_n hx hb dX11_substitute_40 rfl (lv_at hl_550 2 rfl) ?_
  refine lv_imul hx hb dX11_substitute_41 ?_
  refine lv_topi (fun y_551 ey_551 => ?_)
  obtain rfl : y_551 = 4 := ey_551.trans (by decide)
  refine lv_iload_n hx hb dX11_substitute_42 rfl (lv_at hl_550 1 rfl) ?_
  refine lv_iadd hx hb dX11_substitute_43 ?_
  refine lv_topi (fun y_552 ey_552 => ?_)
  obtain rfl : y_552 = 6 := ey_552.trans (by decide)
  refine lv_iload_n hx hb dX11_substitute_44 rfl (lv_at hl_550 4 rfl) ?_
  refine lv_if_eq (tgt := 67) hx hb dX11_substitute_45 (by decide) (fun c_553 => ?_) (fun c_553 => absurd (by decide) c_553)
  refine lv_aload_n hx hb dX11_substitute_67 rfl (lv_at hl_550 3 rfl) ?_
  refine va_get (D := E.1) (ci := 12) (v := .ref a_box) (C := RX11) (T := TX11) (N := 45) hx hb hts in_X11 hown hK hP_544 0 rfl rfl 35 (by decide) w_1 (fun _ h9 => h9) rfl dX11_substitute_68 ?_
  refine lv_aload_n hx hb dX11_substitute_71 rfl (lv_at hl_550 3 rfl) ?_
  refine va_get (D := E.1) (ci := 12) (v := .ref a_state) (C := RX11) (T := TX11) (N := 45) hx hb hts in_X11 hown hK hP_544 0 rfl rfl 39 (by decide) w_2 (fun _ h9 => h9) rfl dX11_substitute_72 ?_
  refine lv_iconst (v := 4) hx hb dX11_substitute_75 (by decide) ?_
  refine lv_iload hx hb dX11_substitute_76 (lv_at hl_550 0 rfl) ?_
  refine lv_imul hx hb dX11_substitute_78 ?_
  refine lv_topi (fun y_554 ey_554 => ?_)
  obtain rfl : y_554 = 12 := ey_554.trans (by decide)
  refine lv_iload_n hx hb dX11_substitute_79 rfl (lv_at hl_550 1 rfl) ?_
  refine lv_iadd hx hb dX11_substitute_80 ?_
  refine lv_topi (fun y_555 ey_555 => ?_)
  obtain rfl : y_555 = 14 := ey_555.trans (by decide)
  refine g_iald (e0 := 14) hx hb hK hP_544 2 0 rfl rfl (by omega) (by omega) dX11_substitute_81 ?_
  refine va_iald hx hb hK hP_544 1 0 rfl rfl (isB_in (hstB _ (by omega))) dX11_substitute_82 ?_
  refine g_iast (e0 := 6) hx hb hK hP_544 hD_544 hS_544 3 0 rfl rfl (by omega) (by omega) dX11_substitute_83 (fun H_556 locs_556 hP_556 hD_556 hS_556 => ?_)
  replace hP_556 : va_P E.1 vwCl [(o, .inr (12, [.int Mthrown, .int (nI rv), .ref a_user, .int (nI Musers), .ref a_owner, .int (nI Mowners), .ref a_tried, .int (nI Mtries), .ref a_id, .int (nI Mids), .ref a_tape, .int (nI Mtaped), .int (nI Mtaken), .int MisPlain, .int Mpermissions, .ref a_entries, .ref a_sizes, .ref a_key, .int MisOpen, .int Mfilter, .int (nI Mcollected), .ref a_bytes, .int Mobject, .int MisBack, .int (nI MoutSize), .ref a_out, .int (nI Msaid), .ref a_message, .ref a_digest, .ref a_words, .ref a_h, .ref a_v, .ref a_fillBytes, .ref a_sines, .ref a_roots, .ref a_box, .ref a_backBox, .ref a_roundKeys, .int (nI Mrounds), .ref a_state, .ref a_other, .ref a_stream, .ref a_work, .ref a_padded, .ref a_ownKey])), (a_box, .inl (E.2.1, 256, .inl Mbox)), (a_state, .inl (E.2.1, 16, .inl Mstate)), (a_other, .inl (E.2.1, 16, .inl (upd (upd (upd (upd (upd (upd (upd Mother 0 (Mbox (Mstate 0).toNatClampNeg)) 1 (Mbox (Mstate 5).toNatClampNeg)) 2 (Mbox (Mstate 10).toNatClampNeg)) 3 (Mbox (Mstate 15).toNatClampNeg)) 4 (Mbox (Mstate 4).toNatClampNeg)) 5 (Mbox (Mstate 9).toNatClampNeg)) 6 (Mbox (Mstate 14).toNatClampNeg))))] H_556 := hP_556
  replace hD_556 : va_D A [(o, .inr (12, [.int Mthrown, .int (nI rv), .ref a_user, .int (nI Musers), .ref a_owner, .int (nI Mowners), .ref a_tried, .int (nI Mtries), .ref a_id, .int (nI Mids), .ref a_tape, .int (nI Mtaped), .int (nI Mtaken), .int MisPlain, .int Mpermissions, .ref a_entries, .ref a_sizes, .ref a_key, .int MisOpen, .int Mfilter, .int (nI Mcollected), .ref a_bytes, .int Mobject, .int MisBack, .int (nI MoutSize), .ref a_out, .int (nI Msaid), .ref a_message, .ref a_digest, .ref a_words, .ref a_h, .ref a_v, .ref a_fillBytes, .ref a_sines, .ref a_roots, .ref a_box, .ref a_backBox, .ref a_roundKeys, .int (nI Mrounds), .ref a_state, .ref a_other, .ref a_stream, .ref a_work, .ref a_padded, .ref a_ownKey])), (a_box, .inl (E.2.1, 256, .inl Mbox)), (a_state, .inl (E.2.1, 16, .inl Mstate)), (a_other, .inl (E.2.1, 16, .inl (upd (upd (upd (upd (upd (upd (upd Mother 0 (Mbox (Mstate 0).toNatClampNeg)) 1 (Mbox (Mstate 5).toNatClampNeg)) 2 (Mbox (Mstate 10).toNatClampNeg)) 3 (Mbox (Mstate 15).toNatClampNeg)) 4 (Mbox (Mstate 4).toNatClampNeg)) 5 (Mbox (Mstate 9).toNatClampNeg)) 6 (Mbox (Mstate 14).toNatClampNeg))))] := hD_556
  clear hP_544 hD_544 hS_544
  refine lv_iinc (v := 3) (lv' := [(3, .int 3), (4, .int 3), (2, .int 1), (0, .ref o), (1, .int 0)]) hx hb dX11_substitute_84 hl_550 (k := 1) rfl (by decide) (by decide) rfl (fun ls_557 hl_557 => ?_)
  clear hl_550
  refine lv_goto (tgt := 9) hx hb dX11_substitute_87 (by decide) ?_
  refine lv_iload_n hx hb dX11_substitute_9 rfl (lv_at hl_557 0 rfl) ?_
  refine lv_iconst (v := 4) hx hb dX11_substitute_10 (by decide) ?_
  refine lv_icmp_ge (tgt := 90) hx hb dX11_substitute_11 (by decide) (fun c_558 => absurd c_558 (by decide)) (fun c_558 => ?_)
  refine lv_iload_n hx hb dX11_substitute_14 rfl (lv_at hl_557 4 rfl) ?_
  refine lv_if_eq (tgt := 28) hx hb dX11_substitute_15 (by decide) (fun c_559 => ?_) (fun c_559 => absurd (by decide) c_559)
  refine lv_iload_n hx hb dX11_substitute_28 rfl (lv_at hl_557 2 rfl) ?_
  refine lv_iload_n hx hb dX11_substitute_29 rfl (lv_at hl_557 0 rfl) ?_
  refine lv_iadd hx hb dX11_substitute_30 ?_
  refine lv_topi (fun y_560 ey_560 => ?_)
  obtain rfl : y_560 = 4 := ey_560.trans (by decide)
  refine lv_iconst (v := 4) hx hb dX11_substitute_31 (by decide) ?_
  refine lv_irem hx hb dX11_substitute_32 (by decide) ?_
  refine lv_topi (fun y_561 ey_561 => ?_)
  obtain rfl : y_561 = 0 := ey_561.trans (by decide)
  refine lv_istore (lv' := [(4, .int 0), (3, .int 3), (2, .int 1), (0, .ref o), (1, .int 0)]) hx hb dX11_substitute_33 hl_557 (by decide) rfl (fun ls_562 hl_562 => ?_)
  clear hl_557
  refine lv_aload_n hx hb dX11_substitute_35 rfl (lv_at hl_562 3 rfl) ?_
  refine va_get (D := E.1) (ci := 12) (v := .ref a_other) (C := RX11) (T := TX11) (N := 45) hx hb hts in_X11 hown hK hP_556 0 rfl rfl 40 (by decide) w_0 (fun _ h9 => h9) rfl dX11_substitute_36 ?_
  refine lv_iconst (v := 4) hx hb dX11_substitute_39 (by decide) ?_
  refine lv_iload_n hx hb dX11_substitute_40 rfl (lv_at hl_562 2 rfl) ?_
  refine lv_imul hx hb dX11_substitute_41 ?_
  refine lv_topi (fun y_563 ey_563 => ?_)
  obtain rfl : y_563 = 4 := ey_563.trans (by decide)
  refine lv_iload_n hx hb dX11_substitute_42 rfl (lv_at hl_562 1 rfl) ?_
  refine lv_iadd hx hb dX11_substitute_43 ?_
  refine lv_topi (fun y_564 ey_564 => ?_)
  obtain rfl : y_564 = 7 := ey_564.trans (by decide)
  refine lv_iload_n hx hb dX11_substitute_44 rfl (lv_at hl_562 4 rfl) ?_
  refine lv_if_eq (tgt := 67) hx hb dX11_substitute_45 (by decide) (fun c_565 => ?_) (fun c_565 => absurd (by decide) c_565)
  refine lv_aload_n hx hb dX11_substitute_67 rfl (lv_at hl_562 3 rfl) ?_
  refine va_get (D := E.1) (ci := 12) (v := .ref a_box) (C := RX11) (T := TX11) (N := 45) hx hb hts in_X11 hown hK hP_556 0 rfl rfl 35 (by decide) w_1 (fun _ h9 => h9) rfl dX11_substitute_68 ?_
  refine lv_aload_n hx hb dX11_substitute_71 rfl (lv_at hl_562 3 rfl) ?_
  refine va_get (D := E.1) (ci := 12) (v := .ref a_state) (C := RX11) (T := TX11) (N := 45) hx hb hts in_X11 hown hK hP_556 0 rfl rfl 39 (by decide) w_2 (fun _ h9 => h9) rfl dX11_substitute_72 ?_
  refine lv_iconst (v := 4) hx hb dX11_substitute_75 (by decide) ?_
  refine lv_iload hx hb dX11_substitute_76 (lv_at hl_562 0 rfl) ?_
  refine lv_imul hx hb dX11_substitute_78 ?_
  refine lv_topi (fun y_566 ey_566 => ?_)
  obtain rfl : y_566 = 0 := ey_566.trans (by decide)
  refine lv_iload_n hx hb dX11_substitute_79 rfl (lv_at hl_562 1 rfl) ?_
  refine lv_iadd hx hb dX11_substitute_80 ?_
  refine lv_topi (fun y_567 ey_567 => ?_)
  obtain rfl : y_567 = 3 := ey_567.trans (by decide)
  refine g_iald (e0 := 3) hx hb hK hP_556 2 0 rfl rfl (by omega) (by omega) dX11_substitute_81 ?_
  refine va_iald hx hb hK hP_556 1 0 rfl rfl (isB_in (hstB _ (by omega))) dX11_substitute_82 ?_
  refine g_iast (e0 := 7) hx hb hK hP_556 hD_556 hS_556 3 0 rfl rfl (by omega) (by omega) dX11_substitute_83 (fun H_568 locs_568 hP_568 hD_568 hS_568 => ?_)
  replace hP_568 : va_P E.1 vwCl [(o, .inr (12, [.int Mthrown, .int (nI rv), .ref a_user, .int (nI Musers), .ref a_owner, .int (nI Mowners), .ref a_tried, .int (nI Mtries), .ref a_id, .int (nI Mids), .ref a_tape, .int (nI Mtaped), .int (nI Mtaken), .int MisPlain, .int Mpermissions, .ref a_entries, .ref a_sizes, .ref a_key, .int MisOpen, .int Mfilter, .int (nI Mcollected), .ref a_bytes, .int Mobject, .int MisBack, .int (nI MoutSize), .ref a_out, .int (nI Msaid), .ref a_message, .ref a_digest, .ref a_words, .ref a_h, .ref a_v, .ref a_fillBytes, .ref a_sines, .ref a_roots, .ref a_box, .ref a_backBox, .ref a_roundKeys, .int (nI Mrounds), .ref a_state, .ref a_other, .ref a_stream, .ref a_work, .ref a_padded, .ref a_ownKey])), (a_box, .inl (E.2.1, 256, .inl Mbox)), (a_state, .inl (E.2.1, 16, .inl Mstate)), (a_other, .inl (E.2.1, 16, .inl (upd (upd (upd (upd (upd (upd (upd (upd Mother 0 (Mbox (Mstate 0).toNatClampNeg)) 1 (Mbox (Mstate 5).toNatClampNeg)) 2 (Mbox (Mstate 10).toNatClampNeg)) 3 (Mbox (Mstate 15).toNatClampNeg)) 4 (Mbox (Mstate 4).toNatClampNeg)) 5 (Mbox (Mstate 9).toNatClampNeg)) 6 (Mbox (Mstate 14).toNatClampNeg)) 7 (Mbox (Mstate 3).toNatClampNeg))))] H_568 := hP_568
  replace hD_568 : va_D A [(o, .inr (12, [.int Mthrown, .int (nI rv), .ref a_user, .int (nI Musers), .ref a_owner, .int (nI Mowners), .ref a_tried, .int (nI Mtries), .ref a_id, .int (nI Mids), .ref a_tape, .int (nI Mtaped), .int (nI Mtaken), .int MisPlain, .int Mpermissions, .ref a_entries, .ref a_sizes, .ref a_key, .int MisOpen, .int Mfilter, .int (nI Mcollected), .ref a_bytes, .int Mobject, .int MisBack, .int (nI MoutSize), .ref a_out, .int (nI Msaid), .ref a_message, .ref a_digest, .ref a_words, .ref a_h, .ref a_v, .ref a_fillBytes, .ref a_sines, .ref a_roots, .ref a_box, .ref a_backBox, .ref a_roundKeys, .int (nI Mrounds), .ref a_state, .ref a_other, .ref a_stream, .ref a_work, .ref a_padded, .ref a_ownKey])), (a_box, .inl (E.2.1, 256, .inl Mbox)), (a_state, .inl (E.2.1, 16, .inl Mstate)), (a_other, .inl (E.2.1, 16, .inl (upd (upd (upd (upd (upd (upd (upd (upd Mother 0 (Mbox (Mstate 0).toNatClampNeg)) 1 (Mbox (Mstate 5).toNatClampNeg)) 2 (Mbox (Mstate 10).toNatClampNeg)) 3 (Mbox (Mstate 15).toNatClampNeg)) 4 (Mbox (Mstate 4).toNatClampNeg)) 5 (Mbox (Mstate 9).toNatClampNeg)) 6 (Mbox (Mstate 14).toNatClampNeg)) 7 (Mbox (Mstate 3).toNatClampNeg))))] := hD_568
  clear hP_556 hD_556 hS_556
  refine lv_iinc (v := 4) (lv' := [(3, .int 4), (4, .int 0), (2, .int 1), (0, .ref o), (1, .int 0)]) hx hb dX11_substitute_84 hl_562 (k := 1) rfl (by decide) (by decide) rfl (fun ls_569 hl_569 => ?_)
  clear hl_562
  refine lv_goto (tgt := 9) hx hb dX11_substitute_87 (by decide) ?_
  refine lv_iload_n hx hb dX11_substitute_9 rfl (lv_at hl_569 0 rfl) ?_
  refine lv_iconst (v := 4) hx hb dX11_substitute_10 (by decide) ?_
  refine lv_icmp_ge (tgt := 90) hx hb dX11_substitute_11 (by decide) (fun c_570 => ?_) (fun c_570 => absurd (by decide) c_570)
  refine lv_iinc (v := 2) (lv' := [(2, .int 2), (3, .int 4), (4, .int 0), (0, .ref o), (1, .int 0)]) hx hb dX11_substitute_90 hl_569 (k := 2) rfl (by decide) (by decide) rfl (fun ls_571 hl_571 => ?_)
  clear hl_569
  refine lv_goto (tgt := 2) hx hb dX11_substitute_93 (by decide) ?_
  refine lv_iload_n hx hb dX11_substitute_2 rfl (lv_at hl_571 0 rfl) ?_
  refine lv_iconst (v := 4) hx hb dX11_substitute_3 (by decide) ?_
  refine lv_icmp_ge (tgt := 96) hx hb dX11_substitute_4 (by decide) (fun c_572 => absurd c_572 (by decide)) (fun c_572 => ?_)
  refine lv_iconst (v := 0) hx hb dX11_substitute_7 (by decide) ?_
  refine lv_istore_n (lv' := [(3, .int 0), (2, .int 2), (4, .int 0), (0, .ref o), (1, .int 0)]) hx hb dX11_substitute_8 rfl hl_571 (by decide) rfl (fun ls_573 hl_573 => ?_)
  clear hl_571
  refine lv_iload_n hx hb dX11_substitute_9 rfl (lv_at hl_573 0 rfl) ?_
  refine lv_iconst (v := 4) hx hb dX11_substitute_10 (by decide) ?_
  refine lv_icmp_ge (tgt := 90) hx hb dX11_substitute_11 (by decide) (fun c_574 => absurd c_574 (by decide)) (fun c_574 => ?_)
  refine lv_iload_n hx hb dX11_substitute_14 rfl (lv_at hl_573 4 rfl) ?_
  refine lv_if_eq (tgt := 28) hx hb dX11_substitute_15 (by decide) (fun c_575 => ?_) (fun c_575 => absurd (by decide) c_575)
  refine lv_iload_n hx hb dX11_substitute_28 rfl (lv_at hl_573 1 rfl) ?_
  refine lv_iload_n hx hb dX11_substitute_29 rfl (lv_at hl_573 0 rfl) ?_
  refine lv_iadd hx hb dX11_substitute_30 ?_
  refine lv_topi (fun y_576 ey_576 => ?_)
  obtain rfl : y_576 = 2 := ey_576.trans (by decide)
  refine lv_iconst (v := 4) hx hb dX11_substitute_31 (by decide) ?_
  refine lv_irem hx hb dX11_substitute_32 (by decide) ?_
  refine lv_topi (fun y_577 ey_577 => ?_)
  obtain rfl : y_577 = 2 := ey_577.trans (by decide)
  refine lv_istore (lv' := [(4, .int 2), (3, .int 0), (2, .int 2), (0, .ref o), (1, .int 0)]) hx hb dX11_substitute_33 hl_573 (by decide) rfl (fun ls_578 hl_578 => ?_)
  clear hl_573
  refine lv_aload_n hx hb dX11_substitute_35 rfl (lv_at hl_578 3 rfl) ?_
  refine va_get (D := E.1) (ci := 12) (v := .ref a_other) (C := RX11) (T := TX11) (N := 45) hx hb hts in_X11 hown hK hP_568 0 rfl rfl 40 (by decide) w_0 (fun _ h9 => h9) rfl dX11_substitute_36 ?_
  refine lv_iconst (v := 4) hx hb dX11_substitute_39 (by decide) ?_
  refine lv_iload_n hx hb dX11_substitute_40 rfl (lv_at hl_578 2 rfl) ?_
  refine lv_imul hx hb dX11_substitute_41 ?_
  refine lv_topi (fun y_579 ey_579 => ?_)
  obtain rfl : y_579 = 8 := ey_579.trans (by decide)
  refine lv_iload_n hx hb dX11_substitute_42 rfl (lv_at hl_578 1 rfl) ?_
  refine lv_iadd hx hb dX11_substitute_43 ?_
  refine lv_topi (fun y_580 ey_580 => ?_)
  obtain rfl : y_580 = 8 := ey_580.trans (by decide)
  refine lv_iload_n hx hb dX11_substitute_44 rfl (lv_at hl_578 4 rfl) ?_
  refine lv_if_eq (tgt := 67) hx hb dX11_substitute_45 (by decide) (fun c_581 => ?_) (fun c_581 => absurd (by decide) c_581)
  refine lv_aload_n hx hb dX11_substitute_67 rfl (lv_at hl_578 3 rfl) ?_
  refine va_get (D := E.1) (ci := 12) (v := .ref a_box) (C := RX11) (T := TX11) (N := 45) hx hb hts in_X11 hown hK hP_568 0 rfl rfl 35 (by decide) w_1 (fun _ h9 => h9) rfl dX11_substitute_68 ?_
  refine lv_aload_n hx hb dX11_substitute_71 rfl (lv_at hl_578 3 rfl) ?_
  refine va_get (D := E.1) (ci := 12) (v := .ref a_state) (C := RX11) (T := TX11) (N := 45) hx hb hts in_X11 hown hK hP_568 0 rfl rfl 39 (by decide) w_2 (fun _ h9 => h9) rfl dX11_substitute_72 ?_
  refine lv_iconst (v := 4) hx hb dX11_substitute_75 (by decide) ?_
  refine lv_iload hx hb dX11_substitute_76 (lv_at hl_578 0 rfl) ?_
  refine lv_imul hx hb dX11_substitute_78 ?_
  refine lv_topi (fun y_582 ey_582 => ?_)
  obtain rfl : y_582 = 8 := ey_582.trans (by decide)
  refine lv_iload_n hx hb dX11_substitute_79 rfl (lv_at hl_578 1 rfl) ?_
  refine lv_iadd hx hb dX11_substitute_80 ?_
  refine lv_topi (fun y_583 ey_583 => ?_)
  obtain rfl : y_583 = 8 := ey_583.trans (by decide)
  refine g_iald (e0 := 8) hx hb hK hP_568 2 0 rfl rfl (by omega) (by omega) dX11_substitute_81 ?_
  refine va_iald hx hb hK hP_568 1 0 rfl rfl (isB_in (hstB _ (by omega))) dX11_substitute_82 ?_
  refine g_iast (e0 := 8) hx hb hK hP_568 hD_568 hS_568 3 0 rfl rfl (by omega) (by omega) dX11_substitute_83 (fun H_584 locs_584 hP_584 hD_584 hS_584 => ?_)
  replace hP_584 : va_P E.1 vwCl [(o, .inr (12, [.int Mthrown, .int (nI rv), .ref a_user, .int (nI Musers), .ref a_owner, .int (nI Mowners), .ref a_tried, .int (nI Mtries), .ref a_id, .int (nI Mids), .ref a_tape, .int (nI Mtaped), .int (nI Mtaken), .int MisPlain, .int Mpermissions, .ref a_entries, .ref a_sizes, .ref a_key, .int MisOpen, .int Mfilter, .int (nI Mcollected), .ref a_bytes, .int Mobject, .int MisBack, .int (nI MoutSize), .ref a_out, .int (nI Msaid), .ref a_message, .ref a_digest, .ref a_words, .ref a_h, .ref a_v, .ref a_fillBytes, .ref a_sines, .ref a_roots, .ref a_box, .ref a_backBox, .ref a_roundKeys, .int (nI Mrounds), .ref a_state, .ref a_other, .ref a_stream, .ref a_work, .ref a_padded, .ref a_ownKey])), (a_box, .inl (E.2.1, 256, .inl Mbox)), (a_state, .inl (E.2.1, 16, .inl Mstate)), (a_other, .inl (E.2.1, 16, .inl (upd (upd (upd (upd (upd (upd (upd (upd (upd Mother 0 (Mbox (Mstate 0).toNatClampNeg)) 1 (Mbox (Mstate 5).toNatClampNeg)) 2 (Mbox (Mstate 10).toNatClampNeg)) 3 (Mbox (Mstate 15).toNatClampNeg)) 4 (Mbox (Mstate 4).toNatClampNeg)) 5 (Mbox (Mstate 9).toNatClampNeg)) 6 (Mbox (Mstate 14).toNatClampNeg)) 7 (Mbox (Mstate 3).toNatClampNeg)) 8 (Mbox (Mstate 8).toNatClampNeg))))] H_584 := hP_584
  replace hD_584 : va_D A [(o, .inr (12, [.int Mthrown, .int (nI rv), .ref a_user, .int (nI Musers), .ref a_owner, .int (nI Mowners), .ref a_tried, .int (nI Mtries), .ref a_id, .int (nI Mids), .ref a_tape, .int (nI Mtaped), .int (nI Mtaken), .int MisPlain, .int Mpermissions, .ref a_entries, .ref a_sizes, .ref a_key, .int MisOpen, .int Mfilter, .int (nI Mcollected), .ref a_bytes, .int Mobject, .int MisBack, .int (nI MoutSize), .ref a_out, .int (nI Msaid), .ref a_message, .ref a_digest, .ref a_words, .ref a_h, .ref a_v, .ref a_fillBytes, .ref a_sines, .ref a_roots, .ref a_box, .ref a_backBox, .ref a_roundKeys, .int (nI Mrounds), .ref a_state, .ref a_other, .ref a_stream, .ref a_work, .ref a_padded, .ref a_ownKey])), (a_box, .inl (E.2.1, 256, .inl Mbox)), (a_state, .inl (E.2.1, 16, .inl Mstate)), (a_other, .inl (E.2.1, 16, .inl (upd (upd (upd (upd (upd (upd (upd (upd (upd Mother 0 (Mbox (Mstate 0).toNatClampNeg)) 1 (Mbox (Mstate 5).toNatClampNeg)) 2 (Mbox (Mstate 10).toNatClampNeg)) 3 (Mbox (Mstate 15).toNatClampNeg)) 4 (Mbox (Mstate 4).toNatClampNeg)) 5 (Mbox (Mstate 9).toNatClampNeg)) 6 (Mbox (Mstate 14).toNatClampNeg)) 7 (Mbox (Mstate 3).toNatClampNeg)) 8 (Mbox (Mstate 8).toNatClampNeg))))] := hD_584
  clear hP_568 hD_568 hS_568
  refine lv_iinc (v := 1) (lv' := [(3, .int 1), (4, .int 2), (2, .int 2), (0, .ref o), (1, .int 0)]) hx hb dX11_substitute_84 hl_578 (k := 1) rfl (by decide) (by decide) rfl (fun ls_585 hl_585 => ?_)
  clear hl_578
  refine lv_goto (tgt := 9) hx hb dX11_substitute_87 (by decide) ?_
  refine lv_iload_n hx hb dX11_substitute_9 rfl (lv_at hl_585 0 rfl) ?_
  refine lv_iconst (v := 4) hx hb dX11_substitute_10 (by decide) ?_
  refine lv_icmp_ge (tgt := 90) hx hb dX11_substitute_11 (by decide) (fun c_586 => absurd c_586 (by decide)) (fun c_586 => ?_)
  refine lv_iload_n hx hb dX11_substitute_14 rfl (lv_at hl_585 4 rfl) ?_
  refine lv_if_eq (tgt := 28) hx hb dX11_substitute_15 (by decide) (fun c_587 => ?_) (fun c_587 => absurd (by decide) c_587)
  refine lv_iload_n hx hb dX11_substitute_28 rfl (lv_at hl_585 2 rfl) ?_
  refine lv_iload_n hx hb dX11_substitute_29 rfl (lv_at hl_585 0 rfl) ?_
  refine lv_iadd hx hb dX11_substitute_30 ?_
  refine lv_topi (fun y_588 ey_588 => ?_)
  obtain rfl : y_588 = 3 := ey_588.trans (by decide)
  refine lv_iconst (v := 4) hx hb dX11_substitute_31 (by decide) ?_
  refine lv_irem hx hb dX11_substitute_32 (by decide) ?_
  refine lv_topi (fun y_589 ey_589 => ?_)
  obtain rfl : y_589 = 3 := ey_589.trans (by decide)
  refine lv_istore (lv' := [(4, .int 3), (3, .int 1), (2, .int 2), (0, .ref o), (1, .int 0)]) hx hb dX11_substitute_33 hl_585 (by decide) rfl (fun ls_590 hl_590 => ?_)
  clear hl_585
  refine lv_aload_n hx hb dX11_substitute_35 rfl (lv_at hl_590 3 rfl) ?_
  refine va_get (D := E.1) (ci := 12) (v := .ref a_other) (C := RX11) (T := TX11) (N := 45) hx hb hts in_X11 hown hK hP_584 0 rfl rfl 40 (by decide) w_0 (fun _ h9 => h9) rfl dX11_substitute_36 ?_
  refine lv_iconst (v := 4) hx hb dX11_substitute_39 (by decide) ?_
  refine lv_iload_n hx hb dX11_substitute_40 rfl (lv_at hl_590 2 rfl) ?_
  refine lv_imul hx hb dX11_substitute_41 ?_
  refine lv_topi (fun y_591 ey_591 => ?_)
  obtain rfl : y_591 = 8 := ey_591.trans (by decide)
  refine lv_iload_n hx hb dX11_substitute_42 rfl (lv_at hl_590 1 rfl) ?_
  refine lv_iadd hx hb dX11_substitute_43 ?_
  refine lv_topi (fun y_592 ey_592 => ?_)
  obtain rfl : y_592 = 9 := ey_592.trans (by decide)
  refine lv_iload_n hx hb dX11_substitute_44 rfl (lv_at hl_590 4 rfl) ?_
  refine lv_if_eq (tgt := 67) hx hb dX11_substitute_45 (by decide) (fun c_593 => ?_) (fun c_593 => absurd (by decide) c_593)
  refine lv_aload_n hx hb dX11_substitute_67 rfl (lv_at hl_590 3 rfl) ?_
  refine va_get (D := E.1) (ci := 12) (v := .ref a_box) (C := RX11) (T := TX11) (N := 45) hx hb hts in_X11 hown hK hP_584 0 rfl rfl 35 (by decide) w_1 (fun _ h9 => h9) rfl dX11_substitute_68 ?_
  refine lv_aload_n hx hb dX11_substitute_71 rfl (lv_at hl_590 3 rfl) ?_
  refine va_get (D := E.1) (ci := 12) (v := .ref a_state) (C := RX11) (T := TX11) (N := 45) hx hb hts in_X11 hown hK hP_584 0 rfl rfl 39 (by decide) w_2 (fun _ h9 => h9) rfl dX11_substitute_72 ?_
  refine lv_iconst (v := 4) hx hb dX11_substitute_75 (by decide) ?_
  refine lv_iload hx hb dX11_substitute_76 (lv_at hl_590 0 rfl) ?_
  refine lv_imul hx hb dX11_substitute_78 ?_
  refine lv_topi (fun y_594 ey_594 => ?_)
  obtain rfl : y_594 = 12 := ey_594.trans (by decide)
  refine lv_iload_n hx hb dX11_substitute_79 rfl (lv_at hl_590 1 rfl) ?_
  refine lv_iadd hx hb dX11_substitute_80 ?_
  refine lv_topi (fun y_595 ey_595 => ?_)
  obtain rfl : y_595 = 13 := ey_595.trans (by decide)
  refine g_iald (e0 := 13) hx hb hK hP_584 2 0 rfl rfl (by omega) (by omega) dX11_substitute_81 ?_
  refine va_iald hx hb hK hP_584 1 0 rfl rfl (isB_in (hstB _ (by omega))) dX11_substitute_82 ?_
  refine g_iast (e0 := 9) hx hb hK hP_584 hD_584 hS_584 3 0 rfl rfl (by omega) (by omega) dX11_substitute_83 (fun H_596 locs_596 hP_596 hD_596 hS_596 => ?_)
  replace hP_596 : va_P E.1 vwCl [(o, .inr (12, [.int Mthrown, .int (nI rv), .ref a_user, .int (nI Musers), .ref a_owner, .int (nI Mowners), .ref a_tried, .int (nI Mtries), .ref a_id, .int (nI Mids), .ref a_tape, .int (nI Mtaped), .int (nI Mtaken), .int MisPlain, .int Mpermissions, .ref a_entries, .ref a_sizes, .ref a_key, .int MisOpen, .int Mfilter, .int (nI Mcollected), .ref a_bytes, .int Mobject, .int MisBack, .int (nI MoutSize), .ref a_out, .int (nI Msaid), .ref a_message, .ref a_digest, .ref a_words, .ref a_h, .ref a_v, .ref a_fillBytes, .ref a_sines, .ref a_roots, .ref a_box, .ref a_backBox, .ref a_roundKeys, .int (nI Mrounds), .ref a_state, .ref a_other, .ref a_stream, .ref a_work, .ref a_padded, .ref a_ownKey])), (a_box, .inl (E.2.1, 256, .inl Mbox)), (a_state, .inl (E.2.1, 16, .inl Mstate)), (a_other, .inl (E.2.1, 16, .inl (upd (upd (upd (upd (upd (upd (upd (upd (upd (upd Mother 0 (Mbox (Mstate 0).toNatClampNeg)) 1 (Mbox (Mstate 5).toNatClampNeg)) 2 (Mbox (Mstate 10).toNatClampNeg)) 3 (Mbox (Mstate 15).toNatClampNeg)) 4 (Mbox (Mstate 4).toNatClampNeg)) 5 (Mbox (Mstate 9).toNatClampNeg)) 6 (Mbox (Mstate 14).toNatClampNeg)) 7 (Mbox (Mstate 3).toNatClampNeg)) 8 (Mbox (Mstate 8).toNatClampNeg)) 9 (Mbox (Mstate 13).toNatClampNeg))))] H_596 := hP_596
  replace hD_596 : va_D A [(o, .inr (12, [.int Mthrown, .int (nI rv), .ref a_user, .int (nI Musers), .ref a_owner, .int (nI Mowners), .ref a_tried, .int (nI Mtries), .ref a_id, .int (nI Mids), .ref a_tape, .int (nI Mtaped), .int (nI Mtaken), .int MisPlain, .int Mpermissions, .ref a_entries, .ref a_sizes, .ref a_key, .int MisOpen, .int Mfilter, .int (nI Mcollected), .ref a_bytes, .int Mobject, .int MisBack, .int (nI MoutSize), .ref a_out, .int (nI Msaid), .ref a_message, .ref a_digest, .ref a_words, .ref a_h, .ref a_v, .ref a_fillBytes, .ref a_sines, .ref a_roots, .ref a_box, .ref a_backBox, .ref a_roundKeys, .int (nI Mrounds), .ref a_state, .ref a_other, .ref a_stream, .ref a_work, .ref a_padded, .ref a_ownKey])), (a_box, .inl (E.2.1, 256, .inl Mbox)), (a_state, .inl (E.2.1, 16, .inl Mstate)), (a_other, .inl (E.2.1, 16, .inl (upd (upd (upd (upd (upd (upd (upd (upd (upd (upd Mother 0 (Mbox (Mstate 0).toNatClampNeg)) 1 (Mbox (Mstate 5).toNatClampNeg)) 2 (Mbox (Mstate 10).toNatClampNeg)) 3 (Mbox (Mstate 15).toNatClampNeg)) 4 (Mbox (Mstate 4).toNatClampNeg)) 5 (Mbox (Mstate 9).toNatClampNeg)) 6 (Mbox (Mstate 14).toNatClampNeg)) 7 (Mbox (Mstate 3).toNatClampNeg)) 8 (Mbox (Mstate 8).toNatClampNeg)) 9 (Mbox (Mstate 13).toNatClampNeg))))] := hD_596
  clear hP_584 hD_584 hS_584
  refine lv_iinc (v := 2) (lv' := [(3, .int 2), (4, .int 3), (2, .int 2), (0, .ref o), (1, .int 0)]) hx hb dX11_substitute_84 hl_590 (k := 1) rfl (by decide) (by decide) rfl (fun ls_597 hl_597 => ?_)
  clear hl_590
  refine lv_goto (tgt := 9) hx hb dX11_substitute_87 (by decide) ?_
  refine lv_iload_n hx hb dX11_substitute_9 rfl (lv_at hl_597 0 rfl) ?_
  refine lv_iconst (v := 4) hx hb dX11_substitute_10 (by decide) ?_
  refine lv_icmp_ge (tgt := 90) hx hb dX11_substitute_11 (by decide) (fun c_598 => absurd c_598 (by decide)) (fun c_598 => ?_)
  refine lv_iload_n hx hb dX11_substitute_14 rfl (lv_at hl_597 4 rfl) ?_
  refine lv_if_eq (tgt := 28) hx hb dX11_substitute_15 (by decide) (fun c_599 => ?_) (fun c_599 => absurd (by decide) c_599)
  refine lv_iload_n hx hb dX11_substitute_28 rfl (lv_at hl_597 2 rfl) ?_
  refine lv_iload_n hx hb dX11_substitute_29 rfl (lv_at hl_597 0 rfl) ?_
  refine lv_iadd hx hb dX11_substitute_30 ?_
  refine lv_topi (fun y_600 ey_600 => ?_)
  obtain rfl : y_600 = 4 := ey_600.trans (by decide)
  refine lv_iconst (v := 4) hx hb dX11_substitute_31 (by decide) ?_
  refine lv_irem hx hb dX11_substitute_32 (by decide) ?_
  refine lv_topi (fun y_601 ey_601 => ?_)
  obtain rfl : y_601 = 0 := ey_601.trans (by decide)
  refine lv_istore (lv' := [(4, .int 0), (3, .int 2), (2, .int 2), (0, .ref o), (1, .int 0)]) hx hb dX11_substitute_33 hl_597 (by decide) rfl (fun ls_602 hl_602 => ?_)
  clear hl_597
  refine lv_aload_n hx hb dX11_substitute_35 rfl (lv_at hl_602 3 rfl) ?_
  refine va_get (D := E.1) (ci := 12) (v := .ref a_other) (C := RX11) (T := TX11) (N := 45) hx hb hts in_X11 hown hK hP_596 0 rfl rfl 40 (by decide) w_0 (fun _ h9 => h9) rfl dX11_substitute_36 ?_
  refine lv_iconst (v := 4) hx hb dX11_substitute_39 (by decide) ?_
  refine lv_iload_n hx hb dX11_substitute_40 rfl (lv_at hl_602 2 rfl) ?_
  refine lv_imul hx hb dX11_substitute_41 ?_
  refine lv_topi (fun y_603 ey_603 => ?_)
  obtain rfl : y_603 = 8 := ey_603.trans (by decide)
  refine lv_iload_n hx hb dX11_substitute_42 rfl (lv_at hl_602 1 rfl) ?_
  refine lv_iadd hx hb dX11_substitute_43 ?_
  refine lv_topi (fun y_604 ey_604 => ?_)
  obtain rfl : y_604 = 10 := ey_604.trans (by decide)
  refine lv_iload_n hx hb dX11_substitute_44 rfl (lv_at hl_602 4 rfl) ?_
  refine lv_if_eq (tgt := 67) hx hb dX11_substitute_45 (by decide) (fun c_605 => ?_) (fun c_605 => absurd (by decide) c_605)
  refine lv_aload_n hx hb dX11_substitute_67 rfl (lv_at hl_602 3 rfl) ?_
  refine va_get (D := E.1) (ci := 12) (v := .ref a_box) (C := RX11) (T := TX11) (N := 45) hx hb hts in_X11 hown hK hP_596 0 rfl rfl 35 (by decide) w_1 (fun _ h9 => h9) rfl dX11_substitute_68 ?_
  refine lv_aload_n hx hb dX11_substitute_71 rfl (lv_at hl_602 3 rfl) ?_
  refine va_get (D := E.1) (ci := 12) (v := .ref a_state) (C := RX11) (T := TX11) (N := 45) hx hb hts in_X11 hown hK hP_596 0 rfl rfl 39 (by decide) w_2 (fun _ h9 => h9) rfl dX11_substitute_72 ?_
  refine lv_iconst (v := 4) hx hb dX11_substitute_75 (by decide) ?_
  refine lv_iload hx hb dX11_substitute_76 (lv_at hl_602 0 rfl) ?_
  refine lv_imul hx hb dX11_substitute_78 ?_
  refine lv_topi (fun y_606 ey_606 => ?_)
  obtain rfl : y_606 = 0 := ey_606.trans (by decide)
  refine lv_iload_n hx hb dX11_substitute_79 rfl (lv_at hl_602 1 rfl) ?_
  refine lv_iadd hx hb dX11_substitute_80 ?_
  refine lv_topi (fun y_607 ey_607 => ?_)
  obtain rfl : y_607 = 2 := ey_607.trans (by decide)
  refine g_iald (e0 := 2) hx hb hK hP_596 2 0 rfl rfl (by omega) (by omega) dX11_substitute_81 ?_
  refine va_iald hx hb hK hP_596 1 0 rfl rfl (isB_in (hstB _ (by omega))) dX11_substitute_82 ?_
  refine g_iast (e0 := 10) hx hb hK hP_596 hD_596 hS_596 3 0 rfl rfl (by omega) (by omega) dX11_substitute_83 (fun H_608 locs_608 hP_608 hD_608 hS_608 => ?_)
  replace hP_608 : va_P E.1 vwCl [(o, .inr (12, [.int Mthrown, .int (nI rv), .ref a_user, .int (nI Musers), .ref a_owner, .int (nI Mowners), .ref a_tried, .int (nI Mtries), .ref a_id, .int (nI Mids), .ref a_tape, .int (nI Mtaped), .int (nI Mtaken), .int MisPlain, .int Mpermissions, .ref a_entries, .ref a_sizes, .ref a_key, .int MisOpen, .int Mfilter, .int (nI Mcollected), .ref a_bytes, .int Mobject, .int MisBack, .int (nI MoutSize), .ref a_out, .int (nI Msaid), .ref a_message, .ref a_digest, .ref a_words, .ref a_h, .ref a_v, .ref a_fillBytes, .ref a_sines, .ref a_roots, .ref a_box, .ref a_backBox, .ref a_roundKeys, .int (nI Mrounds), .ref a_state, .ref a_other, .ref a_stream, .ref a_work, .ref a_padded, .ref a_ownKey])), (a_box, .inl (E.2.1, 256, .inl Mbox)), (a_state, .inl (E.2.1, 16, .inl Mstate)), (a_other, .inl (E.2.1, 16, .inl (upd (upd (upd (upd (upd (upd (upd (upd (upd (upd (upd Mother 0 (Mbox (Mstate 0).toNatClampNeg)) 1 (Mbox (Mstate 5).toNatClampNeg)) 2 (Mbox (Mstate 10).toNatClampNeg)) 3 (Mbox (Mstate 15).toNatClampNeg)) 4 (Mbox (Mstate 4).toNatClampNeg)) 5 (Mbox (Mstate 9).toNatClampNeg)) 6 (Mbox (Mstate 14).toNatClampNeg)) 7 (Mbox (Mstate 3).toNatClampNeg)) 8 (Mbox (Mstate 8).toNatClampNeg)) 9 (Mbox (Mstate 13).toNatClampNeg)) 10 (Mbox (Mstate 2).toNatClampNeg))))] H_608 := hP_608
  replace hD_608 : va_D A [(o, .inr (12, [.int Mthrown, .int (nI rv), .ref a_user, .int (nI Musers), .ref a_owner, .int (nI Mowners), .ref a_tried, .int (nI Mtries), .ref a_id, .int (nI Mids), .ref a_tape, .int (nI Mtaped), .int (nI Mtaken), .int MisPlain, .int Mpermissions, .ref a_entries, .ref a_sizes, .ref a_key, .int MisOpen, .int Mfilter, .int (nI Mcollected), .ref a_bytes, .int Mobject, .int MisBack, .int (nI MoutSize), .ref a_out, .int (nI Msaid), .ref a_message, .ref a_digest, .ref a_words, .ref a_h, .ref a_v, .ref a_fillBytes, .ref a_sines, .ref a_roots, .ref a_box, .ref a_backBox, .ref a_roundKeys, .int (nI Mrounds), .ref a_state, .ref a_other, .ref a_stream, .ref a_work, .ref a_padded, .ref a_ownKey])), (a_box, .inl (E.2.1, 256, .inl Mbox)), (a_state, .inl (E.2.1, 16, .inl Mstate)), (a_other, .inl (E.2.1, 16, .inl (upd (upd (upd (upd (upd (upd (upd (upd (upd (upd (upd Mother 0 (Mbox (Mstate 0).toNatClampNeg)) 1 (Mbox (Mstate 5).toNatClampNeg)) 2 (Mbox (Mstate 10).toNatClampNeg)) 3 (Mbox (Mstate 15).toNatClampNeg)) 4 (Mbox (Mstate 4).toNatClampNeg)) 5 (Mbox (Mstate 9).toNatClampNeg)) 6 (Mbox (Mstate 14).toNatClampNeg)) 7 (Mbox (Mstate 3).toNatClampNeg)) 8 (Mbox (Mstate 8).toNatClampNeg)) 9 (Mbox (Mstate 13).toNatClampNeg)) 10 (Mbox (Mstate 2).toNatClampNeg))))] := hD_608
  clear hP_596 hD_596 hS_596
  refine lv_iinc (v := 3) (lv' := [(3, .int 3), (4, .int 0), (2, .int 2), (0, .ref o), (1, .int 0)]) hx hb dX11_substitute_84 hl_602 (k := 1) rfl (by decide) (by decide) rfl (fun ls_609 hl_609 => ?_)
  clear hl_602
  refine lv_goto (tgt := 9) hx hb dX11_substitute_87 (by decide) ?_
  refine lv_iload_n hx hb dX11_substitute_9 rfl (lv_at hl_609 0 rfl) ?_
  refine lv_iconst (v := 4) hx hb dX11_substitute_10 (by decide) ?_
  refine lv_icmp_ge (tgt := 90) hx hb dX11_substitute_11 (by decide) (fun c_610 => absurd c_610 (by decide)) (fun c_610 => ?_)
  refine lv_iload_n hx hb dX11_substitute_14 rfl (lv_at hl_609 4 rfl) ?_
  refine lv_if_eq (tgt := 28) hx hb dX11_substitute_15 (by decide) (fun c_611 => ?_) (fun c_611 => absurd (by decide) c_611)
  refine lv_iload_n hx hb dX11_substitute_28 rfl (lv_at hl_609 2 rfl) ?_
  refine lv_iload_n hx hb dX11_substitute_29 rfl (lv_at hl_609 0 rfl) ?_
  refine lv_iadd hx hb dX11_substitute_30 ?_
  refine lv_topi (fun y_612 ey_612 => ?_)
  obtain rfl : y_612 = 5 := ey_612.trans (by decide)
  refine lv_iconst (v := 4) hx hb dX11_substitute_31 (by decide) ?_
  refine lv_irem hx hb dX11_substitute_32 (by decide) ?_
  refine lv_topi (fun y_613 ey_613 => ?_)
  obtain rfl : y_613 = 1 := ey_613.trans (by decide)
  refine lv_istore (lv' := [(4, .int 1), (3, .int 3), (2, .int 2), (0, .ref o), (1, .int 0)]) hx hb dX11_substitute_33 hl_609 (by decide) rfl (fun ls_614 hl_614 => ?_)
  clear hl_609
  refine lv_aload_n hx hb dX11_substitute_35 rfl (lv_at hl_614 3 rfl) ?_
  refine va_get (D := E.1) (ci := 12) (v := .ref a_other) (C := RX11) (T := TX11) (N := 45) hx hb hts in_X11 hown hK hP_608 0 rfl rfl 40 (by decide) w_0 (fun _ h9 => h9) rfl dX11_substitute_36 ?_
  refine lv_iconst (v := 4) hx hb dX11_substitute_39 (by decide) ?_
  refine lv_iload_n hx hb dX11_substitute_40 rfl (lv_at hl_614 2 rfl) ?_
  refine lv_imul hx hb dX11_substitute_41 ?_
  refine lv_topi (fun y_615 ey_615 => ?_)
  obtain rfl : y_615 = 8 := ey_615.trans (by decide)
  refine lv_iload_n hx hb dX11_substitute_42 rfl (lv_at hl_614 1 rfl) ?_
  refine lv_iadd hx hb dX11_substitute_43 ?_
  refine lv_topi (fun y_616 ey_616 => ?_)
  obtain rfl : y_616 = 11 := ey_616.trans (by decide)
  refine lv_iload_n hx hb dX11_substitute_44 rfl (lv_at hl_614 4 rfl) ?_
  refine lv_if_eq (tgt := 67) hx hb dX11_substitute_45 (by decide) (fun c_617 => ?_) (fun c_617 => absurd (by decide) c_617)
  refine lv_aload_n hx hb dX11_substitute_67 rfl (lv_at hl_614 3 rfl) ?_
  refine va_get (D := E.1) (ci := 12) (v := .ref a_box) (C := RX11) (T := TX11) (N := 45) hx hb hts in_X11 hown hK hP_608 0 rfl rfl 35 (by decide) w_1 (fun _ h9 => h9) rfl dX11_substitute_68 ?_
  refine lv_aload_n hx hb dX11_substitute_71 rfl (lv_at hl_614 3 rfl) ?_
  refine va_get (D := E.1) (ci := 12) (v := .ref a_state) (C := RX11) (T := TX11) (N := 45) hx hb hts in_X11 hown hK hP_608 0 rfl rfl 39 (by decide) w_2 (fun _ h9 => h9) rfl dX11_substitute_72 ?_
  refine lv_iconst (v := 4) hx hb dX11_substitute_75 (by decide) ?_
  refine lv_iload hx hb dX11_substitute_76 (lv_at hl_614 0 rfl) ?_
  refine lv_imul hx hb dX11_substitute_78 ?_
  refine lv_topi (fun y_618 ey_618 => ?_)
  obtain rfl : y_618 = 4 := ey_618.trans (by decide)
  refine lv_iload_n hx hb dX11_substitute_79 rfl (lv_at hl_614 1 rfl) ?_
  refine lv_iadd hx hb dX11_substitute_80 ?_
  refine lv_topi (fun y_619 ey_619 => ?_)
  obtain rfl : y_619 = 7 := ey_619.trans (by decide)
  refine g_iald (e0 := 7) hx hb hK hP_608 2 0 rfl rfl (by omega) (by omega) dX11_substitute_81 ?_
  refine va_iald hx hb hK hP_608 1 0 rfl rfl (isB_in (hstB _ (by omega))) dX11_substitute_82 ?_
  refine g_iast (e0 := 11) hx hb hK hP_608 hD_608 hS_608 3 0 rfl rfl (by omega) (by omega) dX11_substitute_83 (fun H_620 locs_620 hP_620 hD_620 hS_620 => ?_)
  replace hP_620 : va_P E.1 vwCl [(o, .inr (12, [.int Mthrown, .int (nI rv), .ref a_user, .int (nI Musers), .ref a_owner, .int (nI Mowners), .ref a_tried, .int (nI Mtries), .ref a_id, .int (nI Mids), .ref a_tape, .int (nI Mtaped), .int (nI Mtaken), .int MisPlain, .int Mpermissions, .ref a_entries, .ref a_sizes, .ref a_key, .int MisOpen, .int Mfilter, .int (nI Mcollected), .ref a_bytes, .int Mobject, .int MisBack, .int (nI MoutSize), .ref a_out, .int (nI Msaid), .ref a_message, .ref a_digest, .ref a_words, .ref a_h, .ref a_v, .ref a_fillBytes, .ref a_sines, .ref a_roots, .ref a_box, .ref a_backBox, .ref a_roundKeys, .int (nI Mrounds), .ref a_state, .ref a_other, .ref a_stream, .ref a_work, .ref a_padded, .ref a_ownKey])), (a_box, .inl (E.2.1, 256, .inl Mbox)), (a_state, .inl (E.2.1, 16, .inl Mstate)), (a_other, .inl (E.2.1, 16, .inl (upd (upd (upd (upd (upd (upd (upd (upd (upd (upd (upd (upd Mother 0 (Mbox (Mstate 0).toNatClampNeg)) 1 (Mbox (Mstate 5).toNatClampNeg)) 2 (Mbox (Mstate 10).toNatClampNeg)) 3 (Mbox (Mstate 15).toNatClampNeg)) 4 (Mbox (Mstate 4).toNatClampNeg)) 5 (Mbox (Mstate 9).toNatClampNeg)) 6 (Mbox (Mstate 14).toNatClampNeg)) 7 (Mbox (Mstate 3).toNatClampNeg)) 8 (Mbox (Mstate 8).toNatClampNeg)) 9 (Mbox (Mstate 13).toNatClampNeg)) 10 (Mbox (Mstate 2).toNatClampNeg)) 11 (Mbox (Mstate 7).toNatClampNeg))))] H_620 := hP_620
  replace hD_620 : va_D A [(o, .inr (12, [.int Mthrown, .int (nI rv), .ref a_user, .int (nI Musers), .ref a_owner, .int (nI Mowners), .ref a_tried, .int (nI Mtries), .ref a_id, .int (nI Mids), .ref a_tape, .int (nI Mtaped), .int (nI Mtaken), .int MisPlain, .int Mpermissions, .ref a_entries, .ref a_sizes, .ref a_key, .int MisOpen, .int Mfilter, .int (nI Mcollected), .ref a_bytes, .int Mobject, .int MisBack, .int (nI MoutSize), .ref a_out, .int (nI Msaid), .ref a_message, .ref a_digest, .ref a_words, .ref a_h, .ref a_v, .ref a_fillBytes, .ref a_sines, .ref a_roots, .ref a_box, .ref a_backBox, .ref a_roundKeys, .int (nI Mrounds), .ref a_state, .ref a_other, .ref a_stream, .ref a_work, .ref a_padded, .ref a_ownKey])), (a_box, .inl (E.2.1, 256, .inl Mbox)), (a_state, .inl (E.2.1, 16, .inl Mstate)), (a_other, .inl (E.2.1, 16, .inl (upd (upd (upd (upd (upd (upd (upd (upd (upd (upd (upd (upd Mother 0 (Mbox (Mstate 0).toNatClampNeg)) 1 (Mbox (Mstate 5).toNatClampNeg)) 2 (Mbox (Mstate 10).toNatClampNeg)) 3 (Mbox (Mstate 15).toNatClampNeg)) 4 (Mbox (Mstate 4).toNatClampNeg)) 5 (Mbox (Mstate 9).toNatClampNeg)) 6 (Mbox (Mstate 14).toNatClampNeg)) 7 (Mbox (Mstate 3).toNatClampNeg)) 8 (Mbox (Mstate 8).toNatClampNeg)) 9 (Mbox (Mstate 13).toNatClampNeg)) 10 (Mbox (Mstate 2).toNatClampNeg)) 11 (Mbox (Mstate 7).toNatClampNeg))))] := hD_620
  clear hP_608 hD_608 hS_608
  refine lv_iinc (v := 4) (lv' := [(3, .int 4), (4, .int 1), (2, .int 2), (0, .ref o), (1, .int 0)]) hx hb dX11_substitute_84 hl_614 (k := 1) rfl (by decide) (by decide) rfl (fun ls_621 hl_621 => ?_)
  clear hl_614
  refine lv_goto (tgt := 9) hx hb dX11_substitute_87 (by decide) ?_
  refine lv_iload_n hx hb dX11_substitute_9 rfl (lv_at hl_621 0 rfl) ?_
  refine lv_iconst (v := 4) hx hb dX11_substitute_10 (by decide) ?_
  refine lv_icmp_ge (tgt := 90) hx hb dX11_substitute_11 (by decide) (fun c_622 => ?_) (fun c_622 => absurd (by decide) c_622)
  refine lv_iinc (v := 3) (lv' := [(2, .int 3), (3, .int 4), (4, .int 1), (0, .ref o), (1, .int 0)]) hx hb dX11_substitute_90 hl_621 (k := 2) rfl (by decide) (by decide) rfl (fun ls_623 hl_623 => ?_)
  clear hl_621
  refine lv_goto (tgt := 2) hx hb dX11_substitute_93 (by decide) ?_
  refine lv_iload_n hx hb dX11_substitute_2 rfl (lv_at hl_623 0 rfl) ?_
  refine lv_iconst (v := 4) hx hb dX11_substitute_3 (by decide) ?_
  refine lv_icmp_ge (tgt := 96) hx hb dX11_substitute_4 (by decide) (fun c_624 => absurd c_624 (by decide)) (fun c_624 => ?_)
  refine lv_iconst (v := 0) hx hb dX11_substitute_7 (by decide) ?_
  refine lv_istore_n (lv' := [(3, .int 0), (2, .int 3), (4, .int 1), (0, .ref o), (1, .int 0)]) hx hb dX11_substitute_8 rfl hl_623 (by decide) rfl (fun ls_625 hl_625 => ?_)
  clear hl_623
  refine lv_iload_n hx hb dX11_substitute_9 rfl (lv_at hl_625 0 rfl) ?_
  refine lv_iconst (v := 4) hx hb dX11_substitute_10 (by decide) ?_
  refine lv_icmp_ge (tgt := 90) hx hb dX11_substitute_11 (by decide) (fun c_626 => absurd c_626 (by decide)) (fun c_626 => ?_)
  refine lv_iload_n hx hb dX11_substitute_14 rfl (lv_at hl_625 4 rfl) ?_
  refine lv_if_eq (tgt := 28) hx hb dX11_substitute_15 (by decide) (fun c_627 => ?_) (fun c_627 => absurd (by decide) c_627)
  refine lv_iload_n hx hb dX11_substitute_28 rfl (lv_at hl_625 1 rfl) ?_
  refine lv_iload_n hx hb dX11_substitute_29 rfl (lv_at hl_625 0 rfl) ?_
  refine lv_iadd hx hb dX11_substitute_30 ?_
  refine lv_topi (fun y_628 ey_628 => ?_)
  obtain rfl : y_628 = 3 := ey_628.trans (by decide)
  refine lv_iconst (v := 4) hx hb dX11_substitute_31 (by decide) ?_
  refine lv_irem hx hb dX11_substitute_32 (by decide) ?_
  refine lv_topi (fun y_629 ey_629 => ?_)
  obtain rfl : y_629 = 3 := ey_629.trans (by decide)
  refine lv_istore (lv' := [(4, .int 3), (3, .int 0), (2, .int 3), (0, .ref o), (1, .int 0)]) hx hb dX11_substitute_33 hl_625 (by decide) rfl (fun ls_630 hl_630 => ?_)
  clear hl_625
  refine lv_aload_n hx hb dX11_substitute_35 rfl (lv_at hl_630 3 rfl) ?_
  refine va_get (D := E.1) (ci := 12) (v := .ref a_other) (C := RX11) (T := TX11) (N := 45) hx hb hts in_X11 hown hK hP_620 0 rfl rfl 40 (by decide) w_0 (fun _ h9 => h9) rfl dX11_substitute_36 ?_
  refine lv_iconst (v := 4) hx hb dX11_substitute_39 (by decide) ?_
  refine lv_iload_n hx hb dX11_substitute_40 rfl (lv_at hl_630 2 rfl) ?_
  refine lv_imul hx hb dX11_substitute_41 ?_
  refine lv_topi (fun y_631 ey_631 => ?_)
  obtain rfl : y_631 = 12 := ey_631.trans (by decide)
  refine lv_iload_n hx hb dX11_substitute_42 rfl (lv_at hl_630 1 rfl) ?_
  refine lv_iadd hx hb dX11_substitute_43 ?_
  refine lv_topi (fun y_632 ey_632 => ?_)
  obtain rfl : y_632 = 12 := ey_632.trans (by decide)
  refine lv_iload_n hx hb dX11_substitute_44 rfl (lv_at hl_630 4 rfl) ?_
  refine lv_if_eq (tgt := 67) hx hb dX11_substitute_45 (by decide) (fun c_633 => ?_) (fun c_633 => absurd (by decide) c_633)
  refine lv_aload_n hx hb dX11_substitute_67 rfl (lv_at hl_630 3 rfl) ?_
  refine va_get (D := E.1) (ci := 12) (v := .ref a_box) (C := RX11) (T := TX11) (N := 45) hx hb hts in_X11 hown hK hP_620 0 rfl rfl 35 (by decide) w_1 (fun _ h9 => h9) rfl dX11_substitute_68 ?_
  refine lv_aload_n hx hb dX11_substitute_71 rfl (lv_at hl_630 3 rfl) ?_
  refine va_get (D := E.1) (ci := 12) (v := .ref a_state) (C := RX11) (T := TX11) (N := 45) hx hb hts in_X11 hown hK hP_620 0 rfl rfl 39 (by decide) w_2 (fun _ h9 => h9) rfl dX11_substitute_72 ?_
  refine lv_iconst (v := 4) hx hb dX11_substitute_75 (by decide) ?_
  refine lv_iload hx hb dX11_substitute_76 (lv_at hl_630 0 rfl) ?_
  refine lv_imul hx hb dX11_substitute_78 ?_
  refine lv_topi (fun y_634 ey_634 => ?_)
  obtain rfl : y_634 = 12 := ey_634.trans (by decide)
  refine lv_iload_n hx hb dX11_substitute_79 rfl (lv_at hl_630 1 rfl) ?_
  refine lv_iadd hx hb dX11_substitute_80 ?_
  refine lv_topi (fun y_635 ey_635 => ?_)
  obtain rfl : y_635 = 12 := ey_635.trans (by decide)
  refine g_iald (e0 := 12) hx hb hK hP_620 2 0 rfl rfl (by omega) (by omega) dX11_substitute_81 ?_
  refine va_iald hx hb hK hP_620 1 0 rfl rfl (isB_in (hstB _ (by omega))) dX11_substitute_82 ?_
  refine g_iast (e0 := 12) hx hb hK hP_620 hD_620 hS_620 3 0 rfl rfl (by omega) (by omega) dX11_substitute_83 (fun H_636 locs_636 hP_636 hD_636 hS_636 => ?_)
  replace hP_636 : va_P E.1 vwCl [(o, .inr (12, [.int Mthrown, .int (nI rv), .ref a_user, .int (nI Musers), .ref a_owner, .int (nI Mowners), .ref a_tried, .int (nI Mtries), .ref a_id, .int (nI Mids), .ref a_tape, .int (nI Mtaped), .int (nI Mtaken), .int MisPlain, .int Mpermissions, .ref a_entries, .ref a_sizes, .ref a_key, .int MisOpen, .int Mfilter, .int (nI Mcollected), .ref a_bytes, .int Mobject, .int MisBack, .int (nI MoutSize), .ref a_out, .int (nI Msaid), .ref a_message, .ref a_digest, .ref a_words, .ref a_h, .ref a_v, .ref a_fillBytes, .ref a_sines, .ref a_roots, .ref a_box, .ref a_backBox, .ref a_roundKeys, .int (nI Mrounds), .ref a_state, .ref a_other, .ref a_stream, .ref a_work, .ref a_padded, .ref a_ownKey])), (a_box, .inl (E.2.1, 256, .inl Mbox)), (a_state, .inl (E.2.1, 16, .inl Mstate)), (a_other, .inl (E.2.1, 16, .inl (upd (upd (upd (upd (upd (upd (upd (upd (upd (upd (upd (upd (upd Mother 0 (Mbox (Mstate 0).toNatClampNeg)) 1 (Mbox (Mstate 5).toNatClampNeg)) 2 (Mbox (Mstate 10).toNatClampNeg)) 3 (Mbox (Mstate 15).toNatClampNeg)) 4 (Mbox (Mstate 4).toNatClampNeg)) 5 (Mbox (Mstate 9).toNatClampNeg)) 6 (Mbox (Mstate 14).toNatClampNeg)) 7 (Mbox (Mstate 3).toNatClampNeg)) 8 (Mbox (Mstate 8).toNatClampNeg)) 9 (Mbox (Mstate 13).toNatClampNeg)) 10 (Mbox (Mstate 2).toNatClampNeg)) 11 (Mbox (Mstate 7).toNatClampNeg)) 12 (Mbox (Mstate 12).toNatClampNeg))))] H_636 := hP_636
  replace hD_636 : va_D A [(o, .inr (12, [.int Mthrown, .int (nI rv), .ref a_user, .int (nI Musers), .ref a_owner, .int (nI Mowners), .ref a_tried, .int (nI Mtries), .ref a_id, .int (nI Mids), .ref a_tape, .int (nI Mtaped), .int (nI Mtaken), .int MisPlain, .int Mpermissions, .ref a_entries, .ref a_sizes, .ref a_key, .int MisOpen, .int Mfilter, .int (nI Mcollected), .ref a_bytes, .int Mobject, .int MisBack, .int (nI MoutSize), .ref a_out, .int (nI Msaid), .ref a_message, .ref a_digest, .ref a_words, .ref a_h, .ref a_v, .ref a_fillBytes, .ref a_sines, .ref a_roots, .ref a_box, .ref a_backBox, .ref a_roundKeys, .int (nI Mrounds), .ref a_state, .ref a_other, .ref a_stream, .ref a_work, .ref a_padded, .ref a_ownKey])), (a_box, .inl (E.2.1, 256, .inl Mbox)), (a_state, .inl (E.2.1, 16, .inl Mstate)), (a_other, .inl (E.2.1, 16, .inl (upd (upd (upd (upd (upd (upd (upd (upd (upd (upd (upd (upd (upd Mother 0 (Mbox (Mstate 0).toNatClampNeg)) 1 (Mbox (Mstate 5).toNatClampNeg)) 2 (Mbox (Mstate 10).toNatClampNeg)) 3 (Mbox (Mstate 15).toNatClampNeg)) 4 (Mbox (Mstate 4).toNatClampNeg)) 5 (Mbox (Mstate 9).toNatClampNeg)) 6 (Mbox (Mstate 14).toNatClampNeg)) 7 (Mbox (Mstate 3).toNatClampNeg)) 8 (Mbox (Mstate 8).toNatClampNeg)) 9 (Mbox (Mstate 13).toNatClampNeg)) 10 (Mbox (Mstate 2).toNatClampNeg)) 11 (Mbox (Mstate 7).toNatClampNeg)) 12 (Mbox (Mstate 12).toNatClampNeg))))] := hD_636
  clear hP_620 hD_620 hS_620
  refine lv_iinc (v := 1) (lv' := [(3, .int 1), (4, .int 3), (2, .int 3), (0, .ref o), (1, .int 0)]) hx hb dX11_substitute_84 hl_630 (k := 1) rfl (by decide) (by decide) rfl (fun ls_637 hl_637 => ?_)
  clear hl_630
  refine lv_goto (tgt := 9) hx hb dX11_substitute_87 (by decide) ?_
  refine lv_iload_n hx hb dX11_substitute_9 rfl (lv_at hl_637 0 rfl) ?_
  refine lv_iconst (v := 4) hx hb dX11_substitute_10 (by decide) ?_
  refine lv_icmp_ge (tgt := 90) hx hb dX11_substitute_11 (by decide) (fun c_638 => absurd c_638 (by decide)) (fun c_638 => ?_)
  refine lv_iload_n hx hb dX11_substitute_14 rfl (lv_at hl_637 4 rfl) ?_
  refine lv_if_eq (tgt := 28) hx hb dX11_substitute_15 (by decide) (fun c_639 => ?_) (fun c_639 => absurd (by decide) c_639)
  refine lv_iload_n hx hb dX11_substitute_28 rfl (lv_at hl_637 2 rfl) ?_
  refine lv_iload_n hx hb dX11_substitute_29 rfl (lv_at hl_637 0 rfl) ?_
  refine lv_iadd hx hb dX11_substitute_30 ?_
  refine lv_topi (fun y_640 ey_640 => ?_)
  obtain rfl : y_640 = 4 := ey_640.trans (by decide)
  refine lv_iconst (v := 4) hx hb dX11_substitute_31 (by decide) ?_
  refine lv_irem hx hb dX11_substitute_32 (by decide) ?_
  refine lv_topi (fun y_641 ey_641 => ?_)
  obtain rfl : y_641 = 0 := ey_641.trans (by decide)
  refine lv_istore (lv' := [(4, .int 0), (3, .int 1), (2, .int 3), (0, .ref o), (1, .int 0)]) hx hb dX11_substitute_33 hl_637 (by decide) rfl (fun ls_642 hl_642 => ?_)
  clear hl_637
  refine lv_aload_n hx hb dX11_substitute_35 rfl (lv_at hl_642 3 rfl) ?_
  refine va_get (D := E.1) (ci := 12) (v := .ref a_other) (C := RX11) (T := TX11) (N := 45) hx hb hts in_X11 hown hK hP_636 0 rfl rfl 40 (by decide) w_0 (fun _ h9 => h9) rfl dX11_substitute_36 ?_
  refine lv_iconst (v := 4) hx hb dX11_substitute_39 (by decide) ?_
  refine lv_iload_n hx hb dX11_substitute_40 rfl (lv_at hl_642 2 rfl) ?_
  refine lv_imul hx hb dX11_substitute_41 ?_
  refine lv_topi (fun y_643 ey_643 => ?_)
  obtain rfl : y_643 = 12 := ey_643.trans (by decide)
  refine lv_iload_n hx hb dX11_substitute_42 rfl (lv_at hl_642 1 rfl) ?_
  refine lv_iadd hx hb dX11_substitute_43 ?_
  refine lv_topi (fun y_644 ey_644 => ?_)
  obtain rfl : y_644 = 13 := ey_644.trans (by decide)
  refine lv_iload_n hx hb dX11_substitute_44 rfl (lv_at hl_642 4 rfl) ?_
  refine lv_if_eq (tgt := 67) hx hb dX11_substitute_45 (by decide) (fun c_645 => ?_) (fun c_645 => absurd (by decide) c_645)
  refine lv_aload_n hx hb dX11_substitute_67 rfl (lv_at hl_642 3 rfl) ?_
  refine va_get (D := E.1) (ci := 12) (v := .ref a_box) (C := RX11) (T := TX11) (N := 45) hx hb hts in_X11 hown hK hP_636 0 rfl rfl 35 (by decide) w_1 (fun _ h9 => h9) rfl dX11_substitute_68 ?_
  refine lv_aload_n hx hb dX11_substitute_71 rfl (lv_at hl_642 3 rfl) ?_
  refine va_get (D := E.1) (ci := 12) (v := .ref a_state) (C := RX11) (T := TX11) (N := 45) hx hb hts in_X11 hown hK hP_636 0 rfl rfl 39 (by decide) w_2 (fun _ h9 => h9) rfl dX11_substitute_72 ?_
  refine lv_iconst (v := 4) hx hb dX11_substitute_75 (by decide) ?_
  refine lv_iload hx hb dX11_substitute_76 (lv_at hl_642 0 rfl) ?_
  refine lv_imul hx hb dX11_substitute_78 ?_
  refine lv_topi (fun y_646 ey_646 => ?_)
  obtain rfl : y_646 = 0 := ey_646.trans (by decide)
  refine lv_iload_n hx hb dX11_substitute_79 rfl (lv_at hl_642 1 rfl) ?_
  refine lv_iadd hx hb dX11_substitute_80 ?_
  refine lv_topi (fun y_647 ey_647 => ?_)
  obtain rfl : y_647 = 1 := ey_647.trans (by decide)
  refine g_iald (e0 := 1) hx hb hK hP_636 2 0 rfl rfl (by omega) (by omega) dX11_substitute_81 ?_
  refine va_iald hx hb hK hP_636 1 0 rfl rfl (isB_in (hstB _ (by omega))) dX11_substitute_82 ?_
  refine g_iast (e0 := 13) hx hb hK hP_636 hD_636 hS_636 3 0 rfl rfl (by omega) (by omega) dX11_substitute_83 (fun H_648 locs_648 hP_648 hD_648 hS_648 => ?_)
  replace hP_648 : va_P E.1 vwCl [(o, .inr (12, [.int Mthrown, .int (nI rv), .ref a_user, .int (nI Musers), .ref a_owner, .int (nI Mowners), .ref a_tried, .int (nI Mtries), .ref a_id, .int (nI Mids), .ref a_tape, .int (nI Mtaped), .int (nI Mtaken), .int MisPlain, .int Mpermissions, .ref a_entries, .ref a_sizes, .ref a_key, .int MisOpen, .int Mfilter, .int (nI Mcollected), .ref a_bytes, .int Mobject, .int MisBack, .int (nI MoutSize), .ref a_out, .int (nI Msaid), .ref a_message, .ref a_digest, .ref a_words, .ref a_h, .ref a_v, .ref a_fillBytes, .ref a_sines, .ref a_roots, .ref a_box, .ref a_backBox, .ref a_roundKeys, .int (nI Mrounds), .ref a_state, .ref a_other, .ref a_stream, .ref a_work, .ref a_padded, .ref a_ownKey])), (a_box, .inl (E.2.1, 256, .inl Mbox)), (a_state, .inl (E.2.1, 16, .inl Mstate)), (a_other, .inl (E.2.1, 16, .inl (upd (upd (upd (upd (upd (upd (upd (upd (upd (upd (upd (upd (upd (upd Mother 0 (Mbox (Mstate 0).toNatClampNeg)) 1 (Mbox (Mstate 5).toNatClampNeg)) 2 (Mbox (Mstate 10).toNatClampNeg)) 3 (Mbox (Mstate 15).toNatClampNeg)) 4 (Mbox (Mstate 4).toNatClampNeg)) 5 (Mbox (Mstate 9).toNatClampNeg)) 6 (Mbox (Mstate 14).toNatClampNeg)) 7 (Mbox (Mstate 3).toNatClampNeg)) 8 (Mbox (Mstate 8).toNatClampNeg)) 9 (Mbox (Mstate 13).toNatClampNeg)) 10 (Mbox (Mstate 2).toNatClampNeg)) 11 (Mbox (Mstate 7).toNatClampNeg)) 12 (Mbox (Mstate 12).toNatClampNeg)) 13 (Mbox (Mstate 1).toNatClampNeg))))] H_648 := hP_648
  replace hD_648 : va_D A [(o, .inr (12, [.int Mthrown, .int (nI rv), .ref a_user, .int (nI Musers), .ref a_owner, .int (nI Mowners), .ref a_tried, .int (nI Mtries), .ref a_id, .int (nI Mids), .ref a_tape, .int (nI Mtaped), .int (nI Mtaken), .int MisPlain, .int Mpermissions, .ref a_entries, .ref a_sizes, .ref a_key, .int MisOpen, .int Mfilter, .int (nI Mcollected), .ref a_bytes, .int Mobject, .int MisBack, .int (nI MoutSize), .ref a_out, .int (nI Msaid), .ref a_message, .ref a_digest, .ref a_words, .ref a_h, .ref a_v, .ref a_fillBytes, .ref a_sines, .ref a_roots, .ref a_box, .ref a_backBox, .ref a_roundKeys, .int (nI Mrounds), .ref a_state, .ref a_other, .ref a_stream, .ref a_work, .ref a_padded, .ref a_ownKey])), (a_box, .inl (E.2.1, 256, .inl Mbox)), (a_state, .inl (E.2.1, 16, .inl Mstate)), (a_other, .inl (E.2.1, 16, .inl (upd (upd (upd (upd (upd (upd (upd (upd (upd (upd (upd (upd (upd (upd Mother 0 (Mbox (Mstate 0).toNatClampNeg)) 1 (Mbox (Mstate 5).toNatClampNeg)) 2 (Mbox (Mstate 10).toNatClampNeg)) 3 (Mbox (Mstate 15).toNatClampNeg)) 4 (Mbox (Mstate 4).toNatClampNeg)) 5 (Mbox (Mstate 9).toNatClampNeg)) 6 (Mbox (Mstate 14).toNatClampNeg)) 7 (Mbox (Mstate 3).toNatClampNeg)) 8 (Mbox (Mstate 8).toNatClampNeg)) 9 (Mbox (Mstate 13).toNatClampNeg)) 10 (Mbox (Mstate 2).toNatClampNeg)) 11 (Mbox (Mstate 7).toNatClampNeg)) 12 (Mbox (Mstate 12).toNatClampNeg)) 13 (Mbox (Mstate 1).toNatClampNeg))))] := hD_648
  clear hP_636 hD_636 hS_636
  refine lv_iinc (v := 2) (lv' := [(3, .int 2), (4, .int 0), (2, .int 3), (0, .ref o), (1, .int 0)]) hx hb dX11_substitute_84 hl_642 (k := 1) rfl (by decide) (by decide) rfl (fun ls_649 hl_649 => ?_)
  clear hl_642
  refine lv_goto (tgt := 9) hx hb dX11_substitute_87 (by decide) ?_
  refine lv_iload_n hx hb dX11_substitute_9 rfl (lv_at hl_649 0 rfl) ?_
  refine lv_iconst (v := 4) hx hb dX11_substitute_10 (by decide) ?_
  refine lv_icmp_ge (tgt := 90) hx hb dX11_substitute_11 (by decide) (fun c_650 => absurd c_650 (by decide)) (fun c_650 => ?_)
  refine lv_iload_n hx hb dX11_substitute_14 rfl (lv_at hl_649 4 rfl) ?_
  refine lv_if_eq (tgt := 28) hx hb dX11_substitute_15 (by decide) (fun c_651 => ?_) (fun c_651 => absurd (by decide) c_651)
  refine lv_iload_n hx hb dX11_substitute_28 rfl (lv_at hl_649 2 rfl) ?_
  refine lv_iload_n hx hb dX11_substitute_29 rfl (lv_at hl_649 0 rfl) ?_
  refine lv_iadd hx hb dX11_substitute_30 ?_
  refine lv_topi (fun y_652 ey_652 => ?_)
  obtain rfl : y_652 = 5 := ey_652.trans (by decide)
  refine lv_iconst (v := 4) hx hb dX11_substitute_31 (by decide) ?_
  refine lv_irem hx hb dX11_substitute_32 (by decide) ?_
  refine lv_topi (fun y_653 ey_653 => ?_)
  obtain rfl : y_653 = 1 := ey_653.trans (by decide)
  refine lv_istore (lv' := [(4, .int 1), (3, .int 2), (2, .int 3), (0, .ref o), (1, .int 0)]) hx hb dX11_substitute_33 hl_649 (by decide) rfl (fun ls_654 hl_654 => ?_)
  clear hl_649
  refine lv_aload_n hx hb dX11_substitute_35 rfl (lv_at hl_654 3 rfl) ?_
  refine va_get (D := E.1) (ci := 12) (v := .ref a_other) (C := RX11) (T := TX11) (N := 45) hx hb hts in_X11 hown hK hP_648 0 rfl rfl 40 (by decide) w_0 (fun _ h9 => h9) rfl dX11_substitute_36 ?_
  refine lv_iconst (v := 4) hx hb dX11_substitute_39 (by decide) ?_
  refine lv_iload_n hx hb dX11_substitute_40 rfl (lv_at hl_654 2 rfl) ?_
  refine lv_imul hx hb dX11_substitute_41 ?_
  refine lv_topi (fun y_655 ey_655 => ?_)
  obtain rfl : y_655 = 12 := ey_655.trans (by decide)
  refine lv_iload_n hx hb dX11_substitute_42 rfl (lv_at hl_654 1 rfl) ?_
  refine lv_iadd hx hb dX11_substitute_43 ?_
  refine lv_topi (fun y_656 ey_656 => ?_)
  obtain rfl : y_656 = 14 := ey_656.trans (by decide)
  refine lv_iload_n hx hb dX11_substitute_44 rfl (lv_at hl_654 4 rfl) ?_
  refine lv_if_eq (tgt := 67) hx hb dX11_substitute_45 (by decide) (fun c_657 => ?_) (fun c_657 => absurd (by decide) c_657)
  refine lv_aload_n hx hb dX11_substitute_67 rfl (lv_at hl_654 3 rfl) ?_
  refine va_get (D := E.1) (ci := 12) (v := .ref a_box) (C := RX11) (T := TX11) (N := 45) hx hb hts in_X11 hown hK hP_648 0 rfl rfl 35 (by decide) w_1 (fun _ h9 => h9) rfl dX11_substitute_68 ?_
  refine lv_aload_n hx hb dX11_substitute_71 rfl (lv_at hl_654 3 rfl) ?_
  refine va_get (D := E.1) (ci := 12) (v := .ref a_state) (C := RX11) (T := TX11) (N := 45) hx hb hts in_X11 hown hK hP_648 0 rfl rfl 39 (by decide) w_2 (fun _ h9 => h9) rfl dX11_substitute_72 ?_
  refine lv_iconst (v := 4) hx hb dX11_substitute_75 (by decide) ?_
  refine lv_iload hx hb dX11_substitute_76 (lv_at hl_654 0 rfl) ?_
  refine lv_imul hx hb dX11_substitute_78 ?_
  refine lv_topi (fun y_658 ey_658 => ?_)
  obtain rfl : y_658 = 4 := ey_658.trans (by decide)
  refine lv_iload_n hx hb dX11_substitute_79 rfl (lv_at hl_654 1 rfl) ?_
  refine lv_iadd hx hb dX11_substitute_80 ?_
  refine lv_topi (fun y_659 ey_659 => ?_)
  obtain rfl : y_659 = 6 := ey_659.trans (by decide)
  refine g_iald (e0 := 6) hx hb hK hP_648 2 0 rfl rfl (by omega) (by omega) dX11_substitute_81 ?_
  refine va_iald hx hb hK hP_648 1 0 rfl rfl (isB_in (hstB _ (by omega))) dX11_substitute_82 ?_
  refine g_iast (e0 := 14) hx hb hK hP_648 hD_648 hS_648 3 0 rfl rfl (by omega) (by omega) dX11_substitute_83 (fun H_660 locs_660 hP_660 hD_660 hS_660 => ?_)
  replace hP_660 : va_P E.1 vwCl [(o, .inr (12, [.int Mthrown, .int (nI rv), .ref a_user, .int (nI Musers), .ref a_owner, .int (nI Mowners), .ref a_tried, .int (nI Mtries), .ref a_id, .int (nI Mids), .ref a_tape, .int (nI Mtaped), .int (nI Mtaken), .int MisPlain, .int Mpermissions, .ref a_entries, .ref a_sizes, .ref a_key, .int MisOpen, .int Mfilter, .int (nI Mcollected), .ref a_bytes, .int Mobject, .int MisBack, .int (nI MoutSize), .ref a_out, .int (nI Msaid), .ref a_message, .ref a_digest, .ref a_words, .ref a_h, .ref a_v, .ref a_fillBytes, .ref a_sines, .ref a_roots, .ref a_box, .ref a_backBox, .ref a_roundKeys, .int (nI Mrounds), .ref a_state, .ref a_other, .ref a_stream, .ref a_work, .ref a_padded, .ref a_ownKey])), (a_box, .inl (E.2.1, 256, .inl Mbox)), (a_state, .inl (E.2.1, 16, .inl Mstate)), (a_other, .inl (E.2.1, 16, .inl (upd (upd (upd (upd (upd (upd (upd (upd (upd (upd (upd (upd (upd (upd (upd Mother 0 (Mbox (Mstate 0).toNatClampNeg)) 1 (Mbox (Mstate 5).toNatClampNeg)) 2 (Mbox (Mstate 10).toNatClampNeg)) 3 (Mbox (Mstate 15).toNatClampNeg)) 4 (Mbox (Mstate 4).toNatClampNeg)) 5 (Mbox (Mstate 9).toNatClampNeg)) 6 (Mbox (Mstate 14).toNatClampNeg)) 7 (Mbox (Mstate 3).toNatClampNeg)) 8 (Mbox (Mstate 8).toNatClampNeg)) 9 (Mbox (Mstate 13).toNatClampNeg)) 10 (Mbox (Mstate 2).toNatClampNeg)) 11 (Mbox (Mstate 7).toNatClampNeg)) 12 (Mbox (Mstate 12).toNatClampNeg)) 13 (Mbox (Mstate 1).toNatClampNeg)) 14 (Mbox (Mstate 6).toNatClampNeg))))] H_660 := hP_660
  replace hD_660 : va_D A [(o, .inr (12, [.int Mthrown, .int (nI rv), .ref a_user, .int (nI Musers), .ref a_owner, .int (nI Mowners), .ref a_tried, .int (nI Mtries), .ref a_id, .int (nI Mids), .ref a_tape, .int (nI Mtaped), .int (nI Mtaken), .int MisPlain, .int Mpermissions, .ref a_entries, .ref a_sizes, .ref a_key, .int MisOpen, .int Mfilter, .int (nI Mcollected), .ref a_bytes, .int Mobject, .int MisBack, .int (nI MoutSize), .ref a_out, .int (nI Msaid), .ref a_message, .ref a_digest, .ref a_words, .ref a_h, .ref a_v, .ref a_fillBytes, .ref a_sines, .ref a_roots, .ref a_box, .ref a_backBox, .ref a_roundKeys, .int (nI Mrounds), .ref a_state, .ref a_other, .ref a_stream, .ref a_work, .ref a_padded, .ref a_ownKey])), (a_box, .inl (E.2.1, 256, .inl Mbox)), (a_state, .inl (E.2.1, 16, .inl Mstate)), (a_other, .inl (E.2.1, 16, .inl (upd (upd (upd (upd (upd (upd (upd (upd (upd (upd (upd (upd (upd (upd (upd Mother 0 (Mbox (Mstate 0).toNatClampNeg)) 1 (Mbox (Mstate 5).toNatClampNeg)) 2 (Mbox (Mstate 10).toNatClampNeg)) 3 (Mbox (Mstate 15).toNatClampNeg)) 4 (Mbox (Mstate 4).toNatClampNeg)) 5 (Mbox (Mstate 9).toNatClampNeg)) 6 (Mbox (Mstate 14).toNatClampNeg)) 7 (Mbox (Mstate 3).toNatClampNeg)) 8 (Mbox (Mstate 8).toNatClampNeg)) 9 (Mbox (Mstate 13).toNatClampNeg)) 10 (Mbox (Mstate 2).toNatClampNeg)) 11 (Mbox (Mstate 7).toNatClampNeg)) 12 (Mbox (Mstate 12).toNatClampNeg)) 13 (Mbox (Mstate 1).toNatClampNeg)) 14 (Mbox (Mstate 6).toNatClampNeg))))] := hD_660
  clear hP_648 hD_648 hS_648
  refine lv_iinc (v := 3) (lv' := [(3, .int 3), (4, .int 1), (2, .int 3), (0, .ref o), (1, .int 0)]) hx hb dX11_substitute_84 hl_654 (k := 1) rfl (by decide) (by decide) rfl (fun ls_661 hl_661 => ?_)
  clear hl_654
  refine lv_goto (tgt := 9) hx hb dX11_substitute_87 (by decide) ?_
  refine lv_iload_n hx hb dX11_substitute_9 rfl (lv_at hl_661 0 rfl) ?_
  refine lv_iconst (v := 4) hx hb dX11_substitute_10 (by decide) ?_
  refine lv_icmp_ge (tgt := 90) hx hb dX11_substitute_11 (by decide) (fun c_662 => absurd c_662 (by decide)) (fun c_662 => ?_)
  refine lv_iload_n hx hb dX11_substitute_14 rfl (lv_at hl_661 4 rfl) ?_
  refine lv_if_eq (tgt := 28) hx hb dX11_substitute_15 (by decide) (fun c_663 => ?_) (fun c_663 => absurd (by decide) c_663)
  refine lv_iload_n hx hb dX11_substitute_28 rfl (lv_at hl_661 2 rfl) ?_
  refine lv_iload_n hx hb dX11_substitute_29 rfl (lv_at hl_661 0 rfl) ?_
  refine lv_iadd hx hb dX11_substitute_30 ?_
  refine lv_topi (fun y_664 ey_664 => ?_)
  obtain rfl : y_664 = 6 := ey_664.trans (by decide)
  refine lv_iconst (v := 4) hx hb dX11_substitute_31 (by decide) ?_
  refine lv_irem hx hb dX11_substitute_32 (by decide) ?_
  refine lv_topi (fun y_665 ey_665 => ?_)
  obtain rfl : y_665 = 2 := ey_665.trans (by decide)
  refine lv_istore (lv' := [(4, .int 2), (3, .int 3), (2, .int 3), (0, .ref o), (1, .int 0)]) hx hb dX11_substitute_33 hl_661 (by decide) rfl (fun ls_666 hl_666 => ?_)
  clear hl_661
  refine lv_aload_n hx hb dX11_substitute_35 rfl (lv_at hl_666 3 rfl) ?_
  refine va_get (D := E.1) (ci := 12) (v := .ref a_other) (C := RX11) (T := TX11) (N := 45) hx hb hts in_X11 hown hK hP_660 0 rfl rfl 40 (by decide) w_0 (fun _ h9 => h9) rfl dX11_substitute_36 ?_
  refine lv_iconst (v := 4) hx hb dX11_substitute_39 (by decide) ?_
  refine lv_iload_n hx hb dX11_substitute_40 rfl (lv_at hl_666 2 rfl) ?_
  refine lv_imul hx hb dX11_substitute_41 ?_
  refine lv_topi (fun y_667 ey_667 => ?_)
  obtain rfl : y_667 = 12 := ey_667.trans (by decide)
  refine lv_iload_n hx hb dX11_substitute_42 rfl (lv_at hl_666 1 rfl) ?_
  refine lv_iadd hx hb dX11_substitute_43 ?_
  refine lv_topi (fun y_668 ey_668 => ?_)
  obtain rfl : y_668 = 15 := ey_668.trans (by decide)
  refine lv_iload_n hx hb dX11_substitute_44 rfl (lv_at hl_666 4 rfl) ?_
  refine lv_if_eq (tgt := 67) hx hb dX11_substitute_45 (by decide) (fun c_669 => ?_) (fun c_669 => absurd (by decide) c_669)
  refine lv_aload_n hx hb dX11_substitute_67 rfl (lv_at hl_666 3 rfl) ?_
  refine va_get (D := E.1) (ci := 12) (v := .ref a_box) (C := RX11) (T := TX11) (N := 45) hx hb hts in_X11 hown hK hP_660 0 rfl rfl 35 (by decide) w_1 (fun _ h9 => h9) rfl dX11_substitute_68 ?_
  refine lv_aload_n hx hb dX11_substitute_71 rfl (lv_at hl_666 3 rfl) ?_
  refine va_get (D := E.1) (ci := 12) (v := .ref a_state) (C := RX11) (T := TX11) (N := 45) hx hb hts in_X11 hown hK hP_660 0 rfl rfl 39 (by decide) w_2 (fun _ h9 => h9) rfl dX11_substitute_72 ?_
  refine lv_iconst (v := 4) hx hb dX11_substitute_75 (by decide) ?_
  refine lv_iload hx hb dX11_substitute_76 (lv_at hl_666 0 rfl) ?_
  refine lv_imul hx hb dX11_substitute_78 ?_
  refine lv_topi (fun y_670 ey_670 => ?_)
  obtain rfl : y_670 = 8 := ey_670.trans (by decide)
  refine lv_iload_n hx hb dX11_substitute_79 rfl (lv_at hl_666 1 rfl) ?_
  refine lv_iadd hx hb dX11_substitute_80 ?_
  refine lv_topi (fun y_671 ey_671 => ?_)
  obtain rfl : y_671 = 11 := ey_671.trans (by decide)
  refine g_iald (e0 := 11) hx hb hK hP_660 2 0 rfl rfl (by omega) (by omega) dX11_substitute_81 ?_
  refine va_iald hx hb hK hP_660 1 0 rfl rfl (isB_in (hstB _ (by omega))) dX11_substitute_82 ?_
  refine g_iast (e0 := 15) hx hb hK hP_660 hD_660 hS_660 3 0 rfl rfl (by omega) (by omega) dX11_substitute_83 (fun H_672 locs_672 hP_672 hD_672 hS_672 => ?_)
  replace hP_672 : va_P E.1 vwCl [(o, .inr (12, [.int Mthrown, .int (nI rv), .ref a_user, .int (nI Musers), .ref a_owner, .int (nI Mowners), .ref a_tried, .int (nI Mtries), .ref a_id, .int (nI Mids), .ref a_tape, .int (nI Mtaped), .int (nI Mtaken), .int MisPlain, .int Mpermissions, .ref a_entries, .ref a_sizes, .ref a_key, .int MisOpen, .int Mfilter, .int (nI Mcollected), .ref a_bytes, .int Mobject, .int MisBack, .int (nI MoutSize), .ref a_out, .int (nI Msaid), .ref a_message, .ref a_digest, .ref a_words, .ref a_h, .ref a_v, .ref a_fillBytes, .ref a_sines, .ref a_roots, .ref a_box, .ref a_backBox, .ref a_roundKeys, .int (nI Mrounds), .ref a_state, .ref a_other, .ref a_stream, .ref a_work, .ref a_padded, .ref a_ownKey])), (a_box, .inl (E.2.1, 256, .inl Mbox)), (a_state, .inl (E.2.1, 16, .inl Mstate)), (a_other, .inl (E.2.1, 16, .inl (upd (upd (upd (upd (upd (upd (upd (upd (upd (upd (upd (upd (upd (upd (upd (upd Mother 0 (Mbox (Mstate 0).toNatClampNeg)) 1 (Mbox (Mstate 5).toNatClampNeg)) 2 (Mbox (Mstate 10).toNatClampNeg)) 3 (Mbox (Mstate 15).toNatClampNeg)) 4 (Mbox (Mstate 4).toNatClampNeg)) 5 (Mbox (Mstate 9).toNatClampNeg)) 6 (Mbox (Mstate 14).toNatClampNeg)) 7 (Mbox (Mstate 3).toNatClampNeg)) 8 (Mbox (Mstate 8).toNatClampNeg)) 9 (Mbox (Mstate 13).toNatClampNeg)) 10 (Mbox (Mstate 2).toNatClampNeg)) 11 (Mbox (Mstate 7).toNatClampNeg)) 12 (Mbox (Mstate 12).toNatClampNeg)) 13 (Mbox (Mstate 1).toNatClampNeg)) 14 (Mbox (Mstate 6).toNatClampNeg)) 15 (Mbox (Mstate 11).toNatClampNeg))))] H_672 := hP_672
  replace hD_672 : va_D A [(o, .inr (12, [.int Mthrown, .int (nI rv), .ref a_user, .int (nI Musers), .ref a_owner, .int (nI Mowners), .ref a_tried, .int (nI Mtries), .ref a_id, .int (nI Mids), .ref a_tape, .int (nI Mtaped), .int (nI Mtaken), .int MisPlain, .int Mpermissions, .ref a_entries, .ref a_sizes, .ref a_key, .int MisOpen, .int Mfilter, .int (nI Mcollected), .ref a_bytes, .int Mobject, .int MisBack, .int (nI MoutSize), .ref a_out, .int (nI Msaid), .ref a_message, .ref a_digest, .ref a_words, .ref a_h, .ref a_v, .ref a_fillBytes, .ref a_sines, .ref a_roots, .ref a_box, .ref a_backBox, .ref a_roundKeys, .int (nI Mrounds), .ref a_state, .ref a_other, .ref a_stream, .ref a_work, .ref a_padded, .ref a_ownKey])), (a_box, .inl (E.2.1, 256, .inl Mbox)), (a_state, .inl (E.2.1, 16, .inl Mstate)), (a_other, .inl (E.2.1, 16, .inl (upd (upd (upd (upd (upd (upd (upd (upd (upd (upd (upd (upd (upd (upd (upd (upd Mother 0 (Mbox (Mstate 0).toNatClampNeg)) 1 (Mbox (Mstate 5).toNatClampNeg)) 2 (Mbox (Mstate 10).toNatClampNeg)) 3 (Mbox (Mstate 15).toNatClampNeg)) 4 (Mbox (Mstate 4).toNatClampNeg)) 5 (Mbox (Mstate 9).toNatClampNeg)) 6 (Mbox (Mstate 14).toNatClampNeg)) 7 (Mbox (Mstate 3).toNatClampNeg)) 8 (Mbox (Mstate 8).toNatClampNeg)) 9 (Mbox (Mstate 13).toNatClampNeg)) 10 (Mbox (Mstate 2).toNatClampNeg)) 11 (Mbox (Mstate 7).toNatClampNeg)) 12 (Mbox (Mstate 12).toNatClampNeg)) 13 (Mbox (Mstate 1).toNatClampNeg)) 14 (Mbox (Mstate 6).toNatClampNeg)) 15 (Mbox (Mstate 11).toNatClampNeg))))] := hD_672
  clear hP_660 hD_660 hS_660
  refine lv_iinc (v := 4) (lv' := [(3, .int 4), (4, .int 2), (2, .int 3), (0, .ref o), (1, .int 0)]) hx hb dX11_substitute_84 hl_666 (k := 1) rfl (by decide) (by decide) rfl (fun ls_673 hl_673 => ?_)
  clear hl_666
  refine lv_goto (tgt := 9) hx hb dX11_substitute_87 (by decide) ?_
  refine lv_iload_n hx hb dX11_substitute_9 rfl (lv_at hl_673 0 rfl) ?_
  refine lv_iconst (v := 4) hx hb dX11_substitute_10 (by decide) ?_
  refine lv_icmp_ge (tgt := 90) hx hb dX11_substitute_11 (by decide) (fun c_674 => ?_) (fun c_674 => absurd (by decide) c_674)
  refine lv_iinc (v := 4) (lv' := [(2, .int 4), (3, .int 4), (4, .int 2), (0, .ref o), (1, .int 0)]) hx hb dX11_substitute_90 hl_673 (k := 2) rfl (by decide) (by decide) rfl (fun ls_675 hl_675 => ?_)
  clear hl_673
  refine lv_goto (tgt := 2) hx hb dX11_substitute_93 (by decide) ?_
  refine lv_iload_n hx hb dX11_substitute_2 rfl (lv_at hl_675 0 rfl) ?_
  refine lv_iconst (v := 4) hx hb dX11_substitute_3 (by decide) ?_
  refine lv_icmp_ge (tgt := 96) hx hb dX11_substitute_4 (by decide) (fun c_676 => ?_) (fun c_676 => absurd (by decide) c_676)
  refine lv_iconst (v := 0) hx hb dX11_substitute_96 (by decide) ?_
  refine lv_istore_n (lv' := [(2, .int 0), (3, .int 4), (4, .int 2), (0, .ref o), (1, .int 0)]) hx hb dX11_substitute_97 rfl hl_675 (by decide) rfl (fun ls_677 hl_677 => ?_)
  clear hl_675
  refine g_up (N := 16) (B_X11_substitute_0_98 Mother Mbox Mstate) (Mstate : Nat → Int32) (Inv := fun i_0 z_693 H_0 locs_0 ls_0 => lv_has ls_0 5 [(2, .int (nI i_0)), (3, .int 4), (4, .int 2), (0, .ref o), (1, .int 0)] ∧ va_P E.1 vwCl [(o, .inr (12, [.int Mthrown, .int (nI rv), .ref a_user, .int (nI Musers), .ref a_owner, .int (nI Mowners), .ref a_tried, .int (nI Mtries), .ref a_id, .int (nI Mids), .ref a_tape, .int (nI Mtaped), .int (nI Mtaken), .int MisPlain, .int Mpermissions, .ref a_entries, .ref a_sizes, .ref a_key, .int MisOpen, .int Mfilter, .int (nI Mcollected), .ref a_bytes, .int Mobject, .int MisBack, .int (nI MoutSize), .ref a_out, .int (nI Msaid), .ref a_message, .ref a_digest, .ref a_words, .ref a_h, .ref a_v, .ref a_fillBytes, .ref a_sines, .ref a_roots, .ref a_box, .ref a_backBox, .ref a_roundKeys, .int (nI Mrounds), .ref a_state, .ref a_other, .ref a_stream, .ref a_work, .ref a_padded, .ref a_ownKey])), (a_box, .inl (E.2.1, 256, .inl Mbox)), (a_state, .inl (E.2.1, 16, .inl z_693)), (a_other, .inl (E.2.1, 16, .inl (upd (upd (upd (upd (upd (upd (upd (upd (upd (upd (upd (upd (upd (upd (upd (upd Mother 0 (Mbox (Mstate 0).toNatClampNeg)) 1 (Mbox (Mstate 5).toNatClampNeg)) 2 (Mbox (Mstate 10).toNatClampNeg)) 3 (Mbox (Mstate 15).toNatClampNeg)) 4 (Mbox (Mstate 4).toNatClampNeg)) 5 (Mbox (Mstate 9).toNatClampNeg)) 6 (Mbox (Mstate 14).toNatClampNeg)) 7 (Mbox (Mstate 3).toNatClampNeg)) 8 (Mbox (Mstate 8).toNatClampNeg)) 9 (Mbox (Mstate 13).toNatClampNeg)) 10 (Mbox (Mstate 2).toNatClampNeg)) 11 (Mbox (Mstate 7).toNatClampNeg)) 12 (Mbox (Mstate 12).toNatClampNeg)) 13 (Mbox (Mstate 1).toNatClampNeg)) 14 (Mbox (Mstate 6).toNatClampNeg)) 15 (Mbox (Mstate 11).toNatClampNeg))))] H_0 ∧ va_D A [(o, .inr (12, [.int Mthrown, .int (nI rv), .ref a_user, .int (nI Musers), .ref a_owner, .int (nI Mowners), .ref a_tried, .int (nI Mtries), .ref a_id, .int (nI Mids), .ref a_tape, .int (nI Mtaped), .int (nI Mtaken), .int MisPlain, .int Mpermissions, .ref a_entries, .ref a_sizes, .ref a_key, .int MisOpen, .int Mfilter, .int (nI Mcollected), .ref a_bytes, .int Mobject, .int MisBack, .int (nI MoutSize), .ref a_out, .int (nI Msaid), .ref a_message, .ref a_digest, .ref a_words, .ref a_h, .ref a_v, .ref a_fillBytes, .ref a_sines, .ref a_roots, .ref a_box, .ref a_backBox, .ref a_roundKeys, .int (nI Mrounds), .ref a_state, .ref a_other, .ref a_stream, .ref a_work, .ref a_padded, .ref a_ownKey])), (a_box, .inl (E.2.1, 256, .inl Mbox)), (a_state, .inl (E.2.1, 16, .inl z_693)), (a_other, .inl (E.2.1, 16, .inl (upd (upd (upd (upd (upd (upd (upd (upd (upd (upd (upd (upd (upd (upd (upd (upd Mother 0 (Mbox (Mstate 0).toNatClampNeg)) 1 (Mbox (Mstate 5).toNatClampNeg)) 2 (Mbox (Mstate 10).toNatClampNeg)) 3 (Mbox (Mstate 15).toNatClampNeg)) 4 (Mbox (Mstate 4).toNatClampNeg)) 5 (Mbox (Mstate 9).toNatClampNeg)) 6 (Mbox (Mstate 14).toNatClampNeg)) 7 (Mbox (Mstate 3).toNatClampNeg)) 8 (Mbox (Mstate 8).toNatClampNeg)) 9 (Mbox (Mstate 13).toNatClampNeg)) 10 (Mbox (Mstate 2).toNatClampNeg)) 11 (Mbox (Mstate 7).toNatClampNeg)) 12 (Mbox (Mstate 12).toNatClampNeg)) 13 (Mbox (Mstate 1).toNatClampNeg)) 14 (Mbox (Mstate 6).toNatClampNeg)) 15 (Mbox (Mstate 11).toNatClampNeg))))] ∧ va_S A s.heap H_0 locs_0) (G := fun H_0 locs_0 ls_0 => W _ _ _ _ _ _ _ _ _ _ H_0 locs_0 _ _ _ (F0 _ 98 ls_0 [])) ?_ ?_ ⟨lv_sub hl_677 [0, 1, 2, 3, 4] rfl, hP_672, hD_672, hS_672⟩
  · intro j_694 i_694 z_694 H_694 locs_694 ls_694 hij_694 hz_694 hI_694 ih_694
    obtain ⟨hl_694, hP_694, hD_694, hS_694⟩ := hI_694
    replace hl_694 : lv_has ls_694 5 [(2, .int (nI i_694)), (3, .int 4), (4, .int 2), (0, .ref o), (1, .int 0)] := hl_694
    replace hP_694 : va_P E.1 vwCl [(o, .inr (12, [.int Mthrown, .int (nI rv), .ref a_user, .int (nI Musers), .ref a_owner, .int (nI Mowners), .ref a_tried, .int (nI Mtries), .ref a_id, .int (nI Mids), .ref a_tape, .int (nI Mtaped), .int (nI Mtaken), .int MisPlain, .int Mpermissions, .ref a_entries, .ref a_sizes, .ref a_key, .int MisOpen, .int Mfilter, .int (nI Mcollected), .ref a_bytes, .int Mobject, .int MisBack, .int (nI MoutSize), .ref a_out, .int (nI Msaid), .ref a_message, .ref a_digest, .ref a_words, .ref a_h, .ref a_v, .ref a_fillBytes, .ref a_sines, .ref a_roots, .ref a_box, .ref a_backBox, .ref a_roundKeys, .int (nI Mrounds), .ref a_state, .ref a_other, .ref a_stream, .ref a_work, .ref a_padded, .ref a_ownKey])), (a_box, .inl (E.2.1, 256, .inl Mbox)), (a_state, .inl (E.2.1, 16, .inl z_694)), (a_other, .inl (E.2.1, 16, .inl (upd (upd (upd (upd (upd (upd (upd (upd (upd (upd (upd (upd (upd (upd (upd (upd Mother 0 (Mbox (Mstate 0).toNatClampNeg)) 1 (Mbox (Mstate 5).toNatClampNeg)) 2 (Mbox (Mstate 10).toNatClampNeg)) 3 (Mbox (Mstate 15).toNatClampNeg)) 4 (Mbox (Mstate 4).toNatClampNeg)) 5 (Mbox (Mstate 9).toNatClampNeg)) 6 (Mbox (Mstate 14).toNatClampNeg)) 7 (Mbox (Mstate 3).toNatClampNeg)) 8 (Mbox (Mstate 8).toNatClampNeg)) 9 (Mbox (Mstate 13).toNatClampNeg)) 10 (Mbox (Mstate 2).toNatClampNeg)) 11 (Mbox (Mstate 7).toNatClampNeg)) 12 (Mbox (Mstate 12).toNatClampNeg)) 13 (Mbox (Mstate 1).toNatClampNeg)) 14 (Mbox (Mstate 6).toNatClampNeg)) 15 (Mbox (Mstate 11).toNatClampNeg))))] H_694 := hP_694
    replace hD_694 : va_D A [(o, .inr (12, [.int Mthrown, .int (nI rv), .ref a_user, .int (nI Musers), .ref a_owner, .int (nI Mowners), .ref a_tried, .int (nI Mtries), .ref a_id, .int (nI Mids), .ref a_tape, .int (nI Mtaped), .int (nI Mtaken), .int MisPlain, .int Mpermissions, .ref a_entries, .ref a_sizes, .ref a_key, .int MisOpen, .int Mfilter, .int (nI Mcollected), .ref a_bytes, .int Mobject, .int MisBack, .int (nI MoutSize), .ref a_out, .int (nI Msaid), .ref a_message, .ref a_digest, .ref a_words, .ref a_h, .ref a_v, .ref a_fillBytes, .ref a_sines, .ref a_roots, .ref a_box, .ref a_backBox, .ref a_roundKeys, .int (nI Mrounds), .ref a_state, .ref a_other, .ref a_stream, .ref a_work, .ref a_padded, .ref a_ownKey])), (a_box, .inl (E.2.1, 256, .inl Mbox)), (a_state, .inl (E.2.1, 16, .inl z_694)), (a_other, .inl (E.2.1, 16, .inl (upd (upd (upd (upd (upd (upd (upd (upd (upd (upd (upd (upd (upd (upd (upd (upd Mother 0 (Mbox (Mstate 0).toNatClampNeg)) 1 (Mbox (Mstate 5).toNatClampNeg)) 2 (Mbox (Mstate 10).toNatClampNeg)) 3 (Mbox (Mstate 15).toNatClampNeg)) 4 (Mbox (Mstate 4).toNatClampNeg)) 5 (Mbox (Mstate 9).toNatClampNeg)) 6 (Mbox (Mstate 14).toNatClampNeg)) 7 (Mbox (Mstate 3).toNatClampNeg)) 8 (Mbox (Mstate 8).toNatClampNeg)) 9 (Mbox (Mstate 13).toNatClampNeg)) 10 (Mbox (Mstate 2).toNatClampNeg)) 11 (Mbox (Mstate 7).toNatClampNeg)) 12 (Mbox (Mstate 12).toNatClampNeg)) 13 (Mbox (Mstate 1).toNatClampNeg)) 14 (Mbox (Mstate 6).toNatClampNeg)) 15 (Mbox (Mstate 11).toNatClampNeg))))] := hD_694
    clear hl_677 hP_672 hD_672 hS_672
    refine lv_iload_n hx hb dX11_substitute_98 rfl (lv_at hl_694 0 rfl) ?_
    refine lv_bipush (v := 16) hx hb dX11_substitute_99 (by decide) ?_
    refine lv_icmp_ge (tgt := 122) hx hb dX11_substitute_101 (by decide) (fun c_695 => (by have c_695 := (nI_leI (a := 16) (b := i_694) (by omega) (by omega)).mp c_695; exfalso; omega)) (fun c_695 => ?_)
    replace c_695 : ¬ 16 ≤ i_694 := (not_congr (nI_leI (a := 16) (b := i_694) (by omega) (by omega))).mp c_695
    refine lv_aload_n hx hb dX11_substitute_104 rfl (lv_at hl_694 3 rfl) ?_
    refine va_get (D := E.1) (ci := 12) (v := .ref a_state) (C := RX11) (T := TX11) (N := 45) hx hb hts in_X11 hown hK hP_694 0 rfl rfl 39 (by decide) w_2 (fun _ h9 => h9) rfl dX11_substitute_105 ?_
    refine lv_iload_n hx hb dX11_substitute_108 rfl (lv_at hl_694 0 rfl) ?_
    refine lv_aload_n hx hb dX11_substitute_109 rfl (lv_at hl_694 3 rfl) ?_
    refine va_get (D := E.1) (ci := 12) (v := .ref a_other) (C := RX11) (T := TX11) (N := 45) hx hb hts in_X11 hown hK hP_694 0 rfl rfl 40 (by decide) w_0 (fun _ h9 => h9) rfl dX11_substitute_110 ?_
    refine lv_iload_n hx hb dX11_substitute_113 rfl (lv_at hl_694 0 rfl) ?_
    refine g_iald (e0 := i_694) hx hb hK hP_694 3 0 rfl rfl (by omega) (by omega) dX11_substitute_114 ?_
    refine g_iast (e0 := i_694) hx hb hK hP_694 hD_694 hS_694 2 0 rfl rfl (by omega) (by omega) dX11_substitute_115 (fun H_696 locs_696 hP_696 hD_696 hS_696 => ?_)
    replace hP_696 : va_P E.1 vwCl [(o, .inr (12, [.int Mthrown, .int (nI rv), .ref a_user, .int (nI Musers), .ref a_owner, .int (nI Mowners), .ref a_tried, .int (nI Mtries), .ref a_id, .int (nI Mids), .ref a_tape, .int (nI Mtaped), .int (nI Mtaken), .int MisPlain, .int Mpermissions, .ref a_entries, .ref a_sizes, .ref a_key, .int MisOpen, .int Mfilter, .int (nI Mcollected), .ref a_bytes, .int Mobject, .int MisBack, .int (nI MoutSize), .ref a_out, .int (nI Msaid), .ref a_message, .ref a_digest, .ref a_words, .ref a_h, .ref a_v, .ref a_fillBytes, .ref a_sines, .ref a_roots, .ref a_box, .ref a_backBox, .ref a_roundKeys, .int (nI Mrounds), .ref a_state, .ref a_other, .ref a_stream, .ref a_work, .ref a_padded, .ref a_ownKey])), (a_box, .inl (E.2.1, 256, .inl Mbox)), (a_state, .inl (E.2.1, 16, .inl (upd z_694 i_694 ((upd (upd (upd (upd (upd (upd (upd (upd (upd (upd (upd (upd (upd (upd (upd (upd Mother 0 (Mbox (Mstate 0).toNatClampNeg)) 1 (Mbox (Mstate 5).toNatClampNeg)) 2 (Mbox (Mstate 10).toNatClampNeg)) 3 (Mbox (Mstate 15).toNatClampNeg)) 4 (Mbox (Mstate 4).toNatClampNeg)) 5 (Mbox (Mstate 9).toNatClampNeg)) 6 (Mbox (Mstate 14).toNatClampNeg)) 7 (Mbox (Mstate 3).toNatClampNeg)) 8 (Mbox (Mstate 8).toNatClampNeg)) 9 (Mbox (Mstate 13).toNatClampNeg)) 10 (Mbox (Mstate 2).toNatClampNeg)) 11 (Mbox (Mstate 7).toNatClampNeg)) 12 (Mbox (Mstate 12).toNatClampNeg)) 13 (Mbox (Mstate 1).toNatClampNeg)) 14 (Mbox (Mstate 6).toNatClampNeg)) 15 (Mbox (Mstate 11).toNatClampNeg)) i_694)))), (a_other, .inl (E.2.1, 16, .inl (upd (upd (upd (upd (upd (upd (upd (upd (upd (upd (upd (upd (upd (upd (upd (upd Mother 0 (Mbox (Mstate 0).toNatClampNeg)) 1 (Mbox (Mstate 5).toNatClampNeg)) 2 (Mbox (Mstate 10).toNatClampNeg)) 3 (Mbox (Mstate 15).toNatClampNeg)) 4 (Mbox (Mstate 4).toNatClampNeg)) 5 (Mbox (Mstate 9).toNatClampNeg)) 6 (Mbox (Mstate 14).toNatClampNeg)) 7 (Mbox (Mstate 3).toNatClampNeg)) 8 (Mbox (Mstate 8).toNatClampNeg)) 9 (Mbox (Mstate 13).toNatClampNeg)) 10 (Mbox (Mstate 2).toNatClampNeg)) 11 (Mbox (Mstate 7).toNatClampNeg)) 12 (Mbox (Mstate 12).toNatClampNeg)) 13 (Mbox (Mstate 1).toNatClampNeg)) 14 (Mbox (Mstate 6).toNatClampNeg)) 15 (Mbox (Mstate 11).toNatClampNeg))))] H_696 := hP_696
    replace hD_696 : va_D A [(o, .inr (12, [.int Mthrown, .int (nI rv), .ref a_user, .int (nI Musers), .ref a_owner, .int (nI Mowners), .ref a_tried, .int (nI Mtries), .ref a_id, .int (nI Mids), .ref a_tape, .int (nI Mtaped), .int (nI Mtaken), .int MisPlain, .int Mpermissions, .ref a_entries, .ref a_sizes, .ref a_key, .int MisOpen, .int Mfilter, .int (nI Mcollected), .ref a_bytes, .int Mobject, .int MisBack, .int (nI MoutSize), .ref a_out, .int (nI Msaid), .ref a_message, .ref a_digest, .ref a_words, .ref a_h, .ref a_v, .ref a_fillBytes, .ref a_sines, .ref a_roots, .ref a_box, .ref a_backBox, .ref a_roundKeys, .int (nI Mrounds), .ref a_state, .ref a_other, .ref a_stream, .ref a_work, .ref a_padded, .ref a_ownKey])), (a_box, .inl (E.2.1, 256, .inl Mbox)), (a_state, .inl (E.2.1, 16, .inl (upd z_694 i_694 ((upd (upd (upd (upd (upd (upd (upd (upd (upd (upd (upd (upd (upd (upd (upd (upd Mother 0 (Mbox (Mstate 0).toNatClampNeg)) 1 (Mbox (Mstate 5).toNatClampNeg)) 2 (Mbox (Mstate 10).toNatClampNeg)) 3 (Mbox (Mstate 15).toNatClampNeg)) 4 (Mbox (Mstate 4).toNatClampNeg)) 5 (Mbox (Mstate 9).toNatClampNeg)) 6 (Mbox (Mstate 14).toNatClampNeg)) 7 (Mbox (Mstate 3).toNatClampNeg)) 8 (Mbox (Mstate 8).toNatClampNeg)) 9 (Mbox (Mstate 13).toNatClampNeg)) 10 (Mbox (Mstate 2).toNatClampNeg)) 11 (Mbox (Mstate 7).toNatClampNeg)) 12 (Mbox (Mstate 12).toNatClampNeg)) 13 (Mbox (Mstate 1).toNatClampNeg)) 14 (Mbox (Mstate 6).toNatClampNeg)) 15 (Mbox (Mstate 11).toNatClampNeg)) i_694)))), (a_other, .inl (E.2.1, 16, .inl (upd (upd (upd (upd (upd (upd (upd (upd (upd (upd (upd (upd (upd (upd (upd (upd Mother 0 (Mbox (Mstate 0).toNatClampNeg)) 1 (Mbox (Mstate 5).toNatClampNeg)) 2 (Mbox (Mstate 10).toNatClampNeg)) 3 (Mbox (Mstate 15).toNatClampNeg)) 4 (Mbox (Mstate 4).toNatClampNeg)) 5 (Mbox (Mstate 9).toNatClampNeg)) 6 (Mbox (Mstate 14).toNatClampNeg)) 7 (Mbox (Mstate 3).toNatClampNeg)) 8 (Mbox (Mstate 8).toNatClampNeg)) 9 (Mbox (Mstate 13).toNatClampNeg)) 10 (Mbox (Mstate 2).toNatClampNeg)) 11 (Mbox (Mstate 7).toNatClampNeg)) 12 (Mbox (Mstate 12).toNatClampNeg)) 13 (Mbox (Mstate 1).toNatClampNeg)) 14 (Mbox (Mstate 6).toNatClampNeg)) 15 (Mbox (Mstate 11).toNatClampNeg))))] := hD_696
    clear hP_694 hD_694 hS_694
    refine lv_iinc (v := (nI (i_694 + 1))) (lv' := [(2, .int (nI (i_694 + 1))), (3, .int 4), (4, .int 2), (0, .ref o), (1, .int 0)]) hx hb dX11_substitute_116 hl_694 (k := 0) rfl (nI_add _ 1) (by decide) rfl (fun ls_697 hl_697 => ?_)
    clear hl_694
    refine lv_goto (tgt := 98) hx hb dX11_substitute_119 (by decide) ?_
    exact ih_694 ((upd z_694 i_694 ((upd (upd (upd (upd (upd (upd (upd (upd (upd (upd (upd (upd (upd (upd (upd (upd Mother 0 (Mbox (Mstate 0).toNatClampNeg)) 1 (Mbox (Mstate 5).toNatClampNeg)) 2 (Mbox (Mstate 10).toNatClampNeg)) 3 (Mbox (Mstate 15).toNatClampNeg)) 4 (Mbox (Mstate 4).toNatClampNeg)) 5 (Mbox (Mstate 9).toNatClampNeg)) 6 (Mbox (Mstate 14).toNatClampNeg)) 7 (Mbox (Mstate 3).toNatClampNeg)) 8 (Mbox (Mstate 8).toNatClampNeg)) 9 (Mbox (Mstate 13).toNatClampNeg)) 10 (Mbox (Mstate 2).toNatClampNeg)) 11 (Mbox (Mstate 7).toNatClampNeg)) 12 (Mbox (Mstate 12).toNatClampNeg)) 13 (Mbox (Mstate 1).toNatClampNeg)) 14 (Mbox (Mstate 6).toNatClampNeg)) 15 (Mbox (Mstate 11).toNatClampNeg)) i_694)) : Nat → Int32) _ _ _ (((show (B_X11_substitute_0_98 Mother Mbox Mstate) i_694 z_694 = _ from rfl).symm.trans (congrArg ((B_X11_substitute_0_98 Mother Mbox Mstate) i_694) hz_694)).trans (itr_s _ _ _).symm) ⟨lv_sub hl_697 [0, 1, 2, 3, 4] rfl, (hP_696.sub [0, 1, 2, 3] rfl), (hD_696.sub [0, 1, 2, 3] (by decide) rfl), hS_696⟩
  · intro z_698 H_698 locs_698 ls_698 hz_698 hI_698
    obtain ⟨hl_698, hP_698, hD_698, hS_698⟩ := hI_698
    replace hl_698 : lv_has ls_698 5 [(2, .int (nI 16)), (3, .int 4), (4, .int 2), (0, .ref o), (1, .int 0)] := hl_698
    replace hP_698 : va_P E.1 vwCl [(o, .inr (12, [.int Mthrown, .int (nI rv), .ref a_user, .int (nI Musers), .ref a_owner, .int (nI Mowners), .ref a_tried, .int (nI Mtries), .ref a_id, .int (nI Mids), .ref a_tape, .int (nI Mtaped), .int (nI Mtaken), .int MisPlain, .int Mpermissions, .ref a_entries, .ref a_sizes, .ref a_key, .int MisOpen, .int Mfilter, .int (nI Mcollected), .ref a_bytes, .int Mobject, .int MisBack, .int (nI MoutSize), .ref a_out, .int (nI Msaid), .ref a_message, .ref a_digest, .ref a_words, .ref a_h, .ref a_v, .ref a_fillBytes, .ref a_sines, .ref a_roots, .ref a_box, .ref a_backBox, .ref a_roundKeys, .int (nI Mrounds), .ref a_state, .ref a_other, .ref a_stream, .ref a_work, .ref a_padded, .ref a_ownKey])), (a_box, .inl (E.2.1, 256, .inl Mbox)), (a_state, .inl (E.2.1, 16, .inl z_698)), (a_other, .inl (E.2.1, 16, .inl (upd (upd (upd (upd (upd (upd (upd (upd (upd (upd (upd (upd (upd (upd (upd (upd Mother 0 (Mbox (Mstate 0).toNatClampNeg)) 1 (Mbox (Mstate 5).toNatClampNeg)) 2 (Mbox (Mstate 10).toNatClampNeg)) 3 (Mbox (Mstate 15).toNatClampNeg)) 4 (Mbox (Mstate 4).toNatClampNeg)) 5 (Mbox (Mstate 9).toNatClampNeg)) 6 (Mbox (Mstate 14).toNatClampNeg)) 7 (Mbox (Mstate 3).toNatClampNeg)) 8 (Mbox (Mstate 8).toNatClampNeg)) 9 (Mbox (Mstate 13).toNatClampNeg)) 10 (Mbox (Mstate 2).toNatClampNeg)) 11 (Mbox (Mstate 7).toNatClampNeg)) 12 (Mbox (Mstate 12).toNatClampNeg)) 13 (Mbox (Mstate 1).toNatClampNeg)) 14 (Mbox (Mstate 6).toNatClampNeg)) 15 (Mbox (Mstate 11).toNatClampNeg))))] H_698 := hP_698
    replace hD_698 : va_D A [(o, .inr (12, [.int Mthrown, .int (nI rv), .ref a_user, .int (nI Musers), .ref a_owner, .int (nI Mowners), .ref a_tried, .int (nI Mtries), .ref a_id, .int (nI Mids), .ref a_tape, .int (nI Mtaped), .int (nI Mtaken), .int MisPlain, .int Mpermissions, .ref a_entries, .ref a_sizes, .ref a_key, .int MisOpen, .int Mfilter, .int (nI Mcollected), .ref a_bytes, .int Mobject, .int MisBack, .int (nI MoutSize), .ref a_out, .int (nI Msaid), .ref a_message, .ref a_digest, .ref a_words, .ref a_h, .ref a_v, .ref a_fillBytes, .ref a_sines, .ref a_roots, .ref a_box, .ref a_backBox, .ref a_roundKeys, .int (nI Mrounds), .ref a_state, .ref a_other, .ref a_stream, .ref a_work, .ref a_padded, .ref a_ownKey])), (a_box, .inl (E.2.1, 256, .inl Mbox)), (a_state, .inl (E.2.1, 16, .inl z_698)), (a_other, .inl (E.2.1, 16, .inl (upd (upd (upd (upd (upd (upd (upd (upd (upd (upd (upd (upd (upd (upd (upd (upd Mother 0 (Mbox (Mstate 0).toNatClampNeg)) 1 (Mbox (Mstate 5).toNatClampNeg)) 2 (Mbox (Mstate 10).toNatClampNeg)) 3 (Mbox (Mstate 15).toNatClampNeg)) 4 (Mbox (Mstate 4).toNatClampNeg)) 5 (Mbox (Mstate 9).toNatClampNeg)) 6 (Mbox (Mstate 14).toNatClampNeg)) 7 (Mbox (Mstate 3).toNatClampNeg)) 8 (Mbox (Mstate 8).toNatClampNeg)) 9 (Mbox (Mstate 13).toNatClampNeg)) 10 (Mbox (Mstate 2).toNatClampNeg)) 11 (Mbox (Mstate 7).toNatClampNeg)) 12 (Mbox (Mstate 12).toNatClampNeg)) 13 (Mbox (Mstate 1).toNatClampNeg)) 14 (Mbox (Mstate 6).toNatClampNeg)) 15 (Mbox (Mstate 11).toNatClampNeg))))] := hD_698
    clear hl_677 hP_672 hD_672 hS_672
    refine lv_iload_n hx hb dX11_substitute_98 rfl (lv_at hl_698 0 rfl) ?_
    refine lv_bipush (v := 16) hx hb dX11_substitute_99 (by decide) ?_
    refine lv_icmp_ge (tgt := 122) hx hb dX11_substitute_101 (by decide) (fun c_699 => ?_) (fun c_699 => (by have c_699 := (not_congr (nI_leI (a := 16) (b := 16) (by omega) (by omega))).mp c_699; exfalso; omega))
    replace c_699 : 16 ≤ 16 := (nI_leI (a := 16) (b := 16) (by omega) (by omega)).mp c_699
    have hpost : ((z_698, (upd (upd (upd (upd (upd (upd (upd (upd (upd (upd (upd (upd (upd (upd (upd (upd Mother 0 (Mbox (Mstate 0).toNatClampNeg)) 1 (Mbox (Mstate 5).toNatClampNeg)) 2 (Mbox (Mstate 10).toNatClampNeg)) 3 (Mbox (Mstate 15).toNatClampNeg)) 4 (Mbox (Mstate 4).toNatClampNeg)) 5 (Mbox (Mstate 9).toNatClampNeg)) 6 (Mbox (Mstate 14).toNatClampNeg)) 7 (Mbox (Mstate 3).toNatClampNeg)) 8 (Mbox (Mstate 8).toNatClampNeg)) 9 (Mbox (Mstate 13).toNatClampNeg)) 10 (Mbox (Mstate 2).toNatClampNeg)) 11 (Mbox (Mstate 7).toNatClampNeg)) 12 (Mbox (Mstate 12).toNatClampNeg)) 13 (Mbox (Mstate 1).toNatClampNeg)) 14 (Mbox (Mstate 6).toNatClampNeg)) 15 (Mbox (Mstate 11).toNatClampNeg))) : (Nat → Int32) × (Nat → Int32)) = F_X11_substitute_0 Mbox Mstate Mother := (show F_X11_substitute_0 Mbox Mstate Mother = ((z_698, (upd (upd (upd (upd (upd (upd (upd (upd (upd (upd (upd (upd (upd (upd (upd (upd Mother 0 (Mbox (Mstate 0).toNatClampNeg)) 1 (Mbox (Mstate 5).toNatClampNeg)) 2 (Mbox (Mstate 10).toNatClampNeg)) 3 (Mbox (Mstate 15).toNatClampNeg)) 4 (Mbox (Mstate 4).toNatClampNeg)) 5 (Mbox (Mstate 9).toNatClampNeg)) 6 (Mbox (Mstate 14).toNatClampNeg)) 7 (Mbox (Mstate 3).toNatClampNeg)) 8 (Mbox (Mstate 8).toNatClampNeg)) 9 (Mbox (Mstate 13).toNatClampNeg)) 10 (Mbox (Mstate 2).toNatClampNeg)) 11 (Mbox (Mstate 7).toNatClampNeg)) 12 (Mbox (Mstate 12).toNatClampNeg)) 13 (Mbox (Mstate 1).toNatClampNeg)) 14 (Mbox (Mstate 6).toNatClampNeg)) 15 (Mbox (Mstate 11).toNatClampNeg))) : (Nat → Int32) × (Nat → Int32)) from (gLet_eq hz_698 rfl)).symm
    have hP9 := hP_698.sub (ws' := [(o, .inr (12, [.int Mthrown, .int (nI rv), .ref a_user, .int (nI Musers), .ref a_owner, .int (nI Mowners), .ref a_tried, .int (nI Mtries), .ref a_id, .int (nI Mids), .ref a_tape, .int (nI Mtaped), .int (nI Mtaken), .int MisPlain, .int Mpermissions, .ref a_entries, .ref a_sizes, .ref a_key, .int MisOpen, .int Mfilter, .int (nI Mcollected), .ref a_bytes, .int Mobject, .int MisBack, .int (nI MoutSize), .ref a_out, .int (nI Msaid), .ref a_message, .ref a_digest, .ref a_words, .ref a_h, .ref a_v, .ref a_fillBytes, .ref a_sines, .ref a_roots, .ref a_box, .ref a_backBox, .ref a_roundKeys, .int (nI Mrounds), .ref a_state, .ref a_other, .ref a_stream, .ref a_work, .ref a_padded, .ref a_ownKey])), (a_box, .inl (E.2.1, 256, .inl Mbox)), (a_state, .inl (E.2.1, 16, .inl z_698)), (a_other, .inl (E.2.1, 16, .inl (upd (upd (upd (upd (upd (upd (upd (upd (upd (upd (upd (upd (upd (upd (upd (upd Mother 0 (Mbox (Mstate 0).toNatClampNeg)) 1 (Mbox (Mstate 5).toNatClampNeg)) 2 (Mbox (Mstate 10).toNatClampNeg)) 3 (Mbox (Mstate 15).toNatClampNeg)) 4 (Mbox (Mstate 4).toNatClampNeg)) 5 (Mbox (Mstate 9).toNatClampNeg)) 6 (Mbox (Mstate 14).toNatClampNeg)) 7 (Mbox (Mstate 3).toNatClampNeg)) 8 (Mbox (Mstate 8).toNatClampNeg)) 9 (Mbox (Mstate 13).toNatClampNeg)) 10 (Mbox (Mstate 2).toNatClampNeg)) 11 (Mbox (Mstate 7).toNatClampNeg)) 12 (Mbox (Mstate 12).toNatClampNeg)) 13 (Mbox (Mstate 1).toNatClampNeg)) 14 (Mbox (Mstate 6).toNatClampNeg)) 15 (Mbox (Mstate 11).toNatClampNeg))))]) [0, 1, 2, 3] rfl
    have hD9 := hD_698.sub (ws' := [(o, .inr (12, [.int Mthrown, .int (nI rv), .ref a_user, .int (nI Musers), .ref a_owner, .int (nI Mowners), .ref a_tried, .int (nI Mtries), .ref a_id, .int (nI Mids), .ref a_tape, .int (nI Mtaped), .int (nI Mtaken), .int MisPlain, .int Mpermissions, .ref a_entries, .ref a_sizes, .ref a_key, .int MisOpen, .int Mfilter, .int (nI Mcollected), .ref a_bytes, .int Mobject, .int MisBack, .int (nI MoutSize), .ref a_out, .int (nI Msaid), .ref a_message, .ref a_digest, .ref a_words, .ref a_h, .ref a_v, .ref a_fillBytes, .ref a_sines, .ref a_roots, .ref a_box, .ref a_backBox, .ref a_roundKeys, .int (nI Mrounds), .ref a_state, .ref a_other, .ref a_stream, .ref a_work, .ref a_padded, .ref a_ownKey])), (a_box, .inl (E.2.1, 256, .inl Mbox)), (a_state, .inl (E.2.1, 16, .inl z_698)), (a_other, .inl (E.2.1, 16, .inl (upd (upd (upd (upd (upd (upd (upd (upd (upd (upd (upd (upd (upd (upd (upd (upd Mother 0 (Mbox (Mstate 0).toNatClampNeg)) 1 (Mbox (Mstate 5).toNatClampNeg)) 2 (Mbox (Mstate 10).toNatClampNeg)) 3 (Mbox (Mstate 15).toNatClampNeg)) 4 (Mbox (Mstate 4).toNatClampNeg)) 5 (Mbox (Mstate 9).toNatClampNeg)) 6 (Mbox (Mstate 14).toNatClampNeg)) 7 (Mbox (Mstate 3).toNatClampNeg)) 8 (Mbox (Mstate 8).toNatClampNeg)) 9 (Mbox (Mstate 13).toNatClampNeg)) 10 (Mbox (Mstate 2).toNatClampNeg)) 11 (Mbox (Mstate 7).toNatClampNeg)) 12 (Mbox (Mstate 12).toNatClampNeg)) 13 (Mbox (Mstate 1).toNatClampNeg)) 14 (Mbox (Mstate 6).toNatClampNeg)) 15 (Mbox (Mstate 11).toNatClampNeg))))]) [0, 1, 2, 3] (by decide) rfl
    exact W.vret hx hb hr (fun t ht hW => ⟨⟨(z_698, (upd (upd (upd (upd (upd (upd (upd (upd (upd (upd (upd (upd (upd (upd (upd (upd Mother 0 (Mbox (Mstate 0).toNatClampNeg)) 1 (Mbox (Mstate 5).toNatClampNeg)) 2 (Mbox (Mstate 10).toNatClampNeg)) 3 (Mbox (Mstate 15).toNatClampNeg)) 4 (Mbox (Mstate 4).toNatClampNeg)) 5 (Mbox (Mstate 9).toNatClampNeg)) 6 (Mbox (Mstate 14).toNatClampNeg)) 7 (Mbox (Mstate 3).toNatClampNeg)) 8 (Mbox (Mstate 8).toNatClampNeg)) 9 (Mbox (Mstate 13).toNatClampNeg)) 10 (Mbox (Mstate 2).toNatClampNeg)) 11 (Mbox (Mstate 7).toNatClampNeg)) 12 (Mbox (Mstate 12).toNatClampNeg)) 13 (Mbox (Mstate 1).toNatClampNeg)) 14 (Mbox (Mstate 6).toNatClampNeg)) 15 (Mbox (Mstate 11).toNatClampNeg))), rfl, hpost, by rw [ht]; exact hP9, hD9⟩, hS_698.F ht⟩) hS_698.2.2 dX11_substitute_122
set_option maxHeartbeats 4000000 in
set_option maxRecDepth 100000 in
theorem k_X11_substitute_1 (E : gE) (l : Launch) (o a_user a_owner a_tried a_id a_tape a_entries a_sizes a_key a_bytes a_out a_message a_digest a_words a_h a_v a_fillBytes a_sines a_roots a_box a_backBox a_roundKeys a_state a_other a_stream a_work a_padded a_ownKey : Nat) (rv : Nat) (Mthrown : Int32) (Musers : Nat) (Mowners : Nat) (Mtries : Nat) (Mids : Nat) (Mtaped : Nat) (Mtaken : Nat) (MisPlain : Int32) (Mpermissions : Int32) (MisOpen : Int32) (Mfilter : Int32) (Mcollected : Nat) (Mobject : Int32) (MisBack : Int32) (MoutSize : Nat) (Msaid : Nat) (MbackBox : Nat → Int32) (Mrounds : Nat) (Mstate : Nat → Int32) (Mother : Nat → Int32) (hstB : ∀ k : Nat, k < 16 → isB (Mstate k)) : gMv E l yX11_substitute wsX11_substitute ({ frames := 0, cells := 0, slots := 0, locals := 0 }) 0 0 [.ref o, .int 1] [(o, .inr (12, [.int Mthrown, .int (nI rv), .ref a_user, .int (nI Musers), .ref a_owner, .int (nI Mowners), .ref a_tried, .int (nI Mtries), .ref a_id, .int (nI Mids), .ref a_tape, .int (nI Mtaped), .int (nI Mtaken), .int MisPlain, .int Mpermissions, .ref a_entries, .ref a_sizes, .ref a_key, .int MisOpen, .int Mfilter, .int (nI Mcollected), .ref a_bytes, .int Mobject, .int MisBack, .int (nI MoutSize), .ref a_out, .int (nI Msaid), .ref a_message, .ref a_digest, .ref a_words, .ref a_h, .ref a_v, .ref a_fillBytes, .ref a_sines, .ref a_roots, .ref a_box, .ref a_backBox, .ref a_roundKeys, .int (nI Mrounds), .ref a_state, .ref a_other, .ref a_stream, .ref a_work, .ref a_padded, .ref a_ownKey])), (a_backBox, .inl (E.2.1, 256, .inl MbackBox)), (a_state, .inl (E.2.1, 16, .inl Mstate)), (a_other, .inl (E.2.1, 16, .inl Mother))] (fun (uu : (Nat → Int32) × (Nat → Int32)) => uu = F_X11_substitute_1 MbackBox Mstate Mother) (fun (uu : (Nat → Int32) × (Nat → Int32)) => [(o, .inr (12, [.int Mthrown, .int (nI rv), .ref a_user, .int (nI Musers), .ref a_owner, .int (nI Mowners), .ref a_tried, .int (nI Mtries), .ref a_id, .int (nI Mids), .ref a_tape, .int (nI Mtaped), .int (nI Mtaken), .int MisPlain, .int Mpermissions, .ref a_entries, .ref a_sizes, .ref a_key, .int MisOpen, .int Mfilter, .int (nI Mcollected), .ref a_bytes, .int Mobject, .int MisBack, .int (nI MoutSize), .ref a_out, .int (nI Msaid), .ref a_message, .ref a_digest, .ref a_words, .ref a_h, .ref a_v, .ref a_fillBytes, .ref a_sines, .ref a_roots, .ref a_box, .ref a_backBox, .ref a_roundKeys, .int (nI Mrounds), .ref a_state, .ref a_other, .ref a_stream, .ref a_work, .ref a_padded, .ref a_ownKey])), (a_backBox, .inl (E.2.1, 256, .inl MbackBox)), (a_state, .inl (E.2.1, 16, .inl uu.1)), (a_other, .inl (E.2.1, 16, .inl uu.2))]) := by
  intro sz
  refine Met.ofW (cc := cX11_substitute) (maxL := 5) (ret := none) (by decide) rfl ?_
  intro p e s m args below meth c s₁ B hml hv
  obtain ⟨rfl, hsz, hP, hV, hD0⟩ := hv
  have hx := B.exec
  have hb := B.bytes
  have hr := B.returns
  have hts := atoms_spec (ws := wsX11_substitute) B.pre
  have hown : s.vm.findClass RX11 = some m.cls := findClass_of_methodNamed B.named
  have hlocks := B.notSynchronized
  subst hsz
  have hD := hD0.self (sz := s.heap.size)
  clear hD0
  generalize hAe : va_A [(o, .inr (12, [.int Mthrown, .int (nI rv), .ref a_user, .int (nI Musers), .ref a_owner, .int (nI Mowners), .ref a_tried, .int (nI Mtries), .ref a_id, .int (nI Mids), .ref a_tape, .int (nI Mtaped), .int (nI Mtaken), .int MisPlain, .int Mpermissions, .ref a_entries, .ref a_sizes, .ref a_key, .int MisOpen, .int Mfilter, .int (nI Mcollected), .ref a_bytes, .int Mobject, .int MisBack, .int (nI MoutSize), .ref a_out, .int (nI Msaid), .ref a_message, .ref a_digest, .ref a_words, .ref a_h, .ref a_v, .ref a_fillBytes, .ref a_sines, .ref a_roots, .ref a_box, .ref a_backBox, .ref a_roundKeys, .int (nI Mrounds), .ref a_state, .ref a_other, .ref a_stream, .ref a_work, .ref a_padded, .ref a_ownKey])), (a_backBox, .inl (E.2.1, 256, .inl MbackBox)), (a_state, .inl (E.2.1, 16, .inl Mstate)), (a_other, .inl (E.2.1, 16, .inl Mother))] s.heap.size = A at hD hV ⊢
  have hA : ∀ q : Nat, s.heap.size ≤ q → A q := fun q h => by rw [← hAe]; exact Or.inr h
  have hS : va_S A s.heap s.heap [] := va_S.rf
  have hK := hV.1
  have hF : CallFix p m c cX11_substitute 5 s _ wsX11_substitute RX11 := ⟨hx, hb, hml, hown, hts⟩
  have hl := lv_entry [.ref o, .int 1] (n := 5) (Nat.le_of_ble_eq_true rfl)
  rw [lg_entry_eq]
  generalize (lg_sl [.ref o, .int 1] ++ List.replicate (5 - (lg_sl [.ref o, .int 1]).length) Slot.unset).toArray = ls at hl ⊢
  have hl : lv_has ls 5 [(0, .ref o), (1, .int 1)] := hl
  have in_X11 : ∀ w ∈ wsX110, w ∈ wsX11_substitute := by decide +kernel
  have w_0 := hts (.fieldLink RX11 204 "CryptRowsModel" "other" "[I") (by decide +kernel)
  have w_1 := hts (.fieldLink RX11 195 "CryptRowsModel" "backBox" "[I") (by decide +kernel)
  have w_2 := hts (.fieldLink RX11 201 "CryptRowsModel" "state" "[I") (by decide +kernel)
  refine lv_iconst (v := 0) hx hb dX11_substitute_0 (by decide) ?_
  refine lv_istore_n (lv' := [(2, .int 0), (0, .ref o), (1, .int 1)]) hx hb dX11_substitute_1 rfl hl (by decide) rfl (fun ls_499 hl_499 => ?_)
  clear hl
  refine lv_iload_n hx hb dX11_substitute_2 rfl (lv_at hl_499 0 rfl) ?_
  refine lv_iconst (v := 4) hx hb dX11_substitute_3 (by decide) ?_
  refine lv_icmp_ge (tgt := 96) hx hb dX11_substitute_4 (by decide) (fun c_500 => absurd c_500 (by decide)) (fun c_500 => ?_)
  refine lv_iconst (v := 0) hx hb dX11_substitute_7 (by decide) ?_
  refine lv_istore_n (lv' := [(3, .int 0), (2, .int 0), (0, .ref o), (1, .int 1)]) hx hb dX11_substitute_8 rfl hl_499 (by decide) rfl (fun ls_501 hl_501 => ?_)
  clear hl_499
  refine lv_iload_n hx hb dX11_substitute_9 rfl (lv_at hl_501 0 rfl) ?_
  refine lv_iconst (v := 4) hx hb dX11_substitute_10 (by decide) ?_
  refine lv_icmp_ge (tgt := 90) hx hb dX11_substitute_11 (by decide) (fun c_502 => absurd c_502 (by decide)) (fun c_502 => ?_)
  refine lv_iload_n hx hb dX11_substitute_14 rfl (lv_at hl_501 3 rfl) ?_
  refine lv_if_eq (tgt := 28) hx hb dX11_substitute_15 (by decide) (fun c_503 => absurd c_503 (by decide)) (fun c_503 => ?_)
  refine lv_iload_n hx hb dX11_substitute_18 rfl (lv_at hl_501 1 rfl) ?_
  refine lv_iconst (v := 4) hx hb dX11_substitute_19 (by decide) ?_
  refine lv_iadd hx hb dX11_substitute_20 ?_
  refine lv_topi (fun y_504 ey_504 => ?_)
  obtain rfl : y_504 = 4 := ey_504.trans (by decide)
  refine lv_iload_n hx hb dX11_substitute_21 rfl (lv_at hl_501 0 rfl) ?_
  refine lv_isub hx hb dX11_substitute_22 ?_
  refine lv_topi (fun y_505 ey_505 => ?_)
  obtain rfl : y_505 = 4 := ey_505.trans (by decide)
  refine lv_iconst (v := 4) hx hb dX11_substitute_23 (by decide) ?_
  refine lv_irem hx hb dX11_substitute_24 (by decide) ?_
  refine lv_topi (fun y_506 ey_506 => ?_)
  obtain rfl : y_506 = 0 := ey_506.trans (by decide)
  refine lv_goto (tgt := 33) hx hb dX11_substitute_25 (by decide) ?_
  refine lv_istore (lv' := [(4, .int 0), (3, .int 0), (2, .int 0), (0, .ref o), (1, .int 1)]) hx hb dX11_substitute_33 hl_501 (by decide) rfl (fun ls_507 hl_507 => ?_)
  clear hl_501
  refine lv_aload_n hx hb dX11_substitute_35 rfl (lv_at hl_507 3 rfl) ?_
  refine va_get (D := E.1) (ci := 12) (v := .ref a_other) (C := RX11) (T := TX11) (N := 45) hx hb hts in_X11 hown hK hP 0 rfl rfl 40 (by decide) w_0 (fun _ h9 => h9) rfl dX11_substitute_36 ?_
  refine lv_iconst (v := 4) hx hb dX11_substitute_39 (by decide) ?_
  refine lv_iload_n hx hb dX11_substitute_40 rfl (lv_at hl_507 2 rfl) ?_
  refine lv_imul hx hb dX11_substitute_41 ?_
  refine lv_topi (fun y_508 ey_508 => ?_)
  obtain rfl : y_508 = 0 := ey_508.trans (by decide)
  refine lv_iload_n hx hb dX11_substitute_42 rfl (lv_at hl_507 1 rfl) ?_
  refine lv_iadd hx hb dX11_substitute_43 ?_
  refine lv_topi (fun y_509 ey_509 => ?_)
  obtain rfl : y_509 = 0 := ey_509.trans (by decide)
  refine lv_iload_n hx hb dX11_substitute_44 rfl (lv_at hl_507 4 rfl) ?_
  refine lv_if_eq (tgt := 67) hx hb dX11_substitute_45 (by decide) (fun c_510 => absurd c_510 (by decide)) (fun c_510 => ?_)
  refine lv_aload_n hx hb dX11_substitute_48 rfl (lv_at hl_507 3 rfl) ?_
  refine va_get (D := E.1) (ci := 12) (v := .ref a_backBox) (C := RX11) (T := TX11) (N := 45) hx hb hts in_X11 hown hK hP 0 rfl rfl 36 (by decide) w_1 (fun _ h9 => h9) rfl dX11_substitute_49 ?_
  refine lv_aload_n hx hb dX11_substitute_52 rfl (lv_at hl_507 3 rfl) ?_
  refine va_get (D := E.1) (ci := 12) (v := .ref a_state) (C := RX11) (T := TX11) (N := 45) hx hb hts in_X11 hown hK hP 0 rfl rfl 39 (by decide) w_2 (fun _ h9 => h9) rfl dX11_substitute_53 ?_
  refine lv_iconst (v := 4) hx hb dX11_substitute_56 (by decide) ?_
  refine lv_iload hx hb dX11_substitute_57 (lv_at hl_507 0 rfl) ?_
  refine lv_imul hx hb dX11_substitute_59 ?_
  refine lv_topi (fun y_511 ey_511 => ?_)
  obtain rfl : y_511 = 0 := ey_511.trans (by decide)
  refine lv_iload_n hx hb dX11_substitute_60 rfl (lv_at hl_507 1 rfl) ?_
  refine lv_iadd hx hb dX11_substitute_61 ?_
  refine lv_topi (fun y_512 ey_512 => ?_)
  obtain rfl : y_512 = 0 := ey_512.trans (by decide)
  refine g_iald (e0 := 0) hx hb hK hP 2 0 rfl rfl (by omega) (by omega) dX11_substitute_62 ?_
  refine va_iald hx hb hK hP 1 0 rfl rfl (isB_in (hstB _ (by omega))) dX11_substitute_63 ?_
  refine lv_goto (tgt := 83) hx hb dX11_substitute_64 (by decide) ?_
  refine g_iast (e0 := 0) hx hb hK hP hD hS 3 0 rfl rfl (by omega) (by omega) dX11_substitute_83 (fun H_513 locs_513 hP_513 hD_513 hS_513 => ?_)
  replace hP_513 : va_P E.1 vwCl [(o, .inr (12, [.int Mthrown, .int (nI rv), .ref a_user, .int (nI Musers), .ref a_owner, .int (nI Mowners), .ref a_tried, .int (nI Mtries), .ref a_id, .int (nI Mids), .ref a_tape, .int (nI Mtaped), .int (nI Mtaken), .int MisPlain, .int Mpermissions, .ref a_entries, .ref a_sizes, .ref a_key, .int MisOpen, .int Mfilter, .int (nI Mcollected), .ref a_bytes, .int Mobject, .int MisBack, .int (nI MoutSize), .ref a_out, .int (nI Msaid), .ref a_message, .ref a_digest, .ref a_words, .ref a_h, .ref a_v, .ref a_fillBytes, .ref a_sines, .ref a_roots, .ref a_box, .ref a_backBox, .ref a_roundKeys, .int (nI Mrounds), .ref a_state, .ref a_other, .ref a_stream, .ref a_work, .ref a_padded, .ref a_ownKey])), (a_backBox, .inl (E.2.1, 256, .inl MbackBox)), (a_state, .inl (E.2.1, 16, .inl Mstate)), (a_other, .inl (E.2.1, 16, .inl (upd Mother 0 (MbackBox (Mstate 0).toNatClampNeg))))] H_513 := hP_513
  replace hD_513 : va_D A [(o, .inr (12, [.int Mthrown, .int (nI rv), .ref a_user, .int (nI Musers), .ref a_owner, .int (nI Mowners), .ref a_tried, .int (nI Mtries), .ref a_id, .int (nI Mids), .ref a_tape, .int (nI Mtaped), .int (nI Mtaken), .int MisPlain, .int Mpermissions, .ref a_entries, .ref a_sizes, .ref a_key, .int MisOpen, .int Mfilter, .int (nI Mcollected), .ref a_bytes, .int Mobject, .int MisBack, .int (nI MoutSize), .ref a_out, .int (nI Msaid), .ref a_message, .ref a_digest, .ref a_words, .ref a_h, .ref a_v, .ref a_fillBytes, .ref a_sines, .ref a_roots, .ref a_box, .ref a_backBox, .ref a_roundKeys, .int (nI Mrounds), .ref a_state, .ref a_other, .ref a_stream, .ref a_work, .ref a_padded, .ref a_ownKey])), (a_backBox, .inl (E.2.1, 256, .inl MbackBox)), (a_state, .inl (E.2.1, 16, .inl Mstate)), (a_other, .inl (E.2.1, 16, .inl (upd Mother 0 (MbackBox (Mstate 0).toNatClampNeg))))] := hD_513
  clear hP hD hS
  refine lv_iinc (v := 1) (lv' := [(3, .int 1), (4, .int 0), (2, .int 0), (0, .ref o), (1, .int 1)]) hx hb dX11_substitute_84 hl_507 (k := 1) rfl (by decide) (by decide) rfl (fun ls_514 hl_514 => ?_)
  clear hl_507
  refine lv_goto (tgt := 9) hx hb dX11_substitute_87 (by decide) ?_
  refine lv_iload_n hx hb dX11_substitute_9 rfl (lv_at hl_514 0 rfl) ?_
  refine lv_iconst (v := 4) hx hb dX11_substitute_10 (by decide) ?_
  refine lv_icmp_ge (tgt := 90) hx hb dX11_substitute_11 (by decide) (fun c_515 => absurd c_515 (by decide)) (fun c_515 => ?_)
  refine lv_iload_n hx hb dX11_substitute_14 rfl (lv_at hl_514 4 rfl) ?_
  refine lv_if_eq (tgt := 28) hx hb dX11_substitute_15 (by decide) (fun c_516 => absurd c_516 (by decide)) (fun c_516 => ?_)
  refine lv_iload_n hx hb dX11_substitute_18 rfl (lv_at hl_514 2 rfl) ?_
  refine lv_iconst (v := 4) hx hb dX11_substitute_19 (by decide) ?_
  refine lv_iadd hx hb dX11_substitute_20 ?_
  refine lv_topi (fun y_517 ey_517 => ?_)
  obtain rfl : y_517 = 4 := ey_517.trans (by decide)
  refine lv_iload_n hx hb dX11_substitute_21 rfl (lv_at hl_514 0 rfl) ?_
  refine lv_isub hx hb dX11_substitute_22 ?_
  refine lv_topi (fun y_518 ey_518 => ?_)
  obtain rfl : y_518 = 3 := ey_518.trans (by decide)
  refine lv_iconst (v := 4) hx hb dX11_substitute_23 (by decide) ?_
  refine lv_irem hx hb dX11_substitute_24 (by decide) ?_
  refine lv_topi (fun y_519 ey_519 => ?_)
  obtain rfl : y_519 = 3 := ey_519.trans (by decide)
  refine lv_goto (tgt := 33) hx hb dX11_substitute_25 (by decide) ?_
  refine lv_istore (lv' := [(4, .int 3), (3, .int 1), (2, .int 0), (0, .ref o), (1, .int 1)]) hx hb dX11_substitute_33 hl_514 (by decide) rfl (fun ls_520 hl_520 => ?_)
  clear hl_514
  refine lv_aload_n hx hb dX11_substitute_35 rfl (lv_at hl_520 3 rfl) ?_
  refine va_get (D := E.1) (ci := 12) (v := .ref a_other) (C := RX11) (T := TX11) (N := 45) hx hb hts in_X11 hown hK hP_513 0 rfl rfl 40 (by decide) w_0 (fun _ h9 => h9) rfl dX11_substitute_36 ?_
  refine lv_iconst (v := 4) hx hb dX11_substitute_39 (by decide) ?_
  refine lv_iload_n hx hb dX11_substitute_40 rfl (lv_at hl_520 2 rfl) ?_
  refine lv_imul hx hb dX11_substitute_41 ?_
  refine lv_topi (fun y_521 ey_521 => ?_)
  obtain rfl : y_521 = 0 := ey_521.trans (by decide)
  refine lv_iload_n hx hb dX11_substitute_42 rfl (lv_at hl_520 1 rfl) ?_
  refine lv_iadd hx hb dX11_substitute_43 ?_
  refine lv_topi (fun y_522 ey_522 => ?_)
  obtain rfl : y_522 = 1 := ey_522.trans (by decide)
  refine lv_iload_n hx hb dX11_substitute_44 rfl (lv_at hl_520 4 rfl) ?_
  refine lv_if_eq (tgt := 67) hx hb dX11_substitute_45 (by decide) (fun c_523 => absurd c_523 (by decide)) (fun c_523 => ?_)
  refine lv_aload_n hx hb dX11_substitute_48 rfl (lv_at hl_520 3 rfl) ?_
  refine va_get (D := E.1) (ci := 12) (v := .ref a_backBox) (C := RX11) (T := TX11) (N := 45) hx hb hts in_X11 hown hK hP_513 0 rfl rfl 36 (by decide) w_1 (fun _ h9 => h9) rfl dX11_substitute_49 ?_
  refine lv_aload_n hx hb dX11_substitute_52 rfl (lv_at hl_520 3 rfl) ?_
  refine va_get (D := E.1) (ci := 12) (v := .ref a_state) (C := RX11) (T := TX11) (N := 45) hx hb hts in_X11 hown hK hP_513 0 rfl rfl 39 (by decide) w_2 (fun _ h9 => h9) rfl dX11_substitute_53 ?_
  refine lv_iconst (v := 4) hx hb dX11_substitute_56 (by decide) ?_
  refine lv_iload hx hb dX11_substitute_57 (lv_at hl_520 0 rfl) ?_
  refine lv_imul hx hb dX11_substitute_59 ?_
  refine lv_topi (fun y_524 ey_524 => ?_)
  obtain rfl : y_524 = 12 := ey_524.trans (by decide)
  refine lv_iload_n hx hb dX11_substitute_60 rfl (lv_at hl_520 1 rfl) ?_
  refine lv_iadd hx hb dX11_substitute_61 ?_
  refine lv_topi (fun y_525 ey_525 => ?_)
  obtain rfl : y_525 = 13 := ey_525.trans (by decide)
  refine g_iald (e0 := 13) hx hb hK hP_513 2 0 rfl rfl (by omega) (by omega) dX11_substitute_62 ?_
  refine va_iald hx hb hK hP_513 1 0 rfl rfl (isB_in (hstB _ (by omega))) dX11_substitute_63 ?_
  refine lv_goto (tgt := 83) hx hb dX11_substitute_64 (by decide) ?_
  refine g_iast (e0 := 1) hx hb hK hP_513 hD_513 hS_513 3 0 rfl rfl (by omega) (by omega) dX11_substitute_83 (fun H_526 locs_526 hP_526 hD_526 hS_526 => ?_)
  replace hP_526 : va_P E.1 vwCl [(o, .inr (12, [.int Mthrown, .int (nI rv), .ref a_user, .int (nI Musers), .ref a_owner, .int (nI Mowners), .ref a_tried, .int (nI Mtries), .ref a_id, .int (nI Mids), .ref a_tape, .int (nI Mtaped), .int (nI Mtaken), .int MisPlain, .int Mpermissions, .ref a_entries, .ref a_sizes, .ref a_key, .int MisOpen, .int Mfilter, .int (nI Mcollected), .ref a_bytes, .int Mobject, .int MisBack, .int (nI MoutSize), .ref a_out, .int (nI Msaid), .ref a_message, .ref a_digest, .ref a_words, .ref a_h, .ref a_v, .ref a_fillBytes, .ref a_sines, .ref a_roots, .ref a_box, .ref a_backBox, .ref a_roundKeys, .int (nI Mrounds), .ref a_state, .ref a_other, .ref a_stream, .ref a_work, .ref a_padded, .ref a_ownKey])), (a_backBox, .inl (E.2.1, 256, .inl MbackBox)), (a_state, .inl (E.2.1, 16, .inl Mstate)), (a_other, .inl (E.2.1, 16, .inl (upd (upd Mother 0 (MbackBox (Mstate 0).toNatClampNeg)) 1 (MbackBox (Mstate 13).toNatClampNeg))))] H_526 := hP_526
  replace hD_526 : va_D A [(o, .inr (12, [.int Mthrown, .int (nI rv), .ref a_user, .int (nI Musers), .ref a_owner, .int (nI Mowners), .ref a_tried, .int (nI Mtries), .ref a_id, .int (nI Mids), .ref a_tape, .int (nI Mtaped), .int (nI Mtaken), .int MisPlain, .int Mpermissions, .ref a_entries, .ref a_sizes, .ref a_key, .int MisOpen, .int Mfilter, .int (nI Mcollected), .ref a_bytes, .int Mobject, .int MisBack, .int (nI MoutSize), .ref a_out, .int (nI Msaid), .ref a_message, .ref a_digest, .ref a_words, .ref a_h, .ref a_v, .ref a_fillBytes, .ref a_sines, .ref a_roots, .ref a_box, .ref a_backBox, .ref a_roundKeys, .int (nI Mrounds), .ref a_state, .ref a_other, .ref a_stream, .ref a_work, .ref a_padded, .ref a_ownKey])), (a_backBox, .inl (E.2.1, 256, .inl MbackBox)), (a_state, .inl (E.2.1, 16, .inl Mstate)), (a_other, .inl (E.2.1, 16, .inl (upd (upd Mother 0 (MbackBox (Mstate 0).toNatClampNeg)) 1 (MbackBox (Mstate 13).toNatClampNeg))))] := hD_526
  clear hP_513 hD_513 hS_513
  refine lv_iinc (v := 2) (lv' := [(3, .int 2), (4, .int 3), (2, .int 0), (0, .ref o), (1, .int 1)]) hx hb dX11_substitute_84 hl_520 (k := 1) rfl (by decide) (by decide) rfl (fun ls_527 hl_527 => ?_)
  clear hl_520
  refine lv_goto (tgt := 9) hx hb dX11_substitute_87 (by decide) ?_
  refine lv_iload_n hx hb dX11_substitute_9 rfl (lv_at hl_527 0 rfl) ?_
  refine lv_iconst (v := 4) hx hb dX11_substitute_10 (by decide) ?_
  refine lv_icmp_ge (tgt := 90) hx hb dX11_substitute_11 (by decide) (fun c_528 => absurd c_528 (by decide)) (fun c_528 => ?_)
  refine lv_iload_n hx hb dX11_substitute_14 rfl (lv_at hl_527 4 rfl) ?_
  refine lv_if_eq (tgt := 28) hx hb dX11_substitute_15 (by decide) (fun c_529 => absurd c_529 (by decide)) (fun c_529 => ?_)
  refine lv_iload_n hx hb dX11_substitute_18 rfl (lv_at hl_527 2 rfl) ?_
  refine lv_iconst (v := 4) hx hb dX11_substitute_19 (by decide) ?_
  refine lv_iadd hx hb dX11_substitute_20 ?_
  refine lv_topi (fun y_530 ey_530 => ?_)
  obtain rfl : y_530 = 4 := ey_530.trans (by decide)
  refine lv_iload_n hx hb dX11_substitute_21 rfl (lv_at hl_527 0 rfl) ?_
  refine lv_isub hx hb dX11_substitute_22 ?_
  refine lv_topi (fun y_531 ey_531 => ?_)
  obtain rfl : y_531 = 2 := ey_531.trans (by decide)
  refine lv_iconst (v := 4) hx hb dX11_substitute_23 (by decide) ?_
  refine lv_irem hx hb dX11_substitute_24 (by decide) ?_
  refine lv_topi (fun y_532 ey_532 => ?_)
  obtain rfl : y_532 = 2 := ey_532.trans (by decide)
  refine lv_goto (tgt := 33) hx hb dX11_substitute_25 (by decide) ?_
  refine lv_istore (lv' := [(4, .int 2), (3, .int 2), (2, .int 0), (0, .ref o), (1, .int 1)]) hx hb dX11_substitute_33 hl_527 (by decide) rfl (fun ls_533 hl_533 => ?_)
  clear hl_527
  refine lv_aload_n hx hb dX11_substitute_35 rfl (lv_at hl_533 3 rfl) ?_
  refine va_get (D := E.1) (ci := 12) (v := .ref a_other) (C := RX11) (T := TX11) (N := 45) hx hb hts in_X11 hown hK hP_526 0 rfl rfl 40 (by decide) w_0 (fun _ h9 => h9) rfl dX11_substitute_36 ?_
  refine lv_iconst (v := 4) hx hb dX11_substitute_39 (by decide) ?_
  refine lv_iload_n hx hb dX11_substitute_40 rfl (lv_at hl_533 2 rfl) ?_
  refine lv_imul hx hb dX11_substitute_41 ?_
  refine lv_topi (fun y_534 ey_534 => ?_)
  obtain rfl : y_534 = 0 := ey_534.trans (by decide)
  refine lv_iload_n hx hb dX11_substitute_42 rfl (lv_at hl_533 1 rfl) ?_
  refine lv_iadd hx hb dX11_substitute_43 ?_
  refine lv_topi (fun y_535 ey_535 => ?_)
  obtain rfl : y_535 = 2 := ey_535.trans (by decide)
  refine lv_iload_n hx hb dX11_substitute_44 rfl (lv_at hl_533 4 rfl) ?_
  refine lv_if_eq (tgt := 67) hx hb dX11_substitute_45 (by decide) (fun c_536 => absurd c_536 (by decide)) (fun c_536 => ?_)
  refine lv_aload_n hx hb dX11_substitute_48 rfl (lv_at hl_533 3 rfl) ?_
  refine va_get (D := E.1) (ci := 12) (v := .ref a_backBox) (C := RX11) (T := TX11) (N := 45) hx hb hts in_X11 hown hK hP_526 0 rfl rfl 36 (by decide) w_1 (fun _ h9 => h9) rfl dX11_substitute_49 ?_
  refine lv_aload_n hx hb dX11_substitute_52 rfl (lv_at hl_533 3 rfl) ?_
  refine va_get (D := E.1) (ci := 12) (v := .ref a_state) (C := RX11) (T := TX11) (N := 45) hx hb hts in_X11 hown hK hP_526 0 rfl rfl 39 (by decide) w_2 (fun _ h9 => h9) rfl dX11_substitute_53 ?_
  refine lv_iconst (v := 4) hx hb dX11_substitute_56 (by decide) ?_
  refine lv_iload hx hb dX11_substitute_57 (lv_at hl_533 0 rfl) ?_
  refine lv_imul hx hb dX11_substitute_59 ?_
  refine lv_topi (fun y_537 ey_537 => ?_)
  obtain rfl : y_537 = 8 := ey_537.trans (by decide)
  refine lv_iload_n hx hb dX11_substitute_60 rfl (lv_at hl_533 1 rfl) ?_
  refine lv_iadd hx hb dX11_substitute_61 ?_
  refine lv_topi (fun y_538 ey_538 => ?_)
  obtain rfl : y_538 = 10 := ey_538.trans (by decide)
  refine g_iald (e0 := 10) hx hb hK hP_526 2 0 rfl rfl (by omega) (by omega) dX11_substitute_62 ?_
  refine va_iald hx hb hK hP_526 1 0 rfl rfl (isB_in (hstB _ (by omega))) dX11_substitute_63 ?_
  refine lv_goto (tgt := 83) hx hb dX11_substitute_64 (by decide) ?_
  refine g_iast (e0 := 2) hx hb hK hP_526 hD_526 hS_526 3 0 rfl rfl (by omega) (by omega) dX11_substitute_83 (fun H_539 locs_539 hP_539 hD_539 hS_539 => ?_)
  replace hP_539 : va_P E.1 vwCl [(o, .inr (12, [.int Mthrown, .int (nI rv), .ref a_user, .int (nI Musers), .ref a_owner, .int (nI Mowners), .ref a_tried, .int (nI Mtries), .ref a_id, .int (nI Mids), .ref a_tape, .int (nI Mtaped), .int (nI Mtaken), .int MisPlain, .int Mpermissions, .ref a_entries, .ref a_sizes, .ref a_key, .int MisOpen, .int Mfilter, .int (nI Mcollected), .ref a_bytes, .int Mobject, .int MisBack, .int (nI MoutSize), .ref a_out, .int (nI Msaid), .ref a_message, .ref a_digest, .ref a_words, .ref a_h, .ref a_v, .ref a_fillBytes, .ref a_sines, .ref a_roots, .ref a_box, .ref a_backBox, .ref a_roundKeys, .int (nI Mrounds), .ref a_state, .ref a_other, .ref a_stream, .ref a_work, .ref a_padded, .ref a_ownKey])), (a_backBox, .inl (E.2.1, 256, .inl MbackBox)), (a_state, .inl (E.2.1, 16, .inl Mstate)), (a_other, .inl (E.2.1, 16, .inl (upd (upd (upd Mother 0 (MbackBox (Mstate 0).toNatClampNeg)) 1 (MbackBox (Mstate 13).toNatClampNeg)) 2 (MbackBox (Mstate 10).toNatClampNeg))))] H_539 := hP_539
  replace hD_539 : va_D A [(o, .inr (12, [.int Mthrown, .int (nI rv), .ref a_user, .int (nI Musers), .ref a_owner, .int (nI Mowners), .ref a_tried, .int (nI Mtries), .ref a_id, .int (nI Mids), .ref a_tape, .int (nI Mtaped), .int (nI Mtaken), .int MisPlain, .int Mpermissions, .ref a_entries, .ref a_sizes, .ref a_key, .int MisOpen, .int Mfilter, .int (nI Mcollected), .ref a_bytes, .int Mobject, .int MisBack, .int (nI MoutSize), .ref a_out, .int (nI Msaid), .ref a_message, .ref a_digest, .ref a_words, .ref a_h, .ref a_v, .ref a_fillBytes, .ref a_sines, .ref a_roots, .ref a_box, .ref a_backBox, .ref a_roundKeys, .int (nI Mrounds), .ref a_state, .ref a_other, .ref a_stream, .ref a_work, .ref a_padded, .ref a_ownKey])), (a_backBox, .inl (E.2.1, 256, .inl MbackBox)), (a_state, .inl (E.2.1, 16, .inl Mstate)), (a_other, .inl (E.2.1, 16, .inl (upd (upd (upd Mother 0 (MbackBox (Mstate 0).toNatClampNeg)) 1 (MbackBox (Mstate 13).toNatClampNeg)) 2 (MbackBox (Mstate 10).toNatClampNeg))))] := hD_539
  clear hP_526 hD_526 hS_526
  refine lv_iinc (v := 3) (lv' := [(3, .int 3), (4, .int 2), (2, .int 0), (0, .ref o), (1, .int 1)]) hx hb dX11_substitute_84 hl_533 (k := 1) rfl (by decide) (by decide) rfl (fun ls_540 hl_540 => ?_)
  clear hl_533
  refine lv_goto (tgt := 9) hx hb dX11_substitute_87 (by decide) ?_
  refine lv_iload_n hx hb dX11_substitute_9 rfl (lv_at hl_540 0 rfl) ?_
  refine lv_iconst (v := 4) hx hb dX11_substitute_10 (by decide) ?_
  refine lv_icmp_ge (tgt := 90) hx hb dX11_substitute_11 (by decide) (fun c_541 => absurd c_541 (by decide)) (fun c_541 => ?_)
  refine lv_iload_n hx hb dX11_substitute_14 rfl (lv_at hl_540 4 rfl) ?_
  refine lv_if_eq (tgt := 28) hx hb dX11_substitute_15 (by decide) (fun c_542 => absurd c_542 (by decide)) (fun c_542 => ?_)
  refine lv_iload_n hx hb dX11_substitute_18 rfl (lv_at hl_540 2 rfl) ?_
  refine lv_iconst (v := 4) hx hb dX11_substitute_19 (by decide) ?_
  refine lv_iadd hx hb dX11_substitute_20 ?_
  refine lv_topi (fun y_543 ey_543 => ?_)
  obtain rfl : y_543 = 4 := ey_543.trans (by decide)
  refine lv_iload_n hx hb dX11_substitute_21 rfl (lv_at hl_540 0 rfl) ?_
  refine lv_isub hx hb dX11_substitute_22 ?_
  refine lv_topi (fun y_544 ey_544 => ?_)
  obtain rfl : y_544 = 1 := ey_544.trans (by decide)
  refine lv_iconst (v := 4) hx hb dX11_substitute_23 (by decide) ?_
  refine lv_irem hx hb dX11_substitute_24 (by decide) ?_
  refine lv_topi (fun y_545 ey_545 => ?_)
  obtain rfl : y_545 = 1 := ey_545.trans (by decide)
  refine lv_goto (tgt := 33) hx hb dX11_substitute_25 (by decide) ?_
  refine lv_istore (lv' := [(4, .int 1), (3, .int 3), (2, .int 0), (0, .ref o), (1, .int 1)]) hx hb dX11_substitute_33 hl_540 (by decide) rfl (fun ls_546 hl_546 => ?_)
  clear hl_540
  refine lv_aload_n hx hb dX11_substitute_35 rfl (lv_at hl_546 3 rfl) ?_
  refine va_get (D := E.1) (ci := 12) (v := .ref a_other) (C := RX11) (T := TX11) (N := 45) hx hb hts in_X11 hown hK hP_539 0 rfl rfl 40 (by decide) w_0 (fun _ h9 => h9) rfl dX11_substitute_36 ?_
  refine lv_iconst (v := 4) hx hb dX11_substitute_39 (by decide) ?_
  refine lv_iload_n hx hb dX11_substitute_40 rfl (lv_at hl_546 2 rfl) ?_
  refine lv_imul hx hb dX11_substitute_41 ?_
  refine lv_topi (fun y_547 ey_547 => ?_)
  obtain rfl : y_547 = 0 := ey_547.trans (by decide)
  refine lv_iload_n hx hb dX11_substitute_42 rfl (lv_at hl_546 1 rfl) ?_
  refine lv_iadd hx hb dX11_substitute_43 ?_
  refine lv_topi (fun y_548 ey_548 => ?_)
  obtain rfl : y_548 = 3 := ey_548.trans (by decide)
  refine lv_iload_n hx hb dX11_substitute_44 rfl (lv_at hl_546 4 rfl) ?_
  refine lv_if_eq (tgt := 67) hx hb dX11_substitute_45 (by decide) (fun c_549 => absurd c_549 (by decide)) (fun c_549 => ?_)
  refine lv_aload_n hx hb dX11_substitute_48 rfl (lv_at hl_546 3 rfl) ?_
  refine va_get (D := E.1) (ci := 12) (v := .ref a_backBox) (C := RX11) (T := TX11) (N := 45) hx hb hts in_X11 hown hK hP_539 0 rfl rfl 36 (by decide) w_1 (fun _ h9 => h9) rfl dX11_substitute_49 ?_
  refine lv_aload_n hx hb dX11_substitute_52 rfl (lv_at hl_546 3 rfl) ?_
  refine va_get (D := E.1) (ci := 12) (v := .ref a_state) (C := RX11) (T := TX11) (N := 45) hx hb hts in_X11 hown hK hP_539 0 rfl rfl 39 (by decide) w_2 (fun _ h9 => h9) rfl dX11_substitute_53 ?_
  refine lv_iconst (v := 4) hx hb dX11_substitute_56 (by decide) ?_
  refine lv_iload hx hb dX11_substitute_57 (lv_at hl_546 0 rfl) ?_
  refine lv_imul hx hb dX11_substitute_59 ?_
  refine lv_topi (fun y_550 ey_550 => ?_)
  obtain rfl : y_550 = 4 := ey_550.trans (by decide)
  refine lv_iload_n hx hb dX11_substitute_60 rfl (lv_at hl_546 1 rfl) ?_
  refine lv_iadd hx hb dX11_substitute_61 ?_
  refine lv_topi (fun y_551 ey_551 => ?_)
  obtain rfl : y_551 = 7 := ey_551.trans (by decide)
  refine g_iald (e0 := 7) hx hb hK hP_539 2 0 rfl rfl (by omega) (by omega) dX11_substitute_62 ?_
  refine va_iald hx hb hK hP_539 1 0 rfl rfl (isB_in (hstB _ (by omega))) dX11_substitute_63 ?_
  refine lv_goto (tgt := 83) hx hb dX11_substitute_64 (by decide) ?_
  refine g_iast (e0 := 3) hx hb hK hP_539 hD_539 hS_539 3 0 rfl rfl (by omega) (by omega) dX11_substitute_83 (fun H_552 locs_552 hP_552 hD_552 hS_552 => ?_)
  replace hP_552 : va_P E.1 vwCl [(o, .inr (12, [.int Mthrown, .int (nI rv), .ref a_user, .int (nI Musers), .ref a_owner, .int (nI Mowners), .ref a_tried, .int (nI Mtries), .ref a_id, .int (nI Mids), .ref a_tape, .int (nI Mtaped), .int (nI Mtaken), .int MisPlain, .int Mpermissions, .ref a_entries, .ref a_sizes, .ref a_key, .int MisOpen, .int Mfilter, .int (nI Mcollected), .ref a_bytes, .int Mobject, .int MisBack, .int (nI MoutSize), .ref a_out, .int (nI Msaid), .ref a_message, .ref a_digest, .ref a_words, .ref a_h, .ref a_v, .ref a_fillBytes, .ref a_sines, .ref a_roots, .ref a_box, .ref a_backBox, .ref a_roundKeys, .int (nI Mrounds), .ref a_state, .ref a_other, .ref a_stream, .ref a_work, .ref a_padded, .ref a_ownKey])), (a_backBox, .inl (E.2.1, 256, .inl MbackBox)), (a_state, .inl (E.2.1, 16, .inl Mstate)), (a_other, .inl (E.2.1, 16, .inl (upd (upd (upd (upd Mother 0 (MbackBox (Mstate 0).toNatClampNeg)) 1 (MbackBox (Mstate 13).toNatClampNeg)) 2 (MbackBox (Mstate 10).toNatClampNeg)) 3 (MbackBox (Mstate 7).toNatClampNeg))))] H_552 := hP_552
  replace hD_552 : va_D A [(o, .inr (12, [.int Mthrown, .int (nI rv), .ref a_user, .int (nI Musers), .ref a_owner, .int (nI Mowners), .ref a_tried, .int (nI Mtries), .ref a_id, .int (nI Mids), .ref a_tape, .int (nI Mtaped), .int (nI Mtaken), .int MisPlain, .int Mpermissions, .ref a_entries, .ref a_sizes, .ref a_key, .int MisOpen, .int Mfilter, .int (nI Mcollected), .ref a_bytes, .int Mobject, .int MisBack, .int (nI MoutSize), .ref a_out, .int (nI Msaid), .ref a_message, .ref a_digest, .ref a_words, .ref a_h, .ref a_v, .ref a_fillBytes, .ref a_sines, .ref a_roots, .ref a_box, .ref a_backBox, .ref a_roundKeys, .int (nI Mrounds), .ref a_state, .ref a_other, .ref a_stream, .ref a_work, .ref a_padded, .ref a_ownKey])), (a_backBox, .inl (E.2.1, 256, .inl MbackBox)), (a_state, .inl (E.2.1, 16, .inl Mstate)), (a_other, .inl (E.2.1, 16, .inl (upd (upd (upd (upd Mother 0 (MbackBox (Mstate 0).toNatClampNeg)) 1 (MbackBox (Mstate 13).toNatClampNeg)) 2 (MbackBox (Mstate 10).toNatClampNeg)) 3 (MbackBox (Mstate 7).toNatClampNeg))))] := hD_552
  clear hP_539 hD_539 hS_539
  refine lv_iinc (v := 4) (lv' := [(3, .int 4), (4, .int 1), (2, .int 0), (0, .ref o), (1, .int 1)]) hx hb dX11_substitute_84 hl_546 (k := 1) rfl (by decide) (by decide) rfl (fun ls_553 hl_553 => ?_)
  clear hl_546
  refine lv_goto (tgt := 9) hx hb dX11_substitute_87 (by decide) ?_
  refine lv_iload_n hx hb dX11_substitute_9 rfl (lv_at hl_553 0 rfl) ?_
  refine lv_iconst (v := 4) hx hb dX11_substitute_10 (by decide) ?_
  refine lv_icmp_ge (tgt := 90) hx hb dX11_substitute_11 (by decide) (fun c_554 => ?_) (fun c_554 => absurd (by decide) c_554)
  refine lv_iinc (v := 1) (lv' := [(2, .int 1), (3, .int 4), (4, .int 1), (0, .ref o), (1, .int 1)]) hx hb dX11_substitute_90 hl_553 (k := 2) rfl (by decide) (by decide) rfl (fun ls_555 hl_555 => ?_)
  clear hl_553
  refine lv_goto (tgt := 2) hx hb dX11_substitute_93 (by decide) ?_
  refine lv_iload_n hx hb dX11_substitute_2 rfl (lv_at hl_555 0 rfl) ?_
  refine lv_iconst (v := 4) hx hb dX11_substitute_3 (by decide) ?_
  refine lv_icmp_ge (tgt := 96) hx hb dX11_substitute_4 (by decide) (fun c_556 => absurd c_556 (by decide)) (fun c_556 => ?_)
  refine lv_iconst (v := 0) hx hb dX11_substitute_7 (by decide) ?_
  refine lv_istore_n (lv' := [(3, .int 0), (2, .int 1), (4, .int 1), (0, .ref o), (1, .int 1)]) hx hb dX11_substitute_8 rfl hl_555 (by decide) rfl (fun ls_557 hl_557 => ?_)
  clear hl_555
  refine lv_iload_n hx hb dX11_substitute_9 rfl (lv_at hl_557 0 rfl) ?_
  refine lv_iconst (v := 4) hx hb dX11_substitute_10 (by decide) ?_
  refine lv_icmp_ge (tgt := 90) hx hb dX11_substitute_11 (by decide) (fun c_558 => absurd c_558 (by decide)) (fun c_558 => ?_)
  refine lv_iload_n hx hb dX11_substitute_14 rfl (lv_at hl_557 4 rfl) ?_
  refine lv_if_eq (tgt := 28) hx hb dX11_substitute_15 (by decide) (fun c_559 => absurd c_559 (by decide)) (fun c_559 => ?_)
  refine lv_iload_n hx hb dX11_substitute_18 rfl (lv_at hl_557 1 rfl) ?_
  refine lv_iconst (v := 4) hx hb dX11_substitute_19 (by decide) ?_
  refine lv_iadd hx hb dX11_substitute_20 ?_
  refine lv_topi (fun y_560 ey_560 => ?_)
  obtain rfl : y_560 = 5 := ey_560.trans (by decide)
  refine lv_iload_n hx hb dX11_substitute_21 rfl (lv_at hl_557 0 rfl) ?_
  refine lv_isub hx hb dX11_substitute_22 ?_
  refine lv_topi (fun y_561 ey_561 => ?_)
  obtain rfl : y_561 = 5 := ey_561.trans (by decide)
  refine lv_iconst (v := 4) hx hb dX11_substitute_23 (by decide) ?_
  refine lv_irem hx hb dX11_substitute_24 (by decide) ?_
  refine lv_topi (fun y_562 ey_562 => ?_)
  obtain rfl : y_562 = 1 := ey_562.trans (by decide)
  refine lv_goto (tgt := 33) hx hb dX11_substitute_25 (by decide) ?_
  refine lv_istore (lv' := [(4, .int 1), (3, .int 0), (2, .int 1), (0, .ref o), (1, .int 1)]) hx hb dX11_substitute_33 hl_557 (by decide) rfl (fun ls_563 hl_563 => ?_)
  clear hl_557
  refine lv_aload_n hx hb dX11_substitute_35 rfl (lv_at hl_563 3 rfl) ?_
  refine va_get (D := E.1) (ci := 12) (v := .ref a_other) (C := RX11) (T := TX11) (N := 45) hx hb hts in_X11 hown hK hP_552 0 rfl rfl 40 (by decide) w_0 (fun _ h9 => h9) rfl dX11_substitute_36 ?_
  refine lv_iconst (v := 4) hx hb dX11_substitute_39 (by decide) ?_
  refine lv_iload_n hx hb dX11_substitute_40 rfl (lv_at hl_563 2 rfl) ?_
  refine lv_imul hx hb dX11_substitute_41 ?_
  refine lv_topi (fun y_564 ey_564 => ?_)
  obtain rfl : y_564 = 4 := ey_564.trans (by decide)
  refine lv_iload_n hx hb dX11_substitute_42 rfl (lv_at hl_563 1 rfl) ?_
  refine lv_iadd hx hb dX11_substitute_43 ?_
  refine lv_topi (fun y_565 ey_565 => ?_)
  obtain rfl : y_565 = 4 := ey_565.trans (by decide)
  refine lv_iload_n hx hb dX11_substitute_44 rfl (lv_at hl_563 4 rfl) ?_
  refine lv_if_eq (tgt := 67) hx hb dX11_substitute_45 (by decide) (fun c_566 => absurd c_566 (by decide)) (fun c_566 => ?_)
  refine lv_aload_n hx hb dX11_substitute_48 rfl (lv_at hl_563 3 rfl) ?_
  refine va_get (D := E.1) (ci := 12) (v := .ref a_backBox) (C := RX11) (T := TX11) (N := 45) hx hb hts in_X11 hown hK hP_552 0 rfl rfl 36 (by decide) w_1 (fun _ h9 => h9) rfl dX11_substitute_49 ?_
  refine lv_aload_n hx hb dX11_substitute_52 rfl (lv_at hl_563 3 rfl) ?_
  refine va_get (D := E.1) (ci := 12) (v := .ref a_state) (C := RX11) (T := TX11) (N := 45) hx hb hts in_X11 hown hK hP_552 0 rfl rfl 39 (by decide) w_2 (fun _ h9 => h9) rfl dX11_substitute_53 ?_
  refine lv_iconst (v := 4) hx hb dX11_substitute_56 (by decide) ?_
  refine lv_iload hx hb dX11_substitute_57 (lv_at hl_563 0 rfl) ?_
  refine lv_imul hx hb dX11_substitute_59 ?_
  refine lv_topi (fun y_567 ey_567 => ?_)
  obtain rfl : y_567 = 4 := ey_567.trans (by decide)
  refine lv_iload_n hx hb dX11_substitute_60 rfl (lv_at hl_563 1 rfl) ?_
  refine lv_iadd hx hb dX11_substitute_61 ?_
  refine lv_topi (fun y_568 ey_568 => ?_)
  obtain rfl : y_568 = 4 := ey_568.trans (by decide)
  refine g_iald (e0 := 4) hx hb hK hP_552 2 0 rfl rfl (by omega) (by omega) dX11_substitute_62 ?_
  refine va_iald hx hb hK hP_552 1 0 rfl rfl (isB_in (hstB _ (by omega))) dX11_substitute_63 ?_
  refine lv_goto (tgt := 83) hx hb dX11_substitute_64 (by decide) ?_
  refine g_iast (e0 := 4) hx hb hK hP_552 hD_552 hS_552 3 0 rfl rfl (by omega) (by omega) dX11_substitute_83 (fun H_569 locs_569 hP_569 hD_569 hS_569 => ?_)
  replace hP_569 : va_P E.1 vwCl [(o, .inr (12, [.int Mthrown, .int (nI rv), .ref a_user, .int (nI Musers), .ref a_owner, .int (nI Mowners), .ref a_tried, .int (nI Mtries), .ref a_id, .int (nI Mids), .ref a_tape, .int (nI Mtaped), .int (nI Mtaken), .int MisPlain, .int Mpermissions, .ref a_entries, .ref a_sizes, .ref a_key, .int MisOpen, .int Mfilter, .int (nI Mcollected), .ref a_bytes, .int Mobject, .int MisBack, .int (nI MoutSize), .ref a_out, .int (nI Msaid), .ref a_message, .ref a_digest, .ref a_words, .ref a_h, .ref a_v, .ref a_fillBytes, .ref a_sines, .ref a_roots, .ref a_box, .ref a_backBox, .ref a_roundKeys, .int (nI Mrounds), .ref a_state, .ref a_other, .ref a_stream, .ref a_work, .ref a_padded, .ref a_ownKey])), (a_backBox, .inl (E.2.1, 256, .inl MbackBox)), (a_state, .inl (E.2.1, 16, .inl Mstate)), (a_other, .inl (E.2.1, 16, .inl (upd (upd (upd (upd (upd Mother 0 (MbackBox (Mstate 0).toNatClampNeg)) 1 (MbackBox (Mstate 13).toNatClampNeg)) 2 (MbackBox (Mstate 10).toNatClampNeg)) 3 (MbackBox (Mstate 7).toNatClampNeg)) 4 (MbackBox (Mstate 4).toNatClampNeg))))] H_569 := hP_569
  replace hD_569 : va_D A [(o, .inr (12, [.int Mthrown, .int (nI rv), .ref a_user, .int (nI Musers), .ref a_owner, .int (nI Mowners), .ref a_tried, .int (nI Mtries), .ref a_id, .int (nI Mids), .ref a_tape, .int (nI Mtaped), .int (nI Mtaken), .int MisPlain, .int Mpermissions, .ref a_entries, .ref a_sizes, .ref a_key, .int MisOpen, .int Mfilter, .int (nI Mcollected), .ref a_bytes, .int Mobject, .int MisBack, .int (nI MoutSize), .ref a_out, .int (nI Msaid), .ref a_message, .ref a_digest, .ref a_words, .ref a_h, .ref a_v, .ref a_fillBytes, .ref a_sines, .ref a_roots, .ref a_box, .ref a_backBox, .ref a_roundKeys, .int (nI Mrounds), .ref a_state, .ref a_other, .ref a_stream, .ref a_work, .ref a_padded, .ref a_ownKey])), (a_backBox, .inl (E.2.1, 256, .inl MbackBox)), (a_state, .inl (E.2.1, 16, .inl Mstate)), (a_other, .inl (E.2.1, 16, .inl (upd (upd (upd (upd (upd Mother 0 (MbackBox (Mstate 0).toNatClampNeg)) 1 (MbackBox (Mstate 13).toNatClampNeg)) 2 (MbackBox (Mstate 10).toNatClampNeg)) 3 (MbackBox (Mstate 7).toNatClampNeg)) 4 (MbackBox (Mstate 4).toNatClampNeg))))] := hD_569
  clear hP_552 hD_552 hS_552
  refine lv_iinc (v := 1) (lv' := [(3, .int 1), (4, .int 1), (2, .int 1), (0, .ref o), (1, .int 1)]) hx hb dX11_substitute_84 hl_563 (k := 1) rfl (by decide) (by decide) rfl (fun ls_570 hl_570 => ?_)
  clear hl_563
  refine lv_goto (tgt := 9) hx hb dX11_substitute_87 (by decide) ?_
  refine lv_iload_n hx hb dX11_substitute_9 rfl (lv_at hl_570 0 rfl) ?_
  refine lv_iconst (v := 4) hx hb dX11_substitute_10 (by decide) ?_
  refine lv_icmp_ge (tgt := 90) hx hb dX11_substitute_11 (by decide) (fun c_571 => absurd c_571 (by decide)) (fun c_571 => ?_)
  refine lv_iload_n hx hb dX11_substitute_14 rfl (lv_at hl_570 4 rfl) ?_
  refine lv_if_eq (tgt := 28) hx hb dX11_substitute_15 (by decide) (fun c_572 => absurd c_572 (by decide)) (fun c_572 => ?_)
  refine lv_iload_n hx hb dX11_substitute_18 rfl (lv_at hl_570 2 rfl) ?_
  refine lv_iconst (v := 4) hx hb dX11_substitute_19 (by decide) ?_
  refine lv_iadd hx hb dX11_substitute_20 ?_
  refine lv_topi (fun y_573 ey_573 => ?_)
  obtain rfl : y_573 = 5 := ey_573.trans (by decide)
  refine lv_iload_n hx hb dX11_substitute_21 rfl (lv_at hl_570 0 rfl) ?_
  refine lv_isub hx hb dX11_substitute_22 ?_
  refine lv_topi (fun y_574 ey_574 => ?_)
  obtain rfl : y_574 = 4 := ey_574.trans (by decide)
  refine lv_iconst (v := 4) hx hb dX11_substitute_23 (by decide) ?_
  refine lv_irem hx hb dX11_substitute_24 (by decide) ?_
  refine lv_topi (fun y_575 ey_575 => ?_)
  obtain rfl : y_575 = 0 := ey_575.trans (by decide)
  refine lv_goto (tgt := 33) hx hb dX11_substitute_25 (by decide) ?_
  refine lv_istore (lv' := [(4, .int 0), (3, .int 1), (2, .int 1), (0, .ref o), (1, .int 1)]) hx hb dX11_substitute_33 hl_570 (by decide) rfl (fun ls_576 hl_576 => ?_)
  clear hl_570
  refine lv_aload_n hx hb dX11_substitute_35 rfl (lv_at hl_576 3 rfl) ?_
  refine va_get (D := E.1) (ci := 12) (v := .ref a_other) (C := RX11) (T := TX11) (N := 45) hx hb hts in_X11 hown hK hP_569 0 rfl rfl 40 (by decide) w_0 (fun _ h9 => h9) rfl dX11_substitute_36 ?_
  refine lv_iconst (v := 4) hx hb dX11_substitute_39 (by decide) ?_
  refine lv_iload_n hx hb dX11_substitute_40 rfl (lv_at hl_576 2 rfl) ?_
  refine lv_imul hx hb dX11_substitute_41 ?_
  refine lv_topi (fun y_577 ey_577 => ?_)
  obtain rfl : y_577 = 4 := ey_577.trans (by decide)
  refine lv_iload_n hx hb dX11_substitute_42 rfl (lv_at hl_576 1 rfl) ?_
  refine lv_iadd hx hb dX11_substitute_43 ?_
  refine lv_topi (fun y_578 ey_578 => ?_)
  obtain rfl : y_578 = 5 := ey_578.trans (by decide)
  refine lv_iload_n hx hb dX11_substitute_44 rfl (lv_at hl_576 4 rfl) ?_
  refine lv_if_eq (tgt := 67) hx hb dX11_substitute_45 (by decide) (fun c_579 => absurd c_579 (by decide)) (fun c_579 => ?_)
  refine lv_aload_n hx hb dX11_substitute_48 rfl (lv_at hl_576 3 rfl) ?_
  refine va_get (D := E.1) (ci := 12) (v := .ref a_backBox) (C := RX11) (T := TX11) (N := 45) hx hb hts in_X11 hown hK hP_569 0 rfl rfl 36 (by decide) w_1 (fun _ h9 => h9) rfl dX11_substitute_49 ?_
  refine lv_aload_n hx hb dX11_substitute_52 rfl (lv_at hl_576 3 rfl) ?_
  refine va_get (D := E.1) (ci := 12) (v := .ref a_state) (C := RX11) (T := TX11) (N := 45) hx hb hts in_X11 hown hK hP_569 0 rfl rfl 39 (by decide) w_2 (fun _ h9 => h9) rfl dX11_substitute_53 ?_
  refine lv_iconst (v := 4) hx hb dX11_substitute_56 (by decide) ?_
  refine lv_iload hx hb dX11_substitute_57 (lv_at hl_576 0 rfl) ?_
  refine lv_imul hx hb dX11_substitute_59 ?_
  refine lv_topi (fun y_580 ey_580 => ?_)
  obtain rfl : y_580 = 0 := ey_580.trans (by decide)
  refine lv_iload_n hx hb dX11_substitute_60 rfl (lv_at hl_576 1 rfl) ?_
  refine lv_iadd hx hb dX11_substitute_61 ?_
  refine lv_topi (fun y_581 ey_581 => ?_)
  obtain rfl : y_581 = 1 := ey_581.trans (by decide)
  refine g_iald (e0 := 1) hx hb hK hP_569 2 0 rfl rfl (by omega) (by omega) dX11_substitute_62 ?_
  refine va_iald hx hb hK hP_569 1 0 rfl rfl (isB_in (hstB _ (by omega))) dX11_substitute_63 ?_
  refine lv_goto (tgt := 83) hx hb dX11_substitute_64 (by decide) ?_
  refine g_iast (e0 := 5) hx hb hK hP_569 hD_569 hS_569 3 0 rfl rfl (by omega) (by omega) dX11_substitute_83 (fun H_582 locs_582 hP_582 hD_582 hS_582 => ?_)
  replace hP_582 : va_P E.1 vwCl [(o, .inr (12, [.int Mthrown, .int (nI rv), .ref a_user, .int (nI Musers), .ref a_owner, .int (nI Mowners), .ref a_tried, .int (nI Mtries), .ref a_id, .int (nI Mids), .ref a_tape, .int (nI Mtaped), .int (nI Mtaken), .int MisPlain, .int Mpermissions, .ref a_entries, .ref a_sizes, .ref a_key, .int MisOpen, .int Mfilter, .int (nI Mcollected), .ref a_bytes, .int Mobject, .int MisBack, .int (nI MoutSize), .ref a_out, .int (nI Msaid), .ref a_message, .ref a_digest, .ref a_words, .ref a_h, .ref a_v, .ref a_fillBytes, .ref a_sines, .ref a_roots, .ref a_box, .ref a_backBox, .ref a_roundKeys, .int (nI Mrounds), .ref a_state, .ref a_other, .ref a_stream, .ref a_work, .ref a_padded, .ref a_ownKey])), (a_backBox, .inl (E.2.1, 256, .inl MbackBox)), (a_state, .inl (E.2.1, 16, .inl Mstate)), (a_other, .inl (E.2.1, 16, .inl (upd (upd (upd (upd (upd (upd Mother 0 (MbackBox (Mstate 0).toNatClampNeg)) 1 (MbackBox (Mstate 13).toNatClampNeg)) 2 (MbackBox (Mstate 10).toNatClampNeg)) 3 (MbackBox (Mstate 7).toNatClampNeg)) 4 (MbackBox (Mstate 4).toNatClampNeg)) 5 (MbackBox (Mstate 1).toNatClampNeg))))] H_582 := hP_582
  replace hD_582 : va_D A [(o, .inr (12, [.int Mthrown, .int (nI rv), .ref a_user, .int (nI Musers), .ref a_owner, .int (nI Mowners), .ref a_tried, .int (nI Mtries), .ref a_id, .int (nI Mids), .ref a_tape, .int (nI Mtaped), .int (nI Mtaken), .int MisPlain, .int Mpermissions, .ref a_entries, .ref a_sizes, .ref a_key, .int MisOpen, .int Mfilter, .int (nI Mcollected), .ref a_bytes, .int Mobject, .int MisBack, .int (nI MoutSize), .ref a_out, .int (nI Msaid), .ref a_message, .ref a_digest, .ref a_words, .ref a_h, .ref a_v, .ref a_fillBytes, .ref a_sines, .ref a_roots, .ref a_box, .ref a_backBox, .ref a_roundKeys, .int (nI Mrounds), .ref a_state, .ref a_other, .ref a_stream, .ref a_work, .ref a_padded, .ref a_ownKey])), (a_backBox, .inl (E.2.1, 256, .inl MbackBox)), (a_state, .inl (E.2.1, 16, .inl Mstate)), (a_other, .inl (E.2.1, 16, .inl (upd (upd (upd (upd (upd (upd Mother 0 (MbackBox (Mstate 0).toNatClampNeg)) 1 (MbackBox (Mstate 13).toNatClampNeg)) 2 (MbackBox (Mstate 10).toNatClampNeg)) 3 (MbackBox (Mstate 7).toNatClampNeg)) 4 (MbackBox (Mstate 4).toNatClampNeg)) 5 (MbackBox (Mstate 1).toNatClampNeg))))] := hD_582
  clear hP_569 hD_569 hS_569
  refine lv_iinc (v := 2) (lv' := [(3, .int 2), (4, .int 0), (2, .int 1), (0, .ref o), (1, .int 1)]) hx hb dX11_substitute_84 hl_576 (k := 1) rfl (by decide) (by decide) rfl (fun ls_583 hl_583 => ?_)
  clear hl_576
  refine lv_goto (tgt := 9) hx hb dX11_substitute_87 (by decide) ?_
  refine lv_iload_n hx hb dX11_substitute_9 rfl (lv_at hl_583 0 rfl) ?_
  refine lv_iconst (v := 4) hx hb dX11_substitute_10 (by decide) ?_
  refine lv_icmp_ge (tgt := 90) hx hb dX11_substitute_11 (by decide) (fun c_584 => absurd c_584 (by decide)) (fun c_584 => ?_)
  refine lv_iload_n hx hb dX11_substitute_14 rfl (lv_at hl_583 4 rfl) ?_
  refine lv_if_eq (tgt := 28) hx hb dX11_substitute_15 (by decide) (fun c_585 => absurd c_585 (by decide)) (fun c_585 => ?_)
  refine lv_iload_n hx hb dX11_substitute_18 rfl (lv_at hl_583 2 rfl) ?_
  refine lv_iconst (v := 4) hx hb dX11_substitute_19 (by decide) ?_
  refine lv_iadd hx hb dX11_substitute_20 ?_
  refine lv_topi (fun y_586 ey_586 => ?_)
  obtain rfl : y_586 = 5 := ey_586.trans (by decide)
  refine lv_iload_n hx hb dX11_substitute_21 rfl (lv_at hl_583 0 rfl) ?_
  refine lv_isub hx hb dX11_substitute_22 ?_
  refine lv_topi (fun y_587 ey_587 => ?_)
  obtain rfl : y_587 = 3 := ey_587.trans (by decide)
  refine lv_iconst (v := 4) hx hb dX11_substitute_23 (by decide) ?_
  refine lv_irem hx hb dX11_substitute_24 (by decide) ?_
  refine lv_topi (fun y_588 ey_588 => ?_)
  obtain rfl : y_588 = 3 := ey_588.trans (by decide)
  refine lv_goto (tgt := 33) hx hb dX11_substitute_25 (by decide) ?_
  refine lv_istore (lv' := [(4, .int 3), (3, .int 2), (2, .int 1), (0, .ref o), (1, .int 1)]) hx hb dX11_substitute_33 hl_583 (by decide) rfl (fun ls_589 hl_589 => ?_)
  clear hl_583
  refine lv_aload_n hx hb dX11_substitute_35 rfl (lv_at hl_589 3 rfl) ?_
  refine va_get (D := E.1) (ci := 12) (v := .ref a_other) (C := RX11) (T := TX11) (N := 45) hx hb hts in_X11 hown hK hP_582 0 rfl rfl 40 (by decide) w_0 (fun _ h9 => h9) rfl dX11_substitute_36 ?_
  refine lv_iconst (v := 4) hx hb dX11_substitute_39 (by decide) ?_
  refine lv_iload_n hx hb dX11_substitute_40 rfl (lv_at hl_589 2 rfl) ?_
  refine lv_imul hx hb dX11_substitute_41 ?_
  refine lv_topi (fun y_590 ey_590 => ?_)
  obtain rfl : y_590 = 4 := ey_590.trans (by decide)
  refine lv_iload_n hx hb dX11_substitute_42 rfl (lv_at hl_589 1 rfl) ?_
  refine lv_iadd hx hb dX11_substitute_43 ?_
  refine lv_topi (fun y_591 ey_591 => ?_)
  obtain rfl : y_591 = 6 := ey_591.trans (by decide)
  refine lv_iload_n hx hb dX11_substitute_44 rfl (lv_at hl_589 4 rfl) ?_
  refine lv_if_eq (tgt := 67) hx hb dX11_substitute_45 (by decide) (fun c_592 => absurd c_592 (by decide)) (fun c_592 => ?_)
  refine lv_aload_n hx hb dX11_substitute_48 rfl (lv_at hl_589 3 rfl) ?_
  refine va_get (D := E.1) (ci := 12) (v := .ref a_backBox) (C := RX11) (T := TX11) (N := 45) hx hb hts in_X11 hown hK hP_582 0 rfl rfl 36 (by decide) w_1 (fun _ h9 => h9) rfl dX11_substitute_49 ?_
  refine lv_aload_n hx hb dX11_substitute_52 rfl (lv_at hl_589 3 rfl) ?_
  refine va_get (D := E.1) (ci := 12) (v := .ref a_state) (C := RX11) (T := TX11) (N := 45) hx hb hts in_X11 hown hK hP_582 0 rfl rfl 39 (by decide) w_2 (fun _ h9 => h9) rfl dX11_substitute_53 ?_
  refine lv_iconst (v := 4) hx hb dX11_substitute_56 (by decide) ?_
  refine lv_iload hx hb dX11_substitute_57 (lv_at hl_589 0 rfl) ?_
  refine lv_imul hx hb dX11_substitute_59 ?_
  refine lv_topi (fun y_593 ey_593 => ?_)
  obtain rfl : y_593 = 12 := ey_593.trans (by decide)
  refine lv_iload_n hx hb dX11_substitute_60 rfl (lv_at hl_589 1 rfl) ?_
  refine lv_iadd hx hb dX11_substitute_61 ?_
  refine lv_topi (fun y_594 ey_594 => ?_)
  obtain rfl : y_594 = 14 := ey_594.trans (by decide)
  refine g_iald (e0 := 14) hx hb hK hP_582 2 0 rfl rfl (by omega) (by omega) dX11_substitute_62 ?_
  refine va_iald hx hb hK hP_582 1 0 rfl rfl (isB_in (hstB _ (by omega))) dX11_substitute_63 ?_
  refine lv_goto (tgt := 83) hx hb dX11_substitute_64 (by decide) ?_
  refine g_iast (e0 := 6) hx hb hK hP_582 hD_582 hS_582 3 0 rfl rfl (by omega) (by omega) dX11_substitute_83 (fun H_595 locs_595 hP_595 hD_595 hS_595 => ?_)
  replace hP_595 : va_P E.1 vwCl [(o, .inr (12, [.int Mthrown, .int (nI rv), .ref a_user, .int (nI Musers), .ref a_owner, .int (nI Mowners), .ref a_tried, .int (nI Mtries), .ref a_id, .int (nI Mids), .ref a_tape, .int (nI Mtaped), .int (nI Mtaken), .int MisPlain, .int Mpermissions, .ref a_entries, .ref a_sizes, .ref a_key, .int MisOpen, .int Mfilter, .int (nI Mcollected), .ref a_bytes, .int Mobject, .int MisBack, .int (nI MoutSize), .ref a_out, .int (nI Msaid), .ref a_message, .ref a_digest, .ref a_words, .ref a_h, .ref a_v, .ref a_fillBytes, .ref a_sines, .ref a_roots, .ref a_box, .ref a_backBox, .ref a_roundKeys, .int (nI Mrounds), .ref a_state, .ref a_other, .ref a_stream, .ref a_work, .ref a_padded, .ref a_ownKey])), (a_backBox, .inl (E.2.1, 256, .inl MbackBox)), (a_state, .inl (E.2.1, 16, .inl Mstate)), (a_other, .inl (E.2.1, 16, .inl (upd (upd (upd (upd (upd (upd (upd Mother 0 (MbackBox (Mstate 0).toNatClampNeg)) 1 (MbackBox (Mstate 13).toNatClampNeg)) 2 (MbackBox (Mstate 10).toNatClampNeg)) 3 (MbackBox (Mstate 7).toNatClampNeg)) 4 (MbackBox (Mstate 4).toNatClampNeg)) 5 (MbackBox (Mstate 1).toNatClampNeg)) 6 (MbackBox (Mstate 14).toNatClampNeg))))] H_595 := hP_595
  replace hD_595 : va_D A [(o, .inr (12, [.int Mthrown, .int (nI rv), .ref a_user, .int (nI Musers), .ref a_owner, .int (nI Mowners), .ref a_tried, .int (nI Mtries), .ref a_id, .int (nI Mids), .ref a_tape, .int (nI Mtaped), .int (nI Mtaken), .int MisPlain, .int Mpermissions, .ref a_entries, .ref a_sizes, .ref a_key, .int MisOpen, .int Mfilter, .int (nI Mcollected), .ref a_bytes, .int Mobject, .int MisBack, .int (nI MoutSize), .ref a_out, .int (nI Msaid), .ref a_message, .ref a_digest, .ref a_words, .ref a_h, .ref a_v, .ref a_fillBytes, .ref a_sines, .ref a_roots, .ref a_box, .ref a_backBox, .ref a_roundKeys, .int (nI Mrounds), .ref a_state, .ref a_other, .ref a_stream, .ref a_work, .ref a_padded, .ref a_ownKey])), (a_backBox, .inl (E.2.1, 256, .inl MbackBox)), (a_state, .inl (E.2.1, 16, .inl Mstate)), (a_other, .inl (E.2.1, 16, .inl (upd (upd (upd (upd (upd (upd (upd Mother 0 (MbackBox (Mstate 0).toNatClampNeg)) 1 (MbackBox (Mstate 13).toNatClampNeg)) 2 (MbackBox (Mstate 10).toNatClampNeg)) 3 (MbackBox (Mstate 7).toNatClampNeg)) 4 (MbackBox (Mstate 4).toNatClampNeg)) 5 (MbackBox (Mstate 1).toNatClampNeg)) 6 (MbackBox (Mstate 14).toNatClampNeg))))] := hD_595
  clear hP_582 hD_582 hS_582
  refine lv_iinc (v := 3) (lv' := [(3, .int 3), (4, .int 3), (2, .int 1), (0, .ref o), (1, .int 1)]) hx hb dX11_substitute_84 hl_589 (k := 1) rfl (by decide) (by decide) rfl (fun ls_596 hl_596 => ?_)
  clear hl_589
  refine lv_goto (tgt := 9) hx hb dX11_substitute_87 (by decide) ?_
  refine lv_iload_n hx hb dX11_substitute_9 rfl (lv_at hl_596 0 rfl) ?_
  refine lv_iconst (v := 4) hx hb dX11_substitute_10 (by decide) ?_
  refine lv_icmp_ge (tgt := 90) hx hb dX11_substitute_11 (by decide) (fun c_597 => absurd c_597 (by decide)) (fun c_597 => ?_)
  refine lv_iload_n hx hb dX11_substitute_14 rfl (lv_at hl_596 4 rfl) ?_
  refine lv_if_eq (tgt := 28) hx hb dX11_substitute_15 (by decide) (fun c_598 => absurd c_598 (by decide)) (fun c_598 => ?_)
  refine lv_iload_n hx hb dX11_substitute_18 rfl (lv_at hl_596 2 rfl) ?_
  refine lv_iconst (v := 4) hx hb dX11_substitute_19 (by decide) ?_
  refine lv_iadd hx hb dX11_substitute_20 ?_
  refine lv_topi (fun y_599 ey_599 => ?_)
  obtain rfl : y_599 = 5 := ey_599.trans (by decide)
  refine lv_iload_n hx hb dX11_substitute_21 rfl (lv_at hl_596 0 rfl) ?_
  refine lv_isub hx hb dX11_substitute_22 ?_
  refine lv_topi (fun y_600 ey_600 => ?_)
  obtain rfl : y_600 = 2 := ey_600.trans (by decide)
  refine lv_iconst (v := 4) hx hb dX11_substitute_23 (by decide) ?_
  refine lv_irem hx hb dX11_substitute_24 (by decide) ?_
  refine lv_topi (fun y_601 ey_601 => ?_)
  obtain rfl : y_601 = 2 := ey_601.trans (by decide)
  refine lv_goto (tgt := 33) hx hb dX11_substitute_25 (by decide) ?_
  refine lv_istore (lv' := [(4, .int 2), (3, .int 3), (2, .int 1), (0, .ref o), (1, .int 1)]) hx hb dX11_substitute_33 hl_596 (by decide) rfl (fun ls_602 hl_602 => ?_)
  clear hl_596
  refine lv_aload_n hx hb dX11_substitute_35 rfl (lv_at hl_602 3 rfl) ?_
  refine va_get (D := E.1) (ci := 12) (v := .ref a_other) (C := RX11) (T := TX11) (N := 45) hx hb hts in_X11 hown hK hP_595 0 rfl rfl 40 (by decide) w_0 (fun _ h9 => h9) rfl dX11_substitute_36 ?_
  refine lv_iconst (v := 4) hx hb dX11_substitute_39 (by decide) ?_
  refine lv_iload_n hx hb dX11_substitute_40 rfl (lv_at hl_602 2 rfl) ?_
  refine lv_imul hx hb dX11_substitute_41 ?_
  refine lv_topi (fun y_603 ey_603 => ?_)
  obtain rfl : y_603 = 4 := ey_603.trans (by decide)
  refine lv_iload_n hx hb dX11_substitute_42 rfl (lv_at hl_602 1 rfl) ?_
  refine lv_iadd hx hb dX11_substitute_43 ?_
  refine lv_topi (fun y_604 ey_604 => ?_)
  obtain rfl : y_604 = 7 := ey_604.trans (by decide)
  refine lv_iload_n hx hb dX11_substitute_44 rfl (lv_at hl_602 4 rfl) ?_
  refine lv_if_eq (tgt := 67) hx hb dX11_substitute_45 (by decide) (fun c_605 => absurd c_605 (by decide)) (fun c_605 => ?_)
  refine lv_aload_n hx hb dX11_substitute_48 rfl (lv_at hl_602 3 rfl) ?_
  refine va_get (D := E.1) (ci := 12) (v := .ref a_backBox) (C := RX11) (T := TX11) (N := 45) hx hb hts in_X11 hown hK hP_595 0 rfl rfl 36 (by decide) w_1 (fun _ h9 => h9) rfl dX11_substitute_49 ?_
  refine lv_aload_n hx hb dX11_substitute_52 rfl (lv_at hl_602 3 rfl) ?_
  refine va_get (D := E.1) (ci := 12) (v := .ref a_state) (C := RX11) (T := TX11) (N := 45) hx hb hts in_X11 hown hK hP_595 0 rfl rfl 39 (by decide) w_2 (fun _ h9 => h9) rfl dX11_substitute_53 ?_
  refine lv_iconst (v := 4) hx hb dX11_substitute_56 (by decide) ?_
  refine lv_iload hx hb dX11_substitute_57 (lv_at hl_602 0 rfl) ?_
  refine lv_imul hx hb dX11_substitute_59 ?_
  refine lv_topi (fun y_606 ey_606 => ?_)
  obtain rfl : y_606 = 8 := ey_606.trans (by decide)
  refine lv_iload_n hx hb dX11_substitute_60 rfl (lv_at hl_602 1 rfl) ?_
  refine lv_iadd hx hb dX11_substitute_61 ?_
  refine lv_topi (fun y_607 ey_607 => ?_)
  obtain rfl : y_607 = 11 := ey_607.trans (by decide)
  refine g_iald (e0 := 11) hx hb hK hP_595 2 0 rfl rfl (by omega) (by omega) dX11_substitute_62 ?_
  refine va_iald hx hb hK hP_595 1 0 rfl rfl (isB_in (hstB _ (by omega))) dX11_substitute_63 ?_
  refine lv_goto (tgt := 83) hx hb dX11_substitute_64 (by decide) ?_
  refine g_iast (e0 := 7) hx hb hK hP_595 hD_595 hS_595 3 0 rfl rfl (by omega) (by omega) dX11_substitute_83 (fun H_608 locs_608 hP_608 hD_608 hS_608 => ?_)
  replace hP_608 : va_P E.1 vwCl [(o, .inr (12, [.int Mthrown, .int (nI rv), .ref a_user, .int (nI Musers), .ref a_owner, .int (nI Mowners), .ref a_tried, .int (nI Mtries), .ref a_id, .int (nI Mids), .ref a_tape, .int (nI Mtaped), .int (nI Mtaken), .int MisPlain, .int Mpermissions, .ref a_entries, .ref a_sizes, .ref a_key, .int MisOpen, .int Mfilter, .int (nI Mcollected), .ref a_bytes, .int Mobject, .int MisBack, .int (nI MoutSize), .ref a_out, .int (nI Msaid), .ref a_message, .ref a_digest, .ref a_words, .ref a_h, .ref a_v, .ref a_fillBytes, .ref a_sines, .ref a_roots, .ref a_box, .ref a_backBox, .ref a_roundKeys, .int (nI Mrounds), .ref a_state, .ref a_other, .ref a_stream, .ref a_work, .ref a_padded, .ref a_ownKey])), (a_backBox, .inl (E.2.1, 256, .inl MbackBox)), (a_state, .inl (E.2.1, 16, .inl Mstate)), (a_other, .inl (E.2.1, 16, .inl (upd (upd (upd (upd (upd (upd (upd (upd Mother 0 (MbackBox (Mstate 0).toNatClampNeg)) 1 (MbackBox (Mstate 13).toNatClampNeg)) 2 (MbackBox (Mstate 10).toNatClampNeg)) 3 (MbackBox (Mstate 7).toNatClampNeg)) 4 (MbackBox (Mstate 4).toNatClampNeg)) 5 (MbackBox (Mstate 1).toNatClampNeg)) 6 (MbackBox (Mstate 14).toNatClampNeg)) 7 (MbackBox (Mstate 11).toNatClampNeg))))] H_608 := hP_608
  replace hD_608 : va_D A [(o, .inr (12, [.int Mthrown, .int (nI rv), .ref a_user, .int (nI Musers), .ref a_owner, .int (nI Mowners), .ref a_tried, .int (nI Mtries), .ref a_id, .int (nI Mids), .ref a_tape, .int (nI Mtaped), .int (nI Mtaken), .int MisPlain, .int Mpermissions, .ref a_entries, .ref a_sizes, .ref a_key, .int MisOpen, .int Mfilter, .int (nI Mcollected), .ref a_bytes, .int Mobject, .int MisBack, .int (nI MoutSize), .ref a_out, .int (nI Msaid), .ref a_message, .ref a_digest, .ref a_words, .ref a_h, .ref a_v, .ref a_fillBytes, .ref a_sines, .ref a_roots, .ref a_box, .ref a_backBox, .ref a_roundKeys, .int (nI Mrounds), .ref a_state, .ref a_other, .ref a_stream, .ref a_work, .ref a_padded, .ref a_ownKey])), (a_backBox, .inl (E.2.1, 256, .inl MbackBox)), (a_state, .inl (E.2.1, 16, .inl Mstate)), (a_other, .inl (E.2.1, 16, .inl (upd (upd (upd (upd (upd (upd (upd (upd Mother 0 (MbackBox (Mstate 0).toNatClampNeg)) 1 (MbackBox (Mstate 13).toNatClampNeg)) 2 (MbackBox (Mstate 10).toNatClampNeg)) 3 (MbackBox (Mstate 7).toNatClampNeg)) 4 (MbackBox (Mstate 4).toNatClampNeg)) 5 (MbackBox (Mstate 1).toNatClampNeg)) 6 (MbackBox (Mstate 14).toNatClampNeg)) 7 (MbackBox (Mstate 11).toNatClampNeg))))] := hD_608
  clear hP_595 hD_595 hS_595
  refine lv_iinc (v := 4) (lv' := [(3, .int 4), (4, .int 2), (2, .int 1), (0, .ref o), (1, .int 1)]) hx hb dX11_substitute_84 hl_602 (k := 1) rfl (by decide) (by decide) rfl (fun ls_609 hl_609 => ?_)
  clear hl_602
  refine lv_goto (tgt := 9) hx hb dX11_substitute_87 (by decide) ?_
  refine lv_iload_n hx hb dX11_substitute_9 rfl (lv_at hl_609 0 rfl) ?_
  refine lv_iconst (v := 4) hx hb dX11_substitute_10 (by decide) ?_
  refine lv_icmp_ge (tgt := 90) hx hb dX11_substitute_11 (by decide) (fun c_610 => ?_) (fun c_610 => absurd (by decide) c_610)
  refine lv_iinc (v := 2) (lv' := [(2, .int 2), (3, .int 4), (4, .int 2), (0, .ref o), (1, .int 1)]) hx hb dX11_substitute_90 hl_609 (k := 2) rfl (by decide) (by decide) rfl (fun ls_611 hl_611 => ?_)
  clear hl_609
  refine lv_goto (tgt := 2) hx hb dX11_substitute_93 (by decide) ?_
  refine lv_iload_n hx hb dX11_substitute_2 rfl (lv_at hl_611 0 rfl) ?_
  refine lv_iconst (v := 4) hx hb dX11_substitute_3 (by decide) ?_
  refine lv_icmp_ge (tgt := 96) hx hb dX11_substitute_4 (by decide) (fun c_612 => absurd c_612 (by decide)) (fun c_612 => ?_)
  refine lv_iconst (v := 0) hx hb dX11_substitute_7 (by decide) ?_
  refine lv_istore_n (lv' := [(3, .int 0), (2, .int 2), (4, .int 2), (0, .ref o), (1, .int 1)]) hx hb dX11_substitute_8 rfl hl_611 (by decide) rfl (fun ls_613 hl_613 => ?_)
  clear hl_611
  refine lv_iload_n hx hb dX11_substitute_9 rfl (lv_at hl_613 0 rfl) ?_
  refine lv_iconst (v := 4) hx hb dX11_substitute_10 (by decide) ?_
  refine lv_icmp_ge (tgt := 90) hx hb dX11_substitute_11 (by decide) (fun c_614 => absurd c_614 (by decide)) (fun c_614 => ?_)
  refine lv_iload_n hx hb dX11_substitute_14 rfl (lv_at hl_613 4 rfl) ?_
  refine lv_if_eq (tgt := 28) hx hb dX11_substitute_15 (by decide) (fun c_615 => absurd c_615 (by decide)) (fun c_615 => ?_)
  refine lv_iload_n hx hb dX11_substitute_18 rfl (lv_at hl_613 1 rfl) ?_
  refine lv_iconst (v := 4) hx hb dX11_substitute_19 (by decide) ?_
  refine lv_iadd hx hb dX11_substitute_20 ?_
  refine lv_topi (fun y_616 ey_616 => ?_)
  obtain rfl : y_616 = 6 := ey_616.trans (by decide)
  refine lv_iload_n hx hb dX11_substitute_21 rfl (lv_at hl_613 0 rfl) ?_
  refine lv_isub hx hb dX11_substitute_22 ?_
  refine lv_topi (fun y_617 ey_617 => ?_)
  obtain rfl : y_617 = 6 := ey_617.trans (by decide)
  refine lv_iconst (v := 4) hx hb dX11_substitute_23 (by decide) ?_
  refine lv_irem hx hb dX11_substitute_24 (by decide) ?_
  refine lv_topi (fun y_618 ey_618 => ?_)
  obtain rfl : y_618 = 2 := ey_618.trans (by decide)
  refine lv_goto (tgt := 33) hx hb dX11_substitute_25 (by decide) ?_
  refine lv_istore (lv' := [(4, .int 2), (3, .int 0), (2, .int 2), (0, .ref o), (1, .int 1)]) hx hb dX11_substitute_33 hl_613 (by decide) rfl (fun ls_619 hl_619 => ?_)
  clear hl_613
  refine lv_aload_n hx hb dX11_substitute_35 rfl (lv_at hl_619 3 rfl) ?_
  refine va_get (D := E.1) (ci := 12) (v := .ref a_other) (C := RX11) (T := TX11) (N := 45) hx hb hts in_X11 hown hK hP_608 0 rfl rfl 40 (by decide) w_0 (fun _ h9 => h9) rfl dX11_substitute_36 ?_
  refine lv_iconst (v := 4) hx hb dX11_substitute_39 (by decide) ?_
  refine lv_iload_n hx hb dX11_substitute_40 rfl (lv_at hl_619 2 rfl) ?_
  refine lv_imul hx hb dX11_substitute_41 ?_
  refine lv_topi (fun y_620 ey_620 => ?_)
  obtain rfl : y_620 = 8 := ey_620.trans (by decide)
  refine lv_iload_n hx hb dX11_substitute_42 rfl (lv_at hl_619 1 rfl) ?_
  refine lv_iadd hx hb dX11_substitute_43 ?_
  refine lv_topi (fun y_621 ey_621 => ?_)
  obtain rfl : y_621 = 8 := ey_621.trans (by decide)
  refine lv_iload_n hx hb dX11_substitute_44 rfl (lv_at hl_619 4 rfl) ?_
  refine lv_if_eq (tgt := 67) hx hb dX11_substitute_45 (by decide) (fun c_622 => absurd c_622 (by decide)) (fun c_622 => ?_)
  refine lv_aload_n hx hb dX11_substitute_48 rfl (lv_at hl_619 3 rfl) ?_
  refine va_get (D := E.1) (ci := 12) (v := .ref a_backBox) (C := RX11) (T := TX11) (N := 45) hx hb hts in_X11 hown hK hP_608 0 rfl rfl 36 (by decide) w_1 (fun _ h9 => h9) rfl dX11_substitute_49 ?_
  refine lv_aload_n hx hb dX11_substitute_52 rfl (lv_at hl_619 3 rfl) ?_
  refine va_get (D := E.1) (ci := 12) (v := .ref a_state) (C := RX11) (T := TX11) (N := 45) hx hb hts in_X11 hown hK hP_608 0 rfl rfl 39 (by decide) w_2 (fun _ h9 => h9) rfl dX11_substitute_53 ?_
  refine lv_iconst (v := 4) hx hb dX11_substitute_56 (by decide) ?_
  refine lv_iload hx hb dX11_substitute_57 (lv_at hl_619 0 rfl) ?_
  refine lv_imul hx hb dX11_substitute_59 ?_
  refine lv_topi (fun y_623 ey_623 => ?_)
  obtain rfl : y_623 = 8 := ey_623.trans (by decide)
  refine lv_iload_n hx hb dX11_substitute_60 rfl (lv_at hl_619 1 rfl) ?_
  refine lv_iadd hx hb dX11_substitute_61 ?_
  refine lv_topi (fun y_624 ey_624 => ?_)
  obtain rfl : y_624 = 8 := ey_624.trans (by decide)
  refine g_iald (e0 := 8) hx hb hK hP_608 2 0 rfl rfl (by omega) (by omega) dX11_substitute_62 ?_
  refine va_iald hx hb hK hP_608 1 0 rfl rfl (isB_in (hstB _ (by omega))) dX11_substitute_63 ?_
  refine lv_goto (tgt := 83) hx hb dX11_substitute_64 (by decide) ?_
  refine g_iast (e0 := 8) hx hb hK hP_608 hD_608 hS_608 3 0 rfl rfl (by omega) (by omega) dX11_substitute_83 (fun H_625 locs_625 hP_625 hD_625 hS_625 => ?_)
  replace hP_625 : va_P E.1 vwCl [(o, .inr (12, [.int Mthrown, .int (nI rv), .ref a_user, .int (nI Musers), .ref a_owner, .int (nI Mowners), .ref a_tried, .int (nI Mtries), .ref a_id, .int (nI Mids), .ref a_tape, .int (nI Mtaped), .int (nI Mtaken), .int MisPlain, .int Mpermissions, .ref a_entries, .ref a_sizes, .ref a_key, .int MisOpen, .int Mfilter, .int (nI Mcollected), .ref a_bytes, .int Mobject, .int MisBack, .int (nI MoutSize), .ref a_out, .int (nI Msaid), .ref a_message, .ref a_digest, .ref a_words, .ref a_h, .ref a_v, .ref a_fillBytes, .ref a_sines, .ref a_roots, .ref a_box, .ref a_backBox, .ref a_roundKeys, .int (nI Mrounds), .ref a_state, .ref a_other, .ref a_stream, .ref a_work, .ref a_padded, .ref a_ownKey])), (a_backBox, .inl (E.2.1, 256, .inl MbackBox)), (a_state, .inl (E.2.1, 16, .inl Mstate)), (a_other, .inl (E.2.1, 16, .inl (upd (upd (upd (upd (upd (upd (upd (upd (upd Mother 0 (MbackBox (Mstate 0).toNatClampNeg)) 1 (MbackBox (Mstate 13).toNatClampNeg)) 2 (MbackBox (Mstate 10).toNatClampNeg)) 3 (MbackBox (Mstate 7).toNatClampNeg)) 4 (MbackBox (Mstate 4).toNatClampNeg)) 5 (MbackBox (Mstate 1).toNatClampNeg)) 6 (MbackBox (Mstate 14).toNatClampNeg)) 7 (MbackBox (Mstate 11).toNatClampNeg)) 8 (MbackBox (Mstate 8).toNatClampNeg))))] H_625 := hP_625
  replace hD_625 : va_D A [(o, .inr (12, [.int Mthrown, .int (nI rv), .ref a_user, .int (nI Musers), .ref a_owner, .int (nI Mowners), .ref a_tried, .int (nI Mtries), .ref a_id, .int (nI Mids), .ref a_tape, .int (nI Mtaped), .int (nI Mtaken), .int MisPlain, .int Mpermissions, .ref a_entries, .ref a_sizes, .ref a_key, .int MisOpen, .int Mfilter, .int (nI Mcollected), .ref a_bytes, .int Mobject, .int MisBack, .int (nI MoutSize), .ref a_out, .int (nI Msaid), .ref a_message, .ref a_digest, .ref a_words, .ref a_h, .ref a_v, .ref a_fillBytes, .ref a_sines, .ref a_roots, .ref a_box, .ref a_backBox, .ref a_roundKeys, .int (nI Mrounds), .ref a_state, .ref a_other, .ref a_stream, .ref a_work, .ref a_padded, .ref a_ownKey])), (a_backBox, .inl (E.2.1, 256, .inl MbackBox)), (a_state, .inl (E.2.1, 16, .inl Mstate)), (a_other, .inl (E.2.1, 16, .inl (upd (upd (upd (upd (upd (upd (upd (upd (upd Mother 0 (MbackBox (Mstate 0).toNatClampNeg)) 1 (MbackBox (Mstate 13).toNatClampNeg)) 2 (MbackBox (Mstate 10).toNatClampNeg)) 3 (MbackBox (Mstate 7).toNatClampNeg)) 4 (MbackBox (Mstate 4).toNatClampNeg)) 5 (MbackBox (Mstate 1).toNatClampNeg)) 6 (MbackBox (Mstate 14).toNatClampNeg)) 7 (MbackBox (Mstate 11).toNatClampNeg)) 8 (MbackBox (Mstate 8).toNatClampNeg))))] := hD_625
  clear hP_608 hD_608 hS_608
  refine lv_iinc (v := 1) (lv' := [(3, .int 1), (4, .int 2), (2, .int 2), (0, .ref o), (1, .int 1)]) hx hb dX11_substitute_84 hl_619 (k := 1) rfl (by decide) (by decide) rfl (fun ls_626 hl_626 => ?_)
  clear hl_619
  refine lv_goto (tgt := 9) hx hb dX11_substitute_87 (by decide) ?_
  refine lv_iload_n hx hb dX11_substitute_9 rfl (lv_at hl_626 0 rfl) ?_
  refine lv_iconst (v := 4) hx hb dX11_substitute_10 (by decide) ?_
  refine lv_icmp_ge (tgt := 90) hx hb dX11_substitute_11 (by decide) (fun c_627 => absurd c_627 (by decide)) (fun c_627 => ?_)
  refine lv_iload_n hx hb dX11_substitute_14 rfl (lv_at hl_626 4 rfl) ?_
  refine lv_if_eq (tgt := 28) hx hb dX11_substitute_15 (by decide) (fun c_628 => absurd c_628 (by decide)) (fun c_628 => ?_)
  refine lv_iload_n hx hb dX11_substitute_18 rfl (lv_at hl_626 2 rfl) ?_
  refine lv_iconst (v := 4) hx hb dX11_substitute_19 (by decide) ?_
  refine lv_iadd hx hb dX11_substitute_20 ?_
  refine lv_topi (fun y_629 ey_629 => ?_)
  obtain rfl : y_629 = 6 := ey_629.trans (by decide)
  refine lv_iload_n hx hb dX11_substitute_21 rfl (lv_at hl_626 0 rfl) ?_
  refine lv_isub hx hb dX11_substitute_22 ?_
  refine lv_topi (fun y_630 ey_630 => ?_)
  obtain rfl : y_630 = 5 := ey_630.trans (by decide)
  refine lv_iconst (v := 4) hx hb dX11_substitute_23 (by decide) ?_
  refine lv_irem hx hb dX11_substitute_24 (by decide) ?_
  refine lv_topi (fun y_631 ey_631 => ?_)
  obtain rfl : y_631 = 1 := ey_631.trans (by decide)
  refine lv_goto (tgt := 33) hx hb dX11_substitute_25 (by decide) ?_
  refine lv_istore (lv' := [(4, .int 1), (3, .int 1), (2, .int 2), (0, .ref o), (1, .int 1)]) hx hb dX11_substitute_33 hl_626 (by decide) rfl (fun ls_632 hl_632 => ?_)
  clear hl_626
  refine lv_aload_n hx hb dX11_substitute_35 rfl (lv_at hl_632 3 rfl) ?_
  refine va_get (D := E.1) (ci := 12) (v := .ref a_other) (C := RX11) (T := TX11) (N := 45) hx hb hts in_X11 hown hK hP_625 0 rfl rfl 40 (by decide) w_0 (fun _ h9 => h9) rfl dX11_substitute_36 ?_
  refine lv_iconst (v := 4) hx hb dX11_substitute_39 (by decide) ?_
  refine lv_iload_n hx hb dX11_substitute_40 rfl (lv_at hl_632 2 rfl) ?_
  refine lv_imul hx hb dX11_substitute_41 ?_
  refine lv_topi (fun y_633 ey_633 => ?_)
  obtain rfl : y_633 = 8 := ey_633.trans (by decide)
  refine lv_iload_n hx hb dX11_substitute_42 rfl (lv_at hl_632 1 rfl) ?_
  refine lv_iadd hx hb dX11_substitute_43 ?_
  refine lv_topi (fun y_634 ey_634 => ?_)
  obtain rfl : y_634 = 9 := ey_634.trans (by decide)
  refine lv_iload_n hx hb dX11_substitute_44 rfl (lv_at hl_632 4 rfl) ?_
  refine lv_if_eq (tgt := 67) hx hb dX11_substitute_45 (by decide) (fun c_635 => absurd c_635 (by decide)) (fun c_635 => ?_)
  refine lv_aload_n hx hb dX11_substitute_48 rfl (lv_at hl_632 3 rfl) ?_
  refine va_get (D := E.1) (ci := 12) (v := .ref a_backBox) (C := RX11) (T := TX11) (N := 45) hx hb hts in_X11 hown hK hP_625 0 rfl rfl 36 (by decide) w_1 (fun _ h9 => h9) rfl dX11_substitute_49 ?_
  refine lv_aload_n hx hb dX11_substitute_52 rfl (lv_at hl_632 3 rfl) ?_
  refine va_get (D := E.1) (ci := 12) (v := .ref a_state) (C := RX11) (T := TX11) (N := 45) hx hb hts in_X11 hown hK hP_625 0 rfl rfl 39 (by decide) w_2 (fun _ h9 => h9) rfl dX11_substitute_53 ?_
  refine lv_iconst (v := 4) hx hb dX11_substitute_56 (by decide) ?_
  refine lv_iload hx hb dX11_substitute_57 (lv_at hl_632 0 rfl) ?_
  refine lv_imul hx hb dX11_substitute_59 ?_
  refine lv_topi (fun y_636 ey_636 => ?_)
  obtain rfl : y_636 = 4 := ey_636.trans (by decide)
  refine lv_iload_n hx hb dX11_substitute_60 rfl (lv_at hl_632 1 rfl) ?_
  refine lv_iadd hx hb dX11_substitute_61 ?_
  refine lv_topi (fun y_637 ey_637 => ?_)
  obtain rfl : y_637 = 5 := ey_637.trans (by decide)
  refine g_iald (e0 := 5) hx hb hK hP_625 2 0 rfl rfl (by omega) (by omega) dX11_substitute_62 ?_
  refine va_iald hx hb hK hP_625 1 0 rfl rfl (isB_in (hstB _ (by omega))) dX11_substitute_63 ?_
  refine lv_goto (tgt := 83) hx hb dX11_substitute_64 (by decide) ?_
  refine g_iast (e0 := 9) hx hb hK hP_625 hD_625 hS_625 3 0 rfl rfl (by omega) (by omega) dX11_substitute_83 (fun H_638 locs_638 hP_638 hD_638 hS_638 => ?_)
  replace hP_638 : va_P E.1 vwCl [(o, .inr (12, [.int Mthrown, .int (nI rv), .ref a_user, .int (nI Musers), .ref a_owner, .int (nI Mowners), .ref a_tried, .int (nI Mtries), .ref a_id, .int (nI Mids), .ref a_tape, .int (nI Mtaped), .int (nI Mtaken), .int MisPlain, .int Mpermissions, .ref a_entries, .ref a_sizes, .ref a_key, .int MisOpen, .int Mfilter, .int (nI Mcollected), .ref a_bytes, .int Mobject, .int MisBack, .int (nI MoutSize), .ref a_out, .int (nI Msaid), .ref a_message, .ref a_digest, .ref a_words, .ref a_h, .ref a_v, .ref a_fillBytes, .ref a_sines, .ref a_roots, .ref a_box, .ref a_backBox, .ref a_roundKeys, .int (nI Mrounds), .ref a_state, .ref a_other, .ref a_stream, .ref a_work, .ref a_padded, .ref a_ownKey])), (a_backBox, .inl (E.2.1, 256, .inl MbackBox)), (a_state, .inl (E.2.1, 16, .inl Mstate)), (a_other, .inl (E.2.1, 16, .inl (upd (upd (upd (upd (upd (upd (upd (upd (upd (upd Mother 0 (MbackBox (Mstate 0).toNatClampNeg)) 1 (MbackBox (Mstate 13).toNatClampNeg)) 2 (MbackBox (Mstate 10).toNatClampNeg)) 3 (MbackBox (Mstate 7).toNatClampNeg)) 4 (MbackBox (Mstate 4).toNatClampNeg)) 5 (MbackBox (Mstate 1).toNatClampNeg)) 6 (MbackBox (Mstate 14).toNatClampNeg)) 7 (MbackBox (Mstate 11).toNatClampNeg)) 8 (MbackBox (Mstate 8).toNatClampNeg)) 9 (MbackBox (Mstate 5).toNatClampNeg))))] H_638 := hP_638
  replace hD_638 : va_D A [(o, .inr (12, [.int Mthrown, .int (nI rv), .ref a_user, .int (nI Musers), .ref a_owner, .int (nI Mowners), .ref a_tried, .int (nI Mtries), .ref a_id, .int (nI Mids), .ref a_tape, .int (nI Mtaped), .int (nI Mtaken), .int MisPlain, .int Mpermissions, .ref a_entries, .ref a_sizes, .ref a_key, .int MisOpen, .int Mfilter, .int (nI Mcollected), .ref a_bytes, .int Mobject, .int MisBack, .int (nI MoutSize), .ref a_out, .int (nI Msaid), .ref a_message, .ref a_digest, .ref a_words, .ref a_h, .ref a_v, .ref a_fillBytes, .ref a_sines, .ref a_roots, .ref a_box, .ref a_backBox, .ref a_roundKeys, .int (nI Mrounds), .ref a_state, .ref a_other, .ref a_stream, .ref a_work, .ref a_padded, .ref a_ownKey])), (a_backBox, .inl (E.2.1, 256, .inl MbackBox)), (a_state, .inl (E.2.1, 16, .inl Mstate)), (a_other, .inl (E.2.1, 16, .inl (upd (upd (upd (upd (upd (upd (upd (upd (upd (upd Mother 0 (MbackBox (Mstate 0).toNatClampNeg)) 1 (MbackBox (Mstate 13).toNatClampNeg)) 2 (MbackBox (Mstate 10).toNatClampNeg)) 3 (MbackBox (Mstate 7).toNatClampNeg)) 4 (MbackBox (Mstate 4).toNatClampNeg)) 5 (MbackBox (Mstate 1).toNatClampNeg)) 6 (MbackBox (Mstate 14).toNatClampNeg)) 7 (MbackBox (Mstate 11).toNatClampNeg)) 8 (MbackBox (Mstate 8).toNatClampNeg)) 9 (MbackBox (Mstate 5).toNatClampNeg))))] := hD_638
  clear hP_625 hD_625 hS_625
  refine lv_iinc (v := 2) (lv' := [(3, .int 2), (4, .int 1), (2, .int 2), (0, .ref o), (1, .int 1)]) hx hb dX11_substitute_84 hl_632 (k := 1) rfl (by decide) (by decide) rfl (fun ls_639 hl_639 => ?_)
  clear hl_632
  refine lv_goto (tgt := 9) hx hb dX11_substitute_87 (by decide) ?_
  refine lv_iload_n hx hb dX11_substitute_9 rfl (lv_at hl_639 0 rfl) ?_
  refine lv_iconst (v := 4) hx hb dX11_substitute_10 (by decide) ?_
  refine lv_icmp_ge (tgt := 90) hx hb dX11_substitute_11 (by decide) (fun c_640 => absurd c_640 (by decide)) (fun c_640 => ?_)
  refine lv_iload_n hx hb dX11_substitute_14 rfl (lv_at hl_639 4 rfl) ?_
  refine lv_if_eq (tgt := 28) hx hb dX11_substitute_15 (by decide) (fun c_641 => absurd c_641 (by decide)) (fun c_641 => ?_)
  refine lv_iload_n hx hb dX11_substitute_18 rfl (lv_at hl_639 2 rfl) ?_
  refine lv_iconst (v := 4) hx hb dX11_substitute_19 (by decide) ?_
  refine lv_iadd hx hb dX11_substitute_20 ?_
  refine lv_topi (fun y_642 ey_642 => ?_)
  obtain rfl : y_642 = 6 := ey_642.trans (by decide)
  refine lv_iload_n hx hb dX11_substitute_21 rfl (lv_at hl_639 0 rfl) ?_
  refine lv_isub hx hb dX11_substitute_22 ?_
  refine lv_topi (fun y_643 ey_643 => ?_)
  obtain rfl : y_643 = 4 := ey_643.trans (by decide)
  refine lv_iconst (v := 4) hx hb dX11_substitute_23 (by decide) ?_
  refine lv_irem hx hb dX11_substitute_24 (by decide) ?_
  refine lv_topi (fun y_644 ey_644 => ?_)
  obtain rfl : y_644 = 0 := ey_644.trans (by decide)
  refine lv_goto (tgt := 33) hx hb dX11_substitute_25 (by decide) ?_
  refine lv_istore (lv' := [(4, .int 0), (3, .int 2), (2, .int 2), (0, .ref o), (1, .int 1)]) hx hb dX11_substitute_33 hl_639 (by decide) rfl (fun ls_645 hl_645 => ?_)
  clear hl_639
  refine lv_aload_n hx hb dX11_substitute_35 rfl (lv_at hl_645 3 rfl) ?_
  refine va_get (D := E.1) (ci := 12) (v := .ref a_other) (C := RX11) (T := TX11) (N := 45) hx hb hts in_X11 hown hK hP_638 0 rfl rfl 40 (by decide) w_0 (fun _ h9 => h9) rfl dX11_substitute_36 ?_
  refine lv_iconst (v := 4) hx hb dX11_substitute_39 (by decide) ?_
  refine lv_iload_n hx hb dX11_substitute_40 rfl (lv_at hl_645 2 rfl) ?_
  refine lv_imul hx hb dX11_substitute_41 ?_
  refine lv_topi (fun y_646 ey_646 => ?_)
  obtain rfl : y_646 = 8 := ey_646.trans (by decide)
  refine lv_iload_n hx hb dX11_substitute_42 rfl (lv_at hl_645 1 rfl) ?_
  refine lv_iadd hx hb dX11_substitute_43 ?_
  refine lv_topi (fun y_647 ey_647 => ?_)
  obtain rfl : y_647 = 10 := ey_647.trans (by decide)
  refine lv_iload_n hx hb dX11_substitute_44 rfl (lv_at hl_645 4 rfl) ?_
  refine lv_if_eq (tgt := 67) hx hb dX11_substitute_45 (by decide) (fun c_648 => absurd c_648 (by decide)) (fun c_648 => ?_)
  refine lv_aload_n hx hb dX11_substitute_48 rfl (lv_at hl_645 3 rfl) ?_
  refine va_get (D := E.1) (ci := 12) (v := .ref a_backBox) (C := RX11) (T := TX11) (N := 45) hx hb hts in_X11 hown hK hP_638 0 rfl rfl 36 (by decide) w_1 (fun _ h9 => h9) rfl dX11_substitute_49 ?_
  refine lv_aload_n hx hb dX11_substitute_52 rfl (lv_at hl_645 3 rfl) ?_
  refine va_get (D := E.1) (ci := 12) (v := .ref a_state) (C := RX11) (T := TX11) (N := 45) hx hb hts in_X11 hown hK hP_638 0 rfl rfl 39 (by decide) w_2 (fun _ h9 => h9) rfl dX11_substitute_53 ?_
  refine lv_iconst (v := 4) hx hb dX11_substitute_56 (by decide) ?_
  refine lv_iload hx hb dX11_substitute_57 (lv_at hl_645 0 rfl) ?_
  refine lv_imul hx hb dX11_substitute_59 ?_
  refine lv_topi (fun y_649 ey_649 => ?_)
  obtain rfl : y_649 = 0 := ey_649.trans (by decide)
  refine lv_iload_n hx hb dX11_substitute_60 rfl (lv_at hl_645 1 rfl) ?_
  refine lv_iadd hx hb dX11_substitute_61 ?_
  refine lv_topi (fun y_650 ey_650 => ?_)
  obtain rfl : y_650 = 2 := ey_650.trans (by decide)
  refine g_iald (e0 := 2) hx hb hK hP_638 2 0 rfl rfl (by omega) (by omega) dX11_substitute_62 ?_
  refine va_iald hx hb hK hP_638 1 0 rfl rfl (isB_in (hstB _ (by omega))) dX11_substitute_63 ?_
  refine lv_goto (tgt := 83) hx hb dX11_substitute_64 (by decide) ?_
  refine g_iast (e0 := 10) hx hb hK hP_638 hD_638 hS_638 3 0 rfl rfl (by omega) (by omega) dX11_substitute_83 (fun H_651 locs_651 hP_651 hD_651 hS_651 => ?_)
  replace hP_651 : va_P E.1 vwCl [(o, .inr (12, [.int Mthrown, .int (nI rv), .ref a_user, .int (nI Musers), .ref a_owner, .int (nI Mowners), .ref a_tried, .int (nI Mtries), .ref a_id, .int (nI Mids), .ref a_tape, .int (nI Mtaped), .int (nI Mtaken), .int MisPlain, .int Mpermissions, .ref a_entries, .ref a_sizes, .ref a_key, .int MisOpen, .int Mfilter, .int (nI Mcollected), .ref a_bytes, .int Mobject, .int MisBack, .int (nI MoutSize), .ref a_out, .int (nI Msaid), .ref a_message, .ref a_digest, .ref a_words, .ref a_h, .ref a_v, .ref a_fillBytes, .ref a_sines, .ref a_roots, .ref a_box, .ref a_backBox, .ref a_roundKeys, .int (nI Mrounds), .ref a_state, .ref a_other, .ref a_stream, .ref a_work, .ref a_padded, .ref a_ownKey])), (a_backBox, .inl (E.2.1, 256, .inl MbackBox)), (a_state, .inl (E.2.1, 16, .inl Mstate)), (a_other, .inl (E.2.1, 16, .inl (upd (upd (upd (upd (upd (upd (upd (upd (upd (upd (upd Mother 0 (MbackBox (Mstate 0).toNatClampNeg)) 1 (MbackBox (Mstate 13).toNatClampNeg)) 2 (MbackBox (Mstate 10).toNatClampNeg)) 3 (MbackBox (Mstate 7).toNatClampNeg)) 4 (MbackBox (Mstate 4).toNatClampNeg)) 5 (MbackBox (Mstate 1).toNatClampNeg)) 6 (MbackBox (Mstate 14).toNatClampNeg)) 7 (MbackBox (Mstate 11).toNatClampNeg)) 8 (MbackBox (Mstate 8).toNatClampNeg)) 9 (MbackBox (Mstate 5).toNatClampNeg)) 10 (MbackBox (Mstate 2).toNatClampNeg))))] H_651 := hP_651
  replace hD_651 : va_D A [(o, .inr (12, [.int Mthrown, .int (nI rv), .ref a_user, .int (nI Musers), .ref a_owner, .int (nI Mowners), .ref a_tried, .int (nI Mtries), .ref a_id, .int (nI Mids), .ref a_tape, .int (nI Mtaped), .int (nI Mtaken), .int MisPlain, .int Mpermissions, .ref a_entries, .ref a_sizes, .ref a_key, .int MisOpen, .int Mfilter, .int (nI Mcollected), .ref a_bytes, .int Mobject, .int MisBack, .int (nI MoutSize), .ref a_out, .int (nI Msaid), .ref a_message, .ref a_digest, .ref a_words, .ref a_h, .ref a_v, .ref a_fillBytes, .ref a_sines, .ref a_roots, .ref a_box, .ref a_backBox, .ref a_roundKeys, .int (nI Mrounds), .ref a_state, .ref a_other, .ref a_stream, .ref a_work, .ref a_padded, .ref a_ownKey])), (a_backBox, .inl (E.2.1, 256, .inl MbackBox)), (a_state, .inl (E.2.1, 16, .inl Mstate)), (a_other, .inl (E.2.1, 16, .inl (upd (upd (upd (upd (upd (upd (upd (upd (upd (upd (upd Mother 0 (MbackBox (Mstate 0).toNatClampNeg)) 1 (MbackBox (Mstate 13).toNatClampNeg)) 2 (MbackBox (Mstate 10).toNatClampNeg)) 3 (MbackBox (Mstate 7).toNatClampNeg)) 4 (MbackBox (Mstate 4).toNatClampNeg)) 5 (MbackBox (Mstate 1).toNatClampNeg)) 6 (MbackBox (Mstate 14).toNatClampNeg)) 7 (MbackBox (Mstate 11).toNatClampNeg)) 8 (MbackBox (Mstate 8).toNatClampNeg)) 9 (MbackBox (Mstate 5).toNatClampNeg)) 10 (MbackBox (Mstate 2).toNatClampNeg))))] := hD_651
  clear hP_638 hD_638 hS_638
  refine lv_iinc (v := 3) (lv' := [(3, .int 3), (4, .int 0), (2, .int 2), (0, .ref o), (1, .int 1)]) hx hb dX11_substitute_84 hl_645 (k := 1) rfl (by decide) (by decide) rfl (fun ls_652 hl_652 => ?_)
  clear hl_645
  refine lv_goto (tgt := 9) hx hb dX11_substitute_87 (by decide) ?_
  refine lv_iload_n hx hb dX11_substitute_9 rfl (lv_at hl_652 0 rfl) ?_
  refine lv_iconst (v := 4) hx hb dX11_substitute_10 (by decide) ?_
  refine lv_icmp_ge (tgt := 90) hx hb dX11_substitute_11 (by decide) (fun c_653 => absurd c_653 (by decide)) (fun c_653 => ?_)
  refine lv_iload_n hx hb dX11_substitute_14 rfl (lv_at hl_652 4 rfl) ?_
  refine lv_if_eq (tgt := 28) hx hb dX11_substitute_15 (by decide) (fun c_654 => absurd c_654 (by decide)) (fun c_654 => ?_)
  refine lv_iload_n hx hb dX11_substitute_18 rfl (lv_at hl_652 2 rfl) ?_
  refine lv_iconst (v := 4) hx hb dX11_substitute_19 (by decide) ?_
  refine lv_iadd hx hb dX11_substitute_20 ?_
  refine lv_topi (fun y_655 ey_655 => ?_)
  obtain rfl : y_655 = 6 := ey_655.trans (by decide)
  refine lv_iload_n hx hb dX11_substitute_21 rfl (lv_at hl_652 0 rfl) ?_
  refine lv_isub hx hb dX11_substitute_22 ?_
  refine lv_topi (fun y_656 ey_656 => ?_)
  obtain rfl : y_656 = 3 := ey_656.trans (by decide)
  refine lv_iconst (v := 4) hx hb dX11_substitute_23 (by decide) ?_
  refine lv_irem hx hb dX11_substitute_24 (by decide) ?_
  refine lv_topi (fun y_657 ey_657 => ?_)
  obtain rfl : y_657 = 3 := ey_657.trans (by decide)
  refine lv_goto (tgt := 33) hx hb dX11_substitute_25 (by decide) ?_
  refine lv_istore (lv' := [(4, .int 3), (3, .int 3), (2, .int 2), (0, .ref o), (1, .int 1)]) hx hb dX11_substitute_33 hl_652 (by decide) rfl (fun ls_658 hl_658 => ?_)
  clear hl_652
  refine lv_aload_n hx hb dX11_substitute_35 rfl (lv_at hl_658 3 rfl) ?_
  refine va_get (D := E.1) (ci := 12) (v := .ref a_other) (C := RX11) (T := TX11) (N := 45) hx hb hts in_X11 hown hK hP_651 0 rfl rfl 40 (by decide) w_0 (fun _ h9 => h9) rfl dX11_substitute_36 ?_
  refine lv_iconst (v := 4) hx hb dX11_substitute_39 (by decide) ?_
  refine lv_iload_n hx hb dX11_substitute_40 rfl (lv_at hl_658 2 rfl) ?_
  refine lv_imul hx hb dX11_substitute_41 ?_
  refine lv_topi (fun y_659 ey_659 => ?_)
  obtain rfl : y_659 = 8 := ey_659.trans (by decide)
  refine lv_iload_n hx hb dX11_substitute_42 rfl (lv_at hl_658 1 rfl) ?_
  refine lv_iadd hx hb dX11_substitute_43 ?_
  refine lv_topi (fun y_660 ey_660 => ?_)
  obtain rfl : y_660 = 11 := ey_660.trans (by decide)
  refine lv_iload_n hx hb dX11_substitute_44 rfl (lv_at hl_658 4 rfl) ?_
  refine lv_if_eq (tgt := 67) hx hb dX11_substitute_45 (by decide) (fun c_661 => absurd c_661 (by decide)) (fun c_661 => ?_)
  refine lv_aload_n hx hb dX11_substitute_48 rfl (lv_at hl_658 3 rfl) ?_
  refine va_get (D := E.1) (ci := 12) (v := .ref a_backBox) (C := RX11) (T := TX11) (N := 45) hx hb hts in_X11 hown hK hP_651 0 rfl rfl 36 (by decide) w_1 (fun _ h9 => h9) rfl dX11_substitute_49 ?_
  refine lv_aload_n hx hb dX11_substitute_52 rfl (lv_at hl_658 3 rfl) ?_
  refine va_get (D := E.1) (ci := 12) (v := .ref a_state) (C := RX11) (T := TX11) (N := 45) hx hb hts in_X11 hown hK hP_651 0 rfl rfl 39 (by decide) w_2 (fun _ h9 => h9) rfl dX11_substitute_53 ?_
  refine lv_iconst (v := 4) hx hb dX11_substitute_56 (by decide) ?_
  refine lv_iload hx hb dX11_substitute_57 (lv_at hl_658 0 rfl) ?_
  refine lv_imul hx hb dX11_substitute_59 ?_
  refine lv_topi (fun y_662 ey_662 => ?_)
  obtain rfl : y_662 = 12 := ey_662.trans (by decide)
  refine lv_iload_n hx hb dX11_substitute_60 rfl (lv_at hl_658 1 rfl) ?_
  refine lv_iadd hx hb dX11_substitute_61 ?_
  refine lv_topi (fun y_663 ey_663 => ?_)
  obtain rfl : y_663 = 15 := ey_663.trans (by decide)
  refine g_iald (e0 := 15) hx hb hK hP_651 2 0 rfl rfl (by omega) (by omega) dX11_substitute_62 ?_
  refine va_iald hx hb hK hP_651 1 0 rfl rfl (isB_in (hstB _ (by omega))) dX11_substitute_63 ?_
  refine lv_goto (tgt := 83) hx hb dX11_substitute_64 (by decide) ?_
  refine g_iast (e0 := 11) hx hb hK hP_651 hD_651 hS_651 3 0 rfl rfl (by omega) (by omega) dX11_substitute_83 (fun H_664 locs_664 hP_664 hD_664 hS_664 => ?_)
  replace hP_664 : va_P E.1 vwCl [(o, .inr (12, [.int Mthrown, .int (nI rv), .ref a_user, .int (nI Musers), .ref a_owner, .int (nI Mowners), .ref a_tried, .int (nI Mtries), .ref a_id, .int (nI Mids), .ref a_tape, .int (nI Mtaped), .int (nI Mtaken), .int MisPlain, .int Mpermissions, .ref a_entries, .ref a_sizes, .ref a_key, .int MisOpen, .int Mfilter, .int (nI Mcollected), .ref a_bytes, .int Mobject, .int MisBack, .int (nI MoutSize), .ref a_out, .int (nI Msaid), .ref a_message, .ref a_digest, .ref a_words, .ref a_h, .ref a_v, .ref a_fillBytes, .ref a_sines, .ref a_roots, .ref a_box, .ref a_backBox, .ref a_roundKeys, .int (nI Mrounds), .ref a_state, .ref a_other, .ref a_stream, .ref a_work, .ref a_padded, .ref a_ownKey])), (a_backBox, .inl (E.2.1, 256, .inl MbackBox)), (a_state, .inl (E.2.1, 16, .inl Mstate)), (a_other, .inl (E.2.1, 16, .inl (upd (upd (upd (upd (upd (upd (upd (upd (upd (upd (upd (upd Mother 0 (MbackBox (Mstate 0).toNatClampNeg)) 1 (MbackBox (Mstate 13).toNatClampNeg)) 2 (MbackBox (Mstate 10).toNatClampNeg)) 3 (MbackBox (Mstate 7).toNatClampNeg)) 4 (MbackBox (Mstate 4).toNatClampNeg)) 5 (MbackBox (Mstate 1).toNatClampNeg)) 6 (MbackBox (Mstate 14).toNatClampNeg)) 7 (MbackBox (Mstate 11).toNatClampNeg)) 8 (MbackBox (Mstate 8).toNatClampNeg)) 9 (MbackBox (Mstate 5).toNatClampNeg)) 10 (MbackBox (Mstate 2).toNatClampNeg)) 11 (MbackBox (Mstate 15).toNatClampNeg))))] H_664 := hP_664
  replace hD_664 : va_D A [(o, .inr (12, [.int Mthrown, .int (nI rv), .ref a_user, .int (nI Musers), .ref a_owner, .int (nI Mowners), .ref a_tried, .int (nI Mtries), .ref a_id, .int (nI Mids), .ref a_tape, .int (nI Mtaped), .int (nI Mtaken), .int MisPlain, .int Mpermissions, .ref a_entries, .ref a_sizes, .ref a_key, .int MisOpen, .int Mfilter, .int (nI Mcollected), .ref a_bytes, .int Mobject, .int MisBack, .int (nI MoutSize), .ref a_out, .int (nI Msaid), .ref a_message, .ref a_digest, .ref a_words, .ref a_h, .ref a_v, .ref a_fillBytes, .ref a_sines, .ref a_roots, .ref a_box, .ref a_backBox, .ref a_roundKeys, .int (nI Mrounds), .ref a_state, .ref a_other, .ref a_stream, .ref a_work, .ref a_padded, .ref a_ownKey])), (a_backBox, .inl (E.2.1, 256, .inl MbackBox)), (a_state, .inl (E.2.1, 16, .inl Mstate)), (a_other, .inl (E.2.1, 16, .inl (upd (upd (upd (upd (upd (upd (upd (upd (upd (upd (upd (upd Mother 0 (MbackBox (Mstate 0).toNatClampNeg)) 1 (MbackBox (Mstate 13).toNatClampNeg)) 2 (MbackBox (Mstate 10).toNatClampNeg)) 3 (MbackBox (Mstate 7).toNatClampNeg)) 4 (MbackBox (Mstate 4).toNatClampNeg)) 5 (MbackBox (Mstate 1).toNatClampNeg)) 6 (MbackBox (Mstate 14).toNatClampNeg)) 7 (MbackBox (Mstate 11).toNatClampNeg)) 8 (MbackBox (Mstate 8).toNatClampNeg)) 9 (MbackBox (Mstate 5).toNatClampNeg)) 10 (MbackBox (Mstate 2).toNatClampNeg)) 11 (MbackBox (Mstate 15).toNatClampNeg))))] := hD_664
  clear hP_651 hD_651 hS_651
  refine lv_iinc (v := 4) (lv' := [(3, .int 4), (4, .int 3), (2, .int 2), (0, .ref o), (1, .int 1)]) hx hb dX11_substitute_84 hl_658 (k := 1) rfl (by decide) (by decide) rfl (fun ls_665 hl_665 => ?_)
  clear hl_658
  refine lv_goto (tgt := 9) hx hb dX11_substitute_87 (by decide) ?_
  refine lv_iload_n hx hb dX11_substitute_9 rfl (lv_at hl_665 0 rfl) ?_
  refine lv_iconst (v := 4) hx hb dX11_substitute_10 (by decide) ?_
  refine lv_icmp_ge (tgt := 90) hx hb dX11_substitute_11 (by decide) (fun c_666 => ?_) (fun c_666 => absurd (by decide) c_666)
  refine lv_iinc (v := 3) (lv' := [(2, .int 3), (3, .int 4), (4, .int 3), (0, .ref o), (1, .int 1)]) hx hb dX11_substitute_90 hl_665 (k := 2) rfl (by decide) (by decide) rfl (fun ls_667 hl_667 => ?_)
  clear hl_665
  refine lv_goto (tgt := 2) hx hb dX11_substitute_93 (by decide) ?_
  refine lv_iload_n hx hb dX11_substitute_2 rfl (lv_at hl_667 0 rfl) ?_
  refine lv_iconst (v := 4) hx hb dX11_substitute_3 (by decide) ?_
  refine lv_icmp_ge (tgt := 96) hx hb dX11_substitute_4 (by decide) (fun c_668 => absurd c_668 (by decide)) (fun c_668 => ?_)
  refine lv_iconst (v := 0) hx hb dX11_substitute_7 (by decide) ?_
  refine lv_istore_n (lv' := [(3, .int 0), (2, .int 3), (4, .int 3), (0, .ref o), (1, .int 1)]) hx hb dX11_substitute_8 rfl hl_667 (by decide) rfl (fun ls_669 hl_669 => ?_)
  clear hl_667
  refine lv_iload_n hx hb dX11_substitute_9 rfl (lv_at hl_669 0 rfl) ?_
  refine lv_iconst (v := 4) hx hb dX11_substitute_10 (by decide) ?_
  refine lv_icmp_ge (tgt := 90) hx hb dX11_substitute_11 (by decide) (fun c_670 => absurd c_670 (by decide)) (fun c_670 => ?_)
  refine lv_iload_n hx hb dX11_substitute_14 rfl (lv_at hl_669 4 rfl) ?_
  refine lv_if_eq (tgt := 28) hx hb dX11_substitute_15 (by decide) (fun c_671 => absurd c_671 (by decide)) (fun c_671 => ?_)
  refine lv_iload_n hx hb dX11_substitute_18 rfl (lv_at hl_669 1 rfl) ?_
  refine lv_iconst (v := 4) hx hb dX11_substitute_19 (by decide) ?_
  refine lv_iadd hx hb dX11_substitute_20 ?_
  refine lv_topi (fun y_672 ey_672 => ?_)
  obtain rfl : y_672 = 7 := ey_672.trans (by decide)
  refine lv_iload_n hx hb dX11_substitute_21 rfl (lv_at hl_669 0 rfl) ?_
  refine lv_isub hx hb dX11_substitute_22 ?_
  refine lv_topi (fun y_673 ey_673 => ?_)
  obtain rfl : y_673 = 7 := ey_673.trans (by decide)
  refine lv_iconst (v := 4) hx hb dX11_substitute_23 (by decide) ?_
  refine lv_irem hx hb dX11_substitute_24 (by decide) ?_
  refine lv_topi (fun y_674 ey_674 => ?_)
  obtain rfl : y_674 = 3 := ey_674.trans (by decide)
  refine lv_goto (tgt := 33) hx hb dX11_substitute_25 (by decide) ?_
  refine lv_istore (lv' := [(4, .int 3), (3, .int 0), (2, .int 3), (0, .ref o), (1, .int 1)]) hx hb dX11_substitute_33 hl_669 (by decide) rfl (fun ls_675 hl_675 => ?_)
  clear hl_669
  refine lv_aload_n hx hb dX11_substitute_35 rfl (lv_at hl_675 3 rfl) ?_
  refine va_get (D := E.1) (ci := 12) (v := .ref a_other) (C := RX11) (T := TX11) (N := 45) hx hb hts in_X11 hown hK hP_664 0 rfl rfl 40 (by decide) w_0 (fun _ h9 => h9) rfl dX11_substitute_36 ?_
  refine lv_iconst (v := 4) hx hb dX11_substitute_39 (by decide) ?_
  refine lv_iload_n hx hb dX11_substitute_40 rfl (lv_at hl_675 2 rfl) ?_
  refine lv_imul hx hb dX11_substitute_41 ?_
  refine lv_topi (fun y_676 ey_676 => ?_)
  obtain rfl : y_676 = 12 := ey_676.trans (by decide)
  refine lv_iload_n hx hb dX11_substitute_42 rfl (lv_at hl_675 1 rfl) ?_
  refine lv_iadd hx hb dX11_substitute_43 ?_
  refine lv_topi (fun y_677 ey_677 => ?_)
  obtain rfl : y_677 = 12 := ey_677.trans (by decide)
  refine lv_iload_n hx hb dX11_substitute_44 rfl (lv_at hl_675 4 rfl) ?_
  refine lv_if_eq (tgt := 67) hx hb dX11_substitute_45 (by decide) (fun c_678 => absurd c_678 (by decide)) (fun c_678 => ?_)
  refine lv_aload_n hx hb dX11_substitute_48 rfl (lv_at hl_675 3 rfl) ?_
  refine va_get (D := E.1) (ci := 12) (v := .ref a_backBox) (C := RX11) (T := TX11) (N := 45) hx hb hts in_X11 hown hK hP_664 0 rfl rfl 36 (by decide) w_1 (fun _ h9 => h9) rfl dX11_substitute_49 ?_
  refine lv_aload_n hx hb dX11_substitute_52 rfl (lv_at hl_675 3 rfl) ?_
  refine va_get (D := E.1) (ci := 12) (v := .ref a_state) (C := RX11) (T := TX11) (N := 45) hx hb hts in_X11 hown hK hP_664 0 rfl rfl 39 (by decide) w_2 (fun _ h9 => h9) rfl dX11_substitute_53 ?_
  refine lv_iconst (v := 4) hx hb dX11_substitute_56 (by decide) ?_
  refine lv_iload hx hb dX11_substitute_57 (lv_at hl_675 0 rfl) ?_
  refine lv_imul hx hb dX11_substitute_59 ?_
  refine lv_topi (fun y_679 ey_679 => ?_)
  obtain rfl : y_679 = 12 := ey_679.trans (by decide)
  refine lv_iload_n hx hb dX11_substitute_60 rfl (lv_at hl_675 1 rfl) ?_
  refine lv_iadd hx hb dX11_substitute_61 ?_
  refine lv_topi (fun y_680 ey_680 => ?_)
  obtain rfl : y_680 = 12 := ey_680.trans (by decide)
  refine g_iald (e0 := 12) hx hb hK hP_664 2 0 rfl rfl (by omega) (by omega) dX11_substitute_62 ?_
  refine va_iald hx hb hK hP_664 1 0 rfl rfl (isB_in (hstB _ (by omega))) dX11_substitute_63 ?_
  refine lv_goto (tgt := 83) hx hb dX11_substitute_64 (by decide) ?_
  refine g_iast (e0 := 12) hx hb hK hP_664 hD_664 hS_664 3 0 rfl rfl (by omega) (by omega) dX11_substitute_83 (fun H_681 locs_681 hP_681 hD_681 hS_681 => ?_)
  replace hP_681 : va_P E.1 vwCl [(o, .inr (12, [.int Mthrown, .int (nI rv), .ref a_user, .int (nI Musers), .ref a_owner, .int (nI Mowners), .ref a_tried, .int (nI Mtries), .ref a_id, .int (nI Mids), .ref a_tape, .int (nI Mtaped), .int (nI Mtaken), .int MisPlain, .int Mpermissions, .ref a_entries, .ref a_sizes, .ref a_key, .int MisOpen, .int Mfilter, .int (nI Mcollected), .ref a_bytes, .int Mobject, .int MisBack, .int (nI MoutSize), .ref a_out, .int (nI Msaid), .ref a_message, .ref a_digest, .ref a_words, .ref a_h, .ref a_v, .ref a_fillBytes, .ref a_sines, .ref a_roots, .ref a_box, .ref a_backBox, .ref a_roundKeys, .int (nI Mrounds), .ref a_state, .ref a_other, .ref a_stream, .ref a_work, .ref a_padded, .ref a_ownKey])), (a_backBox, .inl (E.2.1, 256, .inl MbackBox)), (a_state, .inl (E.2.1, 16, .inl Mstate)), (a_other, .inl (E.2.1, 16, .inl (upd (upd (upd (upd (upd (upd (upd (upd (upd (upd (upd (upd (upd Mother 0 (MbackBox (Mstate 0).toNatClampNeg)) 1 (MbackBox (Mstate 13).toNatClampNeg)) 2 (MbackBox (Mstate 10).toNatClampNeg)) 3 (MbackBox (Mstate 7).toNatClampNeg)) 4 (MbackBox (Mstate 4).toNatClampNeg)) 5 (MbackBox (Mstate 1).toNatClampNeg)) 6 (MbackBox (Mstate 14).toNatClampNeg)) 7 (MbackBox (Mstate 11).toNatClampNeg)) 8 (MbackBox (Mstate 8).toNatClampNeg)) 9 (MbackBox (Mstate 5).toNatClampNeg)) 10 (MbackBox (Mstate 2).toNatClampNeg)) 11 (MbackBox (Mstate 15).toNatClampNeg)) 12 (MbackBox (Mstate 12).toNatClampNeg))))] H_681 := hP_681
  replace hD_681 : va_D A [(o, .inr (12, [.int Mthrown, .int (nI rv), .ref a_user, .int (nI Musers), .ref a_owner, .int (nI Mowners), .ref a_tried, .int (nI Mtries), .ref a_id, .int (nI Mids), .ref a_tape, .int (nI Mtaped), .int (nI Mtaken), .int MisPlain, .int Mpermissions, .ref a_entries, .ref a_sizes, .ref a_key, .int MisOpen, .int Mfilter, .int (nI Mcollected), .ref a_bytes, .int Mobject, .int MisBack, .int (nI MoutSize), .ref a_out, .int (nI Msaid), .ref a_message, .ref a_digest, .ref a_words, .ref a_h, .ref a_v, .ref a_fillBytes, .ref a_sines, .ref a_roots, .ref a_box, .ref a_backBox, .ref a_roundKeys, .int (nI Mrounds), .ref a_state, .ref a_other, .ref a_stream, .ref a_work, .ref a_padded, .ref a_ownKey])), (a_backBox, .inl (E.2.1, 256, .inl MbackBox)), (a_state, .inl (E.2.1, 16, .inl Mstate)), (a_other, .inl (E.2.1, 16, .inl (upd (upd (upd (upd (upd (upd (upd (upd (upd (upd (upd (upd (upd Mother 0 (MbackBox (Mstate 0).toNatClampNeg)) 1 (MbackBox (Mstate 13).toNatClampNeg)) 2 (MbackBox (Mstate 10).toNatClampNeg)) 3 (MbackBox (Mstate 7).toNatClampNeg)) 4 (MbackBox (Mstate 4).toNatClampNeg)) 5 (MbackBox (Mstate 1).toNatClampNeg)) 6 (MbackBox (Mstate 14).toNatClampNeg)) 7 (MbackBox (Mstate 11).toNatClampNeg)) 8 (MbackBox (Mstate 8).toNatClampNeg)) 9 (MbackBox (Mstate 5).toNatClampNeg)) 10 (MbackBox (Mstate 2).toNatClampNeg)) 11 (MbackBox (Mstate 15).toNatClampNeg)) 12 (MbackBox (Mstate 12).toNatClampNeg))))] := hD_681
  clear hP_664 hD_664 hS_664
  refine lv_iinc (v := 1) (lv' := [(3, .int 1), (4, .int 3), (2, .int 3), (0, .ref o), (1, .int 1)]) hx hb dX11_substitute_84 hl_675 (k := 1) rfl (by decide) (by decide) rfl (fun ls_682 hl_682 => ?_)
  clear hl_675
  refine lv_goto (tgt := 9) hx hb dX11_substitute_87 (by decide) ?_
  refine lv_iload_n hx hb dX11_substitute_9 rfl (lv_at hl_682 0 rfl) ?_
  refine lv_iconst (v := 4) hx hb dX11_substitute_10 (by decide) ?_
  refine lv_icmp_ge (tgt := 90) hx hb dX11_substitute_11 (by decide) (fun c_683 => absurd c_683 (by decide)) (fun c_683 => ?_)
  refine lv_iload_n hx hb dX11_substitute_14 rfl (lv_at hl_682 4 rfl) ?_
  refine lv_if_eq (tgt := 28) hx hb dX11_substitute_15 (by decide) (fun c_684 => absurd c_684 (by decide)) (fun c_684 => ?_)
  refine lv_iload_n hx hb dX11_substitute_18 rfl (lv_at hl_682 2 rfl) ?_
  refine lv_iconst (v := 4) hx hb dX11_substitute_19 (by decide) ?_
  refine lv_iadd hx hb dX11_substitute_20 ?_
  refine lv_topi (fun y_685 ey_685 => ?_)
  obtain rfl : y_685 = 7 := ey_685.trans (by decide)
  refine lv_iload_n hx hb dX11_substitute_21 rfl (lv_at hl_682 0 rfl) ?_
  refine lv_isub hx hb dX11_substitute_22 ?_
  refine lv_topi (fun y_686 ey_686 => ?_)
  obtain rfl : y_686 = 6 := ey_686.trans (by decide)
  refine lv_iconst (v := 4) hx hb dX11_substitute_23 (by decide) ?_
  refine lv_irem hx hb dX11_substitute_24 (by decide) ?_
  refine lv_topi (fun y_687 ey_687 => ?_)
  obtain rfl : y_687 = 2 := ey_687.trans (by decide)
  refine lv_goto (tgt := 33) hx hb dX11_substitute_25 (by decide) ?_
  refine lv_istore (lv' := [(4, .int 2), (3, .int 1), (2, .int 3), (0, .ref o), (1, .int 1)]) hx hb dX11_substitute_33 hl_682 (by decide) rfl (fun ls_688 hl_688 => ?_)
  clear hl_682
  refine lv_aload_n hx hb dX11_substitute_35 rfl (lv_at hl_688 3 rfl) ?_
  refine va_get (D := E.1) (ci := 12) (v := .ref a_other) (C := RX11) (T := TX11) (N := 45) hx hb hts in_X11 hown hK hP_681 0 rfl rfl 40 (by decide) w_0 (fun _ h9 => h9) rfl dX11_substitute_36 ?_
  refine lv_iconst (v := 4) hx hb dX11_substitute_39 (by decide) ?_
  refine lv_iload_n hx hb dX11_substitute_40 rfl (lv_at hl_688 2 rfl) ?_
  refine lv_imul hx hb dX11_substitute_41 ?_
  refine lv_topi (fun y_689 ey_689 => ?_)
  obtain rfl : y_689 = 12 := ey_689.trans (by decide)
  refine lv_iload_n hx hb dX11_substitute_42 rfl (lv_at hl_688 1 rfl) ?_
  refine lv_iadd hx hb dX11_substitute_43 ?_
  refine lv_topi (fun y_690 ey_690 => ?_)
  obtain rfl : y_690 = 13 := ey_690.trans (by decide)
  refine lv_iload_n hx hb dX11_substitute_44 rfl (lv_at hl_688 4 rfl) ?_
  refine lv_if_eq (tgt := 67) hx hb dX11_substitute_45 (by decide) (fun c_691 => absurd c_691 (by decide)) (fun c_691 => ?_)
  refine lv_aload_n hx hb dX11_substitute_48 rfl (lv_at hl_688 3 rfl) ?_
  refine va_get (D := E.1) (ci := 12) (v := .ref a_backBox) (C := RX11) (T := TX11) (N := 45) hx hb hts in_X11 hown hK hP_681 0 rfl rfl 36 (by decide) w_1 (fun _ h9 => h9) rfl dX11_substitute_49 ?_
  refine lv_aload_n hx hb dX11_substitute_52 rfl (lv_at hl_688 3 rfl) ?_
  refine va_get (D := E.1) (ci := 12) (v := .ref a_state) (C := RX11) (T := TX11) (N := 45) hx hb hts in_X11 hown hK hP_681 0 rfl rfl 39 (by decide) w_2 (fun _ h9 => h9) rfl dX11_substitute_53 ?_
  refine lv_iconst (v := 4) hx hb dX11_substitute_56 (by decide) ?_
  refine lv_iload hx hb dX11_substitute_57 (lv_at hl_688 0 rfl) ?_
  refine lv_imul hx hb dX11_substitute_59 ?_
  refine lv_topi (fun y_692 ey_692 => ?_)
  obtain rfl : y_692 = 8 := ey_692.trans (by decide)
  refine lv_iload_n hx hb dX11_substitute_60 rfl (lv_at hl_688 1 rfl) ?_
  refine lv_iadd hx hb dX11_substitute_61 ?_
  refine lv_topi (fun y_693 ey_693 => ?_)
  obtain rfl : y_693 = 9 := ey_693.trans (by decide)
  refine g_iald (e0 := 9) hx hb hK hP_681 2 0 rfl rfl (by omega) (by omega) dX11_substitute_62 ?_
  refine va_iald hx hb hK hP_681 1 0 rfl rfl (isB_in (hstB _ (by omega))) dX11_substitute_63 ?_
  refine lv_goto (tgt := 83) hx hb dX11_substitute_64 (by decide) ?_
  refine g_iast (e0 := 13) hx hb hK hP_681 hD_681 hS_681 3 0 rfl rfl (by omega) (by omega) dX11_substitute_83 (fun H_694 locs_694 hP_694 hD_694 hS_694 => ?_)
  replace hP_694 : va_P E.1 vwCl [(o, .inr (12, [.int Mthrown, .int (nI rv), .ref a_user, .int (nI Musers), .ref a_owner, .int (nI Mowners), .ref a_tried, .int (nI Mtries), .ref a_id, .int (nI Mids), .ref a_tape, .int (nI Mtaped), .int (nI Mtaken), .int MisPlain, .int Mpermissions, .ref a_entries, .ref a_sizes, .ref a_key, .int MisOpen, .int Mfilter, .int (nI Mcollected), .ref a_bytes, .int Mobject, .int MisBack, .int (nI MoutSize), .ref a_out, .int (nI Msaid), .ref a_message, .ref a_digest, .ref a_words, .ref a_h, .ref a_v, .ref a_fillBytes, .ref a_sines, .ref a_roots, .ref a_box, .ref a_backBox, .ref a_roundKeys, .int (nI Mrounds), .ref a_state, .ref a_other, .ref a_stream, .ref a_work, .ref a_padded, .ref a_ownKey])), (a_backBox, .inl (E.2.1, 256, .inl MbackBox)), (a_state, .inl (E.2.1, 16, .inl Mstate)), (a_other, .inl (E.2.1, 16, .inl (upd (upd (upd (upd (upd (upd (upd (upd (upd (upd (upd (upd (upd (upd Mother 0 (MbackBox (Mstate 0).toNatClampNeg)) 1 (MbackBox (Mstate 13).toNatClampNeg)) 2 (MbackBox (Mstate 10).toNatClampNeg)) 3 (MbackBox (Mstate 7).toNatClampNeg)) 4 (MbackBox (Mstate 4).toNatClampNeg)) 5 (MbackBox (Mstate 1).toNatClampNeg)) 6 (MbackBox (Mstate 14).toNatClampNeg)) 7 (MbackBox (Mstate 11).toNatClampNeg)) 8 (MbackBox (Mstate 8).toNatClampNeg)) 9 (MbackBox (Mstate 5).toNatClampNeg)) 10 (MbackBox (Mstate 2).toNatClampNeg)) 11 (MbackBox (Mstate 15).toNatClampNeg)) 12 (MbackBox (Mstate 12).toNatClampNeg)) 13 (MbackBox (Mstate 9).toNatClampNeg))))] H_694 := hP_694
  replace hD_694 : va_D A [(o, .inr (12, [.int Mthrown, .int (nI rv), .ref a_user, .int (nI Musers), .ref a_owner, .int (nI Mowners), .ref a_tried, .int (nI Mtries), .ref a_id, .int (nI Mids), .ref a_tape, .int (nI Mtaped), .int (nI Mtaken), .int MisPlain, .int Mpermissions, .ref a_entries, .ref a_sizes, .ref a_key, .int MisOpen, .int Mfilter, .int (nI Mcollected), .ref a_bytes, .int Mobject, .int MisBack, .int (nI MoutSize), .ref a_out, .int (nI Msaid), .ref a_message, .ref a_digest, .ref a_words, .ref a_h, .ref a_v, .ref a_fillBytes, .ref a_sines, .ref a_roots, .ref a_box, .ref a_backBox, .ref a_roundKeys, .int (nI Mrounds), .ref a_state, .ref a_other, .ref a_stream, .ref a_work, .ref a_padded, .ref a_ownKey])), (a_backBox, .inl (E.2.1, 256, .inl MbackBox)), (a_state, .inl (E.2.1, 16, .inl Mstate)), (a_other, .inl (E.2.1, 16, .inl (upd (upd (upd (upd (upd (upd (upd (upd (upd (upd (upd (upd (upd (upd Mother 0 (MbackBox (Mstate 0).toNatClampNeg)) 1 (MbackBox (Mstate 13).toNatClampNeg)) 2 (MbackBox (Mstate 10).toNatClampNeg)) 3 (MbackBox (Mstate 7).toNatClampNeg)) 4 (MbackBox (Mstate 4).toNatClampNeg)) 5 (MbackBox (Mstate 1).toNatClampNeg)) 6 (MbackBox (Mstate 14).toNatClampNeg)) 7 (MbackBox (Mstate 11).toNatClampNeg)) 8 (MbackBox (Mstate 8).toNatClampNeg)) 9 (MbackBox (Mstate 5).toNatClampNeg)) 10 (MbackBox (Mstate 2).toNatClampNeg)) 11 (MbackBox (Mstate 15).toNatClampNeg)) 12 (MbackBox (Mstate 12).toNatClampNeg)) 13 (MbackBox (Mstate 9).toNatClampNeg))))] := hD_694
  clear hP_681 hD_681 hS_681
  refine lv_iinc (v := 2) (lv' := [(3, .int 2), (4, .int 2), (2, .int 3), (0, .ref o), (1, .int 1)]) hx hb dX11_substitute_84 hl_688 (k := 1) rfl (by decide) (by decide) rfl (fun ls_695 hl_695 => ?_)
  clear hl_688
  refine lv_goto (tgt := 9) hx hb dX11_substitute_87 (by decide) ?_
  refine lv_iload_n hx hb dX11_substitute_9 rfl (lv_at hl_695 0 rfl) ?_
  refine lv_iconst (v := 4) hx hb dX11_substitute_10 (by decide) ?_
  refine lv_icmp_ge (tgt := 90) hx hb dX11_substitute_11 (by decide) (fun c_696 => absurd c_696 (by decide)) (fun c_696 => ?_)
  refine lv_iload_n hx hb dX11_substitute_14 rfl (lv_at hl_695 4 rfl) ?_
  refine lv_if_eq (tgt := 28) hx hb dX11_substitute_15 (by decide) (fun c_697 => absurd c_697 (by decide)) (fun c_697 => ?_)
  refine lv_iload_n hx hb dX11_substitute_18 rfl (lv_at hl_695 2 rfl) ?_
  refine lv_iconst (v := 4) hx hb dX11_substitute_19 (by decide) ?_
  refine lv_iadd hx hb dX11_substitute_20 ?_
  refine lv_topi (fun y_698 ey_698 => ?_)
  obtain rfl : y_698 = 7 := ey_698.trans (by decide)
  refine lv_iload_n hx hb dX11_substitute_21 rfl (lv_at hl_695 0 rfl) ?_
  refine lv_isub hx hb dX11_substitute_22 ?_
  refine lv_topi (fun y_699 ey_699 => ?_)
  obtain rfl : y_699 = 5 := ey_699.trans (by decide)
  refine lv_iconst (v := 4) hx hb dX11_substitute_23 (by decide) ?_
  refine lv_irem hx hb dX11_substitute_24 (by decide) ?_
  refine lv_topi (fun y_700 ey_700 => ?_)
  obtain rfl : y_700 = 1 := ey_700.trans (by decide)
  refine lv_goto (tgt := 33) hx hb dX11_substitute_25 (by decide) ?_
  refine lv_istore (lv' := [(4, .int 1), (3, .int 2), (2, .int 3), (0, .ref o), (1, .int 1)]) hx hb dX11_substitute_33 hl_695 (by decide) rfl (fun ls_701 hl_701 => ?_)
  clear hl_695
  refine lv_aload_n hx hb dX11_substitute_35 rfl (lv_at hl_701 3 rfl) ?_
  refine va_get (D := E.1) (ci := 12) (v := .ref a_other) (C := RX11) (T := TX11) (N := 45) hx hb hts in_X11 hown hK hP_694 0 rfl rfl 40 (by decide) w_0 (fun _ h9 => h9) rfl dX11_substitute_36 ?_
  refine lv_iconst (v := 4) hx hb dX11_substitute_39 (by decide) ?_
  refine lv_iload_n hx hb dX11_substitute_40 rfl (lv_at hl_701 2 rfl) ?_
  refine lv_imul hx hb dX11_substitute_41 ?_
  refine lv_topi (fun y_702 ey_702 => ?_)
  obtain rfl : y_702 = 12 := ey_702.trans (by decide)
  refine lv_iload_n hx hb dX11_substitute_42 rfl (lv_at hl_701 1 rfl) ?_
  refine lv_iadd hx hb dX11_substitute_43 ?_
  refine lv_topi (fun y_703 ey_703 => ?_)
  obtain rfl : y_703 = 14 := ey_703.trans (by decide)
  refine lv_iload_n hx hb dX11_substitute_44 rfl (lv_at hl_701 4 rfl) ?_
  refine lv_if_eq (tgt := 67) hx hb dX11_substitute_45 (by decide) (fun c_704 => absurd c_704 (by decide)) (fun c_704 => ?_)
  refine lv_aload_n hx hb dX11_substitute_48 rfl (lv_at hl_701 3 rfl) ?_
  refine va_get (D := E.1) (ci := 12) (v := .ref a_backBox) (C := RX11) (T := TX11) (N := 45) hx hb hts in_X11 hown hK hP_694 0 rfl rfl 36 (by decide) w_1 (fun _ h9 => h9) rfl dX11_substitute_49 ?_
  refine lv_aload_n hx hb dX11_substitute_52 rfl (lv_at hl_701 3 rfl) ?_
  refine va_get (D := E.1) (ci := 12) (v := .ref a_state) (C := RX11) (T := TX11) (N := 45) hx hb hts in_X11 hown hK hP_694 0 rfl rfl 39 (by decide) w_2 (fun _ h9 => h9) rfl dX11_substitute_53 ?_
  refine lv_iconst (v := 4) hx hb dX11_substitute_56 (by decide) ?_
  refine lv_iload hx hb dX11_substitute_57 (lv_at hl_701 0 rfl) ?_
  refine lv_imul hx hb dX11_substitute_59 ?_
  refine lv_topi (fun y_705 ey_705 => ?_)
  obtain rfl : y_705 = 4 := ey_705.trans (by decide)
  refine lv_iload_n hx hb dX11_substitute_60 rfl (lv_at hl_701 1 rfl) ?_
  refine lv_iadd hx hb dX11_substitute_61 ?_
  refine lv_topi (fun y_706 ey_706 => ?_)
  obtain rfl : y_706 = 6 := ey_706.trans (by decide)
  refine g_iald (e0 := 6) hx hb hK hP_694 2 0 rfl rfl (by omega) (by omega) dX11_substitute_62 ?_
  refine va_iald hx hb hK hP_694 1 0 rfl rfl (isB_in (hstB _ (by omega))) dX11_substitute_63 ?_
  refine lv_goto (tgt := 83) hx hb dX11_substitute_64 (by decide) ?_
  refine g_iast (e0 := 14) hx hb hK hP_694 hD_694 hS_694 3 0 rfl rfl (by omega) (by omega) dX11_substitute_83 (fun H_707 locs_707 hP_707 hD_707 hS_707 => ?_)
  replace hP_707 : va_P E.1 vwCl [(o, .inr (12, [.int Mthrown, .int (nI rv), .ref a_user, .int (nI Musers), .ref a_owner, .int (nI Mowners), .ref a_tried, .int (nI Mtries), .ref a_id, .int (nI Mids), .ref a_tape, .int (nI Mtaped), .int (nI Mtaken), .int MisPlain, .int Mpermissions, .ref a_entries, .ref a_sizes, .ref a_key, .int MisOpen, .int Mfilter, .int (nI Mcollected), .ref a_bytes, .int Mobject, .int MisBack, .int (nI MoutSize), .ref a_out, .int (nI Msaid), .ref a_message, .ref a_digest, .ref a_words, .ref a_h, .ref a_v, .ref a_fillBytes, .ref a_sines, .ref a_roots, .ref a_box, .ref a_backBox, .ref a_roundKeys, .int (nI Mrounds), .ref a_state, .ref a_other, .ref a_stream, .ref a_work, .ref a_padded, .ref a_ownKey])), (a_backBox, .inl (E.2.1, 256, .inl MbackBox)), (a_state, .inl (E.2.1, 16, .inl Mstate)), (a_other, .inl (E.2.1, 16, .inl (upd (upd (upd (upd (upd (upd (upd (upd (upd (upd (upd (upd (upd (upd (upd Mother 0 (MbackBox (Mstate 0).toNatClampNeg)) 1 (MbackBox (Mstate 13).toNatClampNeg)) 2 (MbackBox (Mstate 10).toNatClampNeg)) 3 (MbackBox (Mstate 7).toNatClampNeg)) 4 (MbackBox (Mstate 4).toNatClampNeg)) 5 (MbackBox (Mstate 1).toNatClampNeg)) 6 (MbackBox (Mstate 14).toNatClampNeg)) 7 (MbackBox (Mstate 11).toNatClampNeg)) 8 (MbackBox (Mstate 8).toNatClampNeg)) 9 (MbackBox (Mstate 5).toNatClampNeg)) 10 (MbackBox (Mstate 2).toNatClampNeg)) 11 (MbackBox (Mstate 15).toNatClampNeg)) 12 (MbackBox (Mstate 12).toNatClampNeg)) 13 (MbackBox (Mstate 9).toNatClampNeg)) 14 (MbackBox (Mstate 6).toNatClampNeg))))] H_707 := hP_707
  replace hD_707 : va_D A [(o, .inr (12, [.int Mthrown, .int (nI rv), .ref a_user, .int (nI Musers), .ref a_owner, .int (nI Mowners), .ref a_tried, .int (nI Mtries), .ref a_id, .int (nI Mids), .ref a_tape, .int (nI Mtaped), .int (nI Mtaken), .int MisPlain, .int Mpermissions, .ref a_entries, .ref a_sizes, .ref a_key, .int MisOpen, .int Mfilter, .int (nI Mcollected), .ref a_bytes, .int Mobject, .int MisBack, .int (nI MoutSize), .ref a_out, .int (nI Msaid), .ref a_message, .ref a_digest, .ref a_words, .ref a_h, .ref a_v, .ref a_fillBytes, .ref a_sines, .ref a_roots, .ref a_box, .ref a_backBox, .ref a_roundKeys, .int (nI Mrounds), .ref a_state, .ref a_other, .ref a_stream, .ref a_work, .ref a_padded, .ref a_ownKey])), (a_backBox, .inl (E.2.1, 256, .inl MbackBox)), (a_state, .inl (E.2.1, 16, .inl Mstate)), (a_other, .inl (E.2.1, 16, .inl (upd (upd (upd (upd (upd (upd (upd (upd (upd (upd (upd (upd (upd (upd (upd Mother 0 (MbackBox (Mstate 0).toNatClampNeg)) 1 (MbackBox (Mstate 13).toNatClampNeg)) 2 (MbackBox (Mstate 10).toNatClampNeg)) 3 (MbackBox (Mstate 7).toNatClampNeg)) 4 (MbackBox (Mstate 4).toNatClampNeg)) 5 (MbackBox (Mstate 1).toNatClampNeg)) 6 (MbackBox (Mstate 14).toNatClampNeg)) 7 (MbackBox (Mstate 11).toNatClampNeg)) 8 (MbackBox (Mstate 8).toNatClampNeg)) 9 (MbackBox (Mstate 5).toNatClampNeg)) 10 (MbackBox (Mstate 2).toNatClampNeg)) 11 (MbackBox (Mstate 15).toNatClampNeg)) 12 (MbackBox (Mstate 12).toNatClampNeg)) 13 (MbackBox (Mstate 9).toNatClampNeg)) 14 (MbackBox (Mstate 6).toNatClampNeg))))] := hD_707
  clear hP_694 hD_694 hS_694
  refine lv_iinc (v := 3) (lv' := [(3, .int 3), (4, .int 1), (2, .int 3), (0, .ref o), (1, .int 1)]) hx hb dX11_substitute_84 hl_701 (k := 1) rfl (by decide) (by decide) rfl (fun ls_708 hl_708 => ?_)
  clear hl_701
  refine lv_goto (tgt := 9) hx hb dX11_substitute_87 (by decide) ?_
  refine lv_iload_n hx hb dX11_substitute_9 rfl (lv_at hl_708 0 rfl) ?_
  refine lv_iconst (v := 4) hx hb dX11_substitute_10 (by decide) ?_
  refine lv_icmp_ge (tgt := 90) hx hb dX11_substitute_11 (by decide) (fun c_709 => absurd c_709 (by decide)) (fun c_709 => ?_)
  refine lv_iload_n hx hb dX11_substitute_14 rfl (lv_at hl_708 4 rfl) ?_
  refine lv_if_eq (tgt := 28) hx hb dX11_substitute_15 (by decide) (fun c_710 => absurd c_710 (by decide)) (fun c_710 => ?_)
  refine lv_iload_n hx hb dX11_substitute_18 rfl (lv_at hl_708 2 rfl) ?_
  refine lv_iconst (v := 4) hx hb dX11_substitute_19 (by decide) ?_
  refine lv_iadd hx hb dX11_substitute_20 ?_
  refine lv_topi (fun y_711 ey_711 => ?_)
  obtain rfl : y_711 = 7 := ey_711.trans (by decide)
  refine lv_iload_n hx hb dX11_substitute_21 rfl (lv_at hl_708 0 rfl) ?_
  refine lv_isub hx hb dX11_substitute_22 ?_
  refine lv_topi (fun y_712 ey_712 => ?_)
  obtain rfl : y_712 = 4 := ey_712.trans (by decide)
  refine lv_iconst (v := 4) hx hb dX11_substitute_23 (by decide) ?_
  refine lv_irem hx hb dX11_substitute_24 (by decide) ?_
  refine lv_topi (fun y_713 ey_713 => ?_)
  obtain rfl : y_713 = 0 := ey_713.trans (by decide)
  refine lv_goto (tgt := 33) hx hb dX11_substitute_25 (by decide) ?_
  refine lv_istore (lv' := [(4, .int 0), (3, .int 3), (2, .int 3), (0, .ref o), (1, .int 1)]) hx hb dX11_substitute_33 hl_708 (by decide) rfl (fun ls_714 hl_714 => ?_)
  clear hl_708
  refine lv_aload_n hx hb dX11_substitute_35 rfl (lv_at hl_714 3 rfl) ?_
  refine va_get (D := E.1) (ci := 12) (v := .ref a_other) (C := RX11) (T := TX11) (N := 45) hx hb hts in_X11 hown hK hP_707 0 rfl rfl 40 (by decide) w_0 (fun _ h9 => h9) rfl dX11_substitute_36 ?_
  refine lv_iconst (v := 4) hx hb dX11_substitute_39 (by decide) ?_
  refine lv_iload_n hx hb dX11_substitute_40 rfl (lv_at hl_714 2 rfl) ?_
  refine lv_imul hx hb dX11_substitute_41 ?_
  refine lv_topi (fun y_715 ey_715 => ?_)
  obtain rfl : y_715 = 12 := ey_715.trans (by decide)
  refine lv_iload_n hx hb dX11_substitute_42 rfl (lv_at hl_714 1 rfl) ?_
  refine lv_iadd hx hb dX11_substitute_43 ?_
  refine lv_topi (fun y_716 ey_716 => ?_)
  obtain rfl : y_716 = 15 := ey_716.trans (by decide)
  refine lv_iload_n hx hb dX11_substitute_44 rfl (lv_at hl_714 4 rfl) ?_
  refine lv_if_eq (tgt := 67) hx hb dX11_substitute_45 (by decide) (fun c_717 => absurd c_717 (by decide)) (fun c_717 => ?_)
  refine lv_aload_n hx hb dX11_substitute_48 rfl (lv_at hl_714 3 rfl) ?_
  refine va_get (D := E.1) (ci := 12) (v := .ref a_backBox) (C := RX11) (T := TX11) (N := 45) hx hb hts in_X11 hown hK hP_707 0 rfl rfl 36 (by decide) w_1 (fun _ h9 => h9) rfl dX11_substitute_49 ?_
  refine lv_aload_n hx hb dX11_substitute_52 rfl (lv_at hl_714 3 rfl) ?_
  refine va_get (D := E.1) (ci := 12) (v := .ref a_state) (C := RX11) (T := TX11) (N := 45) hx hb hts in_X11 hown hK hP_707 0 rfl rfl 39 (by decide) w_2 (fun _ h9 => h9) rfl dX11_substitute_53 ?_
  refine lv_iconst (v := 4) hx hb dX11_substitute_56 (by decide) ?_
  refine lv_iload hx hb dX11_substitute_57 (lv_at hl_714 0 rfl) ?_
  refine lv_imul hx hb dX11_substitute_59 ?_
  refine lv_topi (fun y_718 ey_718 => ?_)
  obtain rfl : y_718 = 0 := ey_718.trans (by decide)
  refine lv_iload_n hx hb dX11_substitute_60 rfl (lv_at hl_714 1 rfl) ?_
  refine lv_iadd hx hb dX11_substitute_61 ?_
  refine lv_topi (fun y_719 ey_719 => ?_)
  obtain rfl : y_719 = 3 := ey_719.trans (by decide)
  refine g_iald (e0 := 3) hx hb hK hP_707 2 0 rfl rfl (by omega) (by omega) dX11_substitute_62 ?_
  refine va_iald hx hb hK hP_707 1 0 rfl rfl (isB_in (hstB _ (by omega))) dX11_substitute_63 ?_
  refine lv_goto (tgt := 83) hx hb dX11_substitute_64 (by decide) ?_
  refine g_iast (e0 := 15) hx hb hK hP_707 hD_707 hS_707 3 0 rfl rfl (by omega) (by omega) dX11_substitute_83 (fun H_720 locs_720 hP_720 hD_720 hS_720 => ?_)
  replace hP_720 : va_P E.1 vwCl [(o, .inr (12, [.int Mthrown, .int (nI rv), .ref a_user, .int (nI Musers), .ref a_owner, .int (nI Mowners), .ref a_tried, .int (nI Mtries), .ref a_id, .int (nI Mids), .ref a_tape, .int (nI Mtaped), .int (nI Mtaken), .int MisPlain, .int Mpermissions, .ref a_entries, .ref a_sizes, .ref a_key, .int MisOpen, .int Mfilter, .int (nI Mcollected), .ref a_bytes, .int Mobject, .int MisBack, .int (nI MoutSize), .ref a_out, .int (nI Msaid), .ref a_message, .ref a_digest, .ref a_words, .ref a_h, .ref a_v, .ref a_fillBytes, .ref a_sines, .ref a_roots, .ref a_box, .ref a_backBox, .ref a_roundKeys, .int (nI Mrounds), .ref a_state, .ref a_other, .ref a_stream, .ref a_work, .ref a_padded, .ref a_ownKey])), (a_backBox, .inl (E.2.1, 256, .inl MbackBox)), (a_state, .inl (E.2.1, 16, .inl Mstate)), (a_other, .inl (E.2.1, 16, .inl (upd (upd (upd (upd (upd (upd (upd (upd (upd (upd (upd (upd (upd (upd (upd (upd Mother 0 (MbackBox (Mstate 0).toNatClampNeg)) 1 (MbackBox (Mstate 13).toNatClampNeg)) 2 (MbackBox (Mstate 10).toNatClampNeg)) 3 (MbackBox (Mstate 7).toNatClampNeg)) 4 (MbackBox (Mstate 4).toNatClampNeg)) 5 (MbackBox (Mstate 1).toNatClampNeg)) 6 (MbackBox (Mstate 14).toNatClampNeg)) 7 (MbackBox (Mstate 11).toNatClampNeg)) 8 (MbackBox (Mstate 8).toNatClampNeg)) 9 (MbackBox (Mstate 5).toNatClampNeg)) 10 (MbackBox (Mstate 2).toNatClampNeg)) 11 (MbackBox (Mstate 15).toNatClampNeg)) 12 (MbackBox (Mstate 12).toNatClampNeg)) 13 (MbackBox (Mstate 9).toNatClampNeg)) 14 (MbackBox (Mstate 6).toNatClampNeg)) 15 (MbackBox (Mstate 3).toNatClampNeg))))] H_720 := hP_720
  replace hD_720 : va_D A [(o, .inr (12, [.int Mthrown, .int (nI rv), .ref a_user, .int (nI Musers), .ref a_owner, .int (nI Mowners), .ref a_tried, .int (nI Mtries), .ref a_id, .int (nI Mids), .ref a_tape, .int (nI Mtaped), .int (nI Mtaken), .int MisPlain, .int Mpermissions, .ref a_entries, .ref a_sizes, .ref a_key, .int MisOpen, .int Mfilter, .int (nI Mcollected), .ref a_bytes, .int Mobject, .int MisBack, .int (nI MoutSize), .ref a_out, .int (nI Msaid), .ref a_message, .ref a_digest, .ref a_words, .ref a_h, .ref a_v, .ref a_fillBytes, .ref a_sines, .ref a_roots, .ref a_box, .ref a_backBox, .ref a_roundKeys, .int (nI Mrounds), .ref a_state, .ref a_other, .ref a_stream, .ref a_work, .ref a_padded, .ref a_ownKey])), (a_backBox, .inl (E.2.1, 256, .inl MbackBox)), (a_state, .inl (E.2.1, 16, .inl Mstate)), (a_other, .inl (E.2.1, 16, .inl (upd (upd (upd (upd (upd (upd (upd (upd (upd (upd (upd (upd (upd (upd (upd (upd Mother 0 (MbackBox (Mstate 0).toNatClampNeg)) 1 (MbackBox (Mstate 13).toNatClampNeg)) 2 (MbackBox (Mstate 10).toNatClampNeg)) 3 (MbackBox (Mstate 7).toNatClampNeg)) 4 (MbackBox (Mstate 4).toNatClampNeg)) 5 (MbackBox (Mstate 1).toNatClampNeg)) 6 (MbackBox (Mstate 14).toNatClampNeg)) 7 (MbackBox (Mstate 11).toNatClampNeg)) 8 (MbackBox (Mstate 8).toNatClampNeg)) 9 (MbackBox (Mstate 5).toNatClampNeg)) 10 (MbackBox (Mstate 2).toNatClampNeg)) 11 (MbackBox (Mstate 15).toNatClampNeg)) 12 (MbackBox (Mstate 12).toNatClampNeg)) 13 (MbackBox (Mstate 9).toNatClampNeg)) 14 (MbackBox (Mstate 6).toNatClampNeg)) 15 (MbackBox (Mstate 3).toNatClampNeg))))] := hD_720
  clear hP_707 hD_707 hS_707
  refine lv_iinc (v := 4) (lv' := [(3, .int 4), (4, .int 0), (2, .int 3), (0, .ref o), (1, .int 1)]) hx hb dX11_substitute_84 hl_714 (k := 1) rfl (by decide) (by decide) rfl (fun ls_721 hl_721 => ?_)
  clear hl_714
  refine lv_goto (tgt := 9) hx hb dX11_substitute_87 (by decide) ?_
  refine lv_iload_n hx hb dX11_substitute_9 rfl (lv_at hl_721 0 rfl) ?_
  refine lv_iconst (v := 4) hx hb dX11_substitute_10 (by decide) ?_
  refine lv_icmp_ge (tgt := 90) hx hb dX11_substitute_11 (by decide) (fun c_722 => ?_) (fun c_722 => absurd (by decide) c_722)
  refine lv_iinc (v := 4) (lv' := [(2, .int 4), (3, .int 4), (4, .int 0), (0, .ref o), (1, .int 1)]) hx hb dX11_substitute_90 hl_721 (k := 2) rfl (by decide) (by decide) rfl (fun ls_723 hl_723 => ?_)
  clear hl_721
  refine lv_goto (tgt := 2) hx hb dX11_substitute_93 (by decide) ?_
  refine lv_iload_n hx hb dX11_substitute_2 rfl (lv_at hl_723 0 rfl) ?_
  refine lv_iconst (v := 4) hx hb dX11_substitute_3 (by decide) ?_
  refine lv_icmp_ge (tgt := 96) hx hb dX11_substitute_4 (by decide) (fun c_724 => ?_) (fun c_724 => absurd (by decide) c_724)
  refine lv_iconst (v := 0) hx hb dX11_substitute_96 (by decide) ?_
  refine lv_istore_n (lv' := [(2, .int 0), (3, .int 4), (4, .int 0), (0, .ref o), (1, .int 1)]) hx hb dX11_substitute_97 rfl hl_723 (by decide) rfl (fun ls_725 hl_725 => ?_)
  clear hl_723
  refine g_up (N := 16) (B_X11_substitute_1_98 Mother MbackBox Mstate) (Mstate : Nat → Int32) (Inv := fun i_0 z_741 H_0 locs_0 ls_0 => lv_has ls_0 5 [(2, .int (nI i_0)), (3, .int 4), (4, .int 0), (0, .ref o), (1, .int 1)] ∧ va_P E.1 vwCl [(o, .inr (12, [.int Mthrown, .int (nI rv), .ref a_user, .int (nI Musers), .ref a_owner, .int (nI Mowners), .ref a_tried, .int (nI Mtries), .ref a_id, .int (nI Mids), .ref a_tape, .int (nI Mtaped), .int (nI Mtaken), .int MisPlain, .int Mpermissions, .ref a_entries, .ref a_sizes, .ref a_key, .int MisOpen, .int Mfilter, .int (nI Mcollected), .ref a_bytes, .int Mobject, .int MisBack, .int (nI MoutSize), .ref a_out, .int (nI Msaid), .ref a_message, .ref a_digest, .ref a_words, .ref a_h, .ref a_v, .ref a_fillBytes, .ref a_sines, .ref a_roots, .ref a_box, .ref a_backBox, .ref a_roundKeys, .int (nI Mrounds), .ref a_state, .ref a_other, .ref a_stream, .ref a_work, .ref a_padded, .ref a_ownKey])), (a_backBox, .inl (E.2.1, 256, .inl MbackBox)), (a_state, .inl (E.2.1, 16, .inl z_741)), (a_other, .inl (E.2.1, 16, .inl (upd (upd (upd (upd (upd (upd (upd (upd (upd (upd (upd (upd (upd (upd (upd (upd Mother 0 (MbackBox (Mstate 0).toNatClampNeg)) 1 (MbackBox (Mstate 13).toNatClampNeg)) 2 (MbackBox (Mstate 10).toNatClampNeg)) 3 (MbackBox (Mstate 7).toNatClampNeg)) 4 (MbackBox (Mstate 4).toNatClampNeg)) 5 (MbackBox (Mstate 1).toNatClampNeg)) 6 (MbackBox (Mstate 14).toNatClampNeg)) 7 (MbackBox (Mstate 11).toNatClampNeg)) 8 (MbackBox (Mstate 8).toNatClampNeg)) 9 (MbackBox (Mstate 5).toNatClampNeg)) 10 (MbackBox (Mstate 2).toNatClampNeg)) 11 (MbackBox (Mstate 15).toNatClampNeg)) 12 (MbackBox (Mstate 12).toNatClampNeg)) 13 (MbackBox (Mstate 9).toNatClampNeg)) 14 (MbackBox (Mstate 6).toNatClampNeg)) 15 (MbackBox (Mstate 3).toNatClampNeg))))] H_0 ∧ va_D A [(o, .inr (12, [.int Mthrown, .int (nI rv), .ref a_user, .int (nI Musers), .ref a_owner, .int (nI Mowners), .ref a_tried, .int (nI Mtries), .ref a_id, .int (nI Mids), .ref a_tape, .int (nI Mtaped), .int (nI Mtaken), .int MisPlain, .int Mpermissions, .ref a_entries, .ref a_sizes, .ref a_key, .int MisOpen, .int Mfilter, .int (nI Mcollected), .ref a_bytes, .int Mobject, .int MisBack, .int (nI MoutSize), .ref a_out, .int (nI Msaid), .ref a_message, .ref a_digest, .ref a_words, .ref a_h, .ref a_v, .ref a_fillBytes, .ref a_sines, .ref a_roots, .ref a_box, .ref a_backBox, .ref a_roundKeys, .int (nI Mrounds), .ref a_state, .ref a_other, .ref a_stream, .ref a_work, .ref a_padded, .ref a_ownKey])), (a_backBox, .inl (E.2.1, 256, .inl MbackBox)), (a_state, .inl (E.2.1, 16, .inl z_741)), (a_other, .inl (E.2.1, 16, .inl (upd (upd (upd (upd (upd (upd (upd (upd (upd (upd (upd (upd (upd (upd (upd (upd Mother 0 (MbackBox (Mstate 0).toNatClampNeg)) 1 (MbackBox (Mstate 13).toNatClampNeg)) 2 (MbackBox (Mstate 10).toNatClampNeg)) 3 (MbackBox (Mstate 7).toNatClampNeg)) 4 (MbackBox (Mstate 4).toNatClampNeg)) 5 (MbackBox (Mstate 1).toNatClampNeg)) 6 (MbackBox (Mstate 14).toNatClampNeg)) 7 (MbackBox (Mstate 11).toNatClampNeg)) 8 (MbackBox (Mstate 8).toNatClampNeg)) 9 (MbackBox (Mstate 5).toNatClampNeg)) 10 (MbackBox (Mstate 2).toNatClampNeg)) 11 (MbackBox (Mstate 15).toNatClampNeg)) 12 (MbackBox (Mstate 12).toNatClampNeg)) 13 (MbackBox (Mstate 9).toNatClampNeg)) 14 (MbackBox (Mstate 6).toNatClampNeg)) 15 (MbackBox (Mstate 3).toNatClampNeg))))] ∧ va_S A s.heap H_0 locs_0) (G := fun H_0 locs_0 ls_0 => W _ _ _ _ _ _ _ _ _ _ H_0 locs_0 _ _ _ (F0 _ 98 ls_0 [])) ?_ ?_ ⟨lv_sub hl_725 [0, 1, 2, 3, 4] rfl, hP_720, hD_720, hS_720⟩
  · intro j_742 i_742 z_742 H_742 locs_742 ls_742 hij_742 hz_742 hI_742 ih_742
    obtain ⟨hl_742, hP_742, hD_742, hS_742⟩ := hI_742
    replace hl_742 : lv_has ls_742 5 [(2, .int (nI i_742)), (3, .int 4), (4, .int 0), (0, .ref o), (1, .int 1)] := hl_742
    replace hP_742 : va_P E.1 vwCl [(o, .inr (12, [.int Mthrown, .int (nI rv), .ref a_user, .int (nI Musers), .ref a_owner, .int (nI Mowners), .ref a_tried, .int (nI Mtries), .ref a_id, .int (nI Mids), .ref a_tape, .int (nI Mtaped), .int (nI Mtaken), .int MisPlain, .int Mpermissions, .ref a_entries, .ref a_sizes, .ref a_key, .int MisOpen, .int Mfilter, .int (nI Mcollected), .ref a_bytes, .int Mobject, .int MisBack, .int (nI MoutSize), .ref a_out, .int (nI Msaid), .ref a_message, .ref a_digest, .ref a_words, .ref a_h, .ref a_v, .ref a_fillBytes, .ref a_sines, .ref a_roots, .ref a_box, .ref a_backBox, .ref a_roundKeys, .int (nI Mrounds), .ref a_state, .ref a_other, .ref a_stream, .ref a_work, .ref a_padded, .ref a_ownKey])), (a_backBox, .inl (E.2.1, 256, .inl MbackBox)), (a_state, .inl (E.2.1, 16, .inl z_742)), (a_other, .inl (E.2.1, 16, .inl (upd (upd (upd (upd (upd (upd (upd (upd (upd (upd (upd (upd (upd (upd (upd (upd Mother 0 (MbackBox (Mstate 0).toNatClampNeg)) 1 (MbackBox (Mstate 13).toNatClampNeg)) 2 (MbackBox (Mstate 10).toNatClampNeg)) 3 (MbackBox (Mstate 7).toNatClampNeg)) 4 (MbackBox (Mstate 4).toNatClampNeg)) 5 (MbackBox (Mstate 1).toNatClampNeg)) 6 (MbackBox (Mstate 14).toNatClampNeg)) 7 (MbackBox (Mstate 11).toNatClampNeg)) 8 (MbackBox (Mstate 8).toNatClampNeg)) 9 (MbackBox (Mstate 5).toNatClampNeg)) 10 (MbackBox (Mstate 2).toNatClampNeg)) 11 (MbackBox (Mstate 15).toNatClampNeg)) 12 (MbackBox (Mstate 12).toNatClampNeg)) 13 (MbackBox (Mstate 9).toNatClampNeg)) 14 (MbackBox (Mstate 6).toNatClampNeg)) 15 (MbackBox (Mstate 3).toNatClampNeg))))] H_742 := hP_742
    replace hD_742 : va_D A [(o, .inr (12, [.int Mthrown, .int (nI rv), .ref a_user, .int (nI Musers), .ref a_owner, .int (nI Mowners), .ref a_tried, .int (nI Mtries), .ref a_id, .int (nI Mids), .ref a_tape, .int (nI Mtaped), .int (nI Mtaken), .int MisPlain, .int Mpermissions, .ref a_entries, .ref a_sizes, .ref a_key, .int MisOpen, .int Mfilter, .int (nI Mcollected), .ref a_bytes, .int Mobject, .int MisBack, .int (nI MoutSize), .ref a_out, .int (nI Msaid), .ref a_message, .ref a_digest, .ref a_words, .ref a_h, .ref a_v, .ref a_fillBytes, .ref a_sines, .ref a_roots, .ref a_box, .ref a_backBox, .ref a_roundKeys, .int (nI Mrounds), .ref a_state, .ref a_other, .ref a_stream, .ref a_work, .ref a_padded, .ref a_ownKey])), (a_backBox, .inl (E.2.1, 256, .inl MbackBox)), (a_state, .inl (E.2.1, 16, .inl z_742)), (a_other, .inl (E.2.1, 16, .inl (upd (upd (upd (upd (upd (upd (upd (upd (upd (upd (upd (upd (upd (upd (upd (upd Mother 0 (MbackBox (Mstate 0).toNatClampNeg)) 1 (MbackBox (Mstate 13).toNatClampNeg)) 2 (MbackBox (Mstate 10).toNatClampNeg)) 3 (MbackBox (Mstate 7).toNatClampNeg)) 4 (MbackBox (Mstate 4).toNatClampNeg)) 5 (MbackBox (Mstate 1).toNatClampNeg)) 6 (MbackBox (Mstate 14).toNatClampNeg)) 7 (MbackBox (Mstate 11).toNatClampNeg)) 8 (MbackBox (Mstate 8).toNatClampNeg)) 9 (MbackBox (Mstate 5).toNatClampNeg)) 10 (MbackBox (Mstate 2).toNatClampNeg)) 11 (MbackBox (Mstate 15).toNatClampNeg)) 12 (MbackBox (Mstate 12).toNatClampNeg)) 13 (MbackBox (Mstate 9).toNatClampNeg)) 14 (MbackBox (Mstate 6).toNatClampNeg)) 15 (MbackBox (Mstate 3).toNatClampNeg))))] := hD_742
    clear hl_725 hP_720 hD_720 hS_720
    refine lv_iload_n hx hb dX11_substitute_98 rfl (lv_at hl_742 0 rfl) ?_
    refine lv_bipush (v := 16) hx hb dX11_substitute_99 (by decide) ?_
    refine lv_icmp_ge (tgt := 122) hx hb dX11_substitute_101 (by decide) (fun c_743 => (by have c_743 := (nI_leI (a := 16) (b := i_742) (by omega) (by omega)).mp c_743; exfalso; omega)) (fun c_743 => ?_)
    replace c_743 : ¬ 16 ≤ i_742 := (not_congr (nI_leI (a := 16) (b := i_742) (by omega) (by omega))).mp c_743
    refine lv_aload_n hx hb dX11_substitute_104 rfl (lv_at hl_742 3 rfl) ?_
    refine va_get (D := E.1) (ci := 12) (v := .ref a_state) (C := RX11) (T := TX11) (N := 45) hx hb hts in_X11 hown hK hP_742 0 rfl rfl 39 (by decide) w_2 (fun _ h9 => h9) rfl dX11_substitute_105 ?_
    refine lv_iload_n hx hb dX11_substitute_108 rfl (lv_at hl_742 0 rfl) ?_
    refine lv_aload_n hx hb dX11_substitute_109 rfl (lv_at hl_742 3 rfl) ?_
    refine va_get (D := E.1) (ci := 12) (v := .ref a_other) (C := RX11) (T := TX11) (N := 45) hx hb hts in_X11 hown hK hP_742 0 rfl rfl 40 (by decide) w_0 (fun _ h9 => h9) rfl dX11_substitute_110 ?_
    refine lv_iload_n hx hb dX11_substitute_113 rfl (lv_at hl_742 0 rfl) ?_
    refine g_iald (e0 := i_742) hx hb hK hP_742 3 0 rfl rfl (by omega) (by omega) dX11_substitute_114 ?_
    refine g_iast (e0 := i_742) hx hb hK hP_742 hD_742 hS_742 2 0 rfl rfl (by omega) (by omega) dX11_substitute_115 (fun H_744 locs_744 hP_744 hD_744 hS_744 => ?_)
    replace hP_744 : va_P E.1 vwCl [(o, .inr (12, [.int Mthrown, .int (nI rv), .ref a_user, .int (nI Musers), .ref a_owner, .int (nI Mowners), .ref a_tried, .int (nI Mtries), .ref a_id, .int (nI Mids), .ref a_tape, .int (nI Mtaped), .int (nI Mtaken), .int MisPlain, .int Mpermissions, .ref a_entries, .ref a_sizes, .ref a_key, .int MisOpen, .int Mfilter, .int (nI Mcollected), .ref a_bytes, .int Mobject, .int MisBack, .int (nI MoutSize), .ref a_out, .int (nI Msaid), .ref a_message, .ref a_digest, .ref a_words, .ref a_h, .ref a_v, .ref a_fillBytes, .ref a_sines, .ref a_roots, .ref a_box, .ref a_backBox, .ref a_roundKeys, .int (nI Mrounds), .ref a_state, .ref a_other, .ref a_stream, .ref a_work, .ref a_padded, .ref a_ownKey])), (a_backBox, .inl (E.2.1, 256, .inl MbackBox)), (a_state, .inl (E.2.1, 16, .inl (upd z_742 i_742 ((upd (upd (upd (upd (upd (upd (upd (upd (upd (upd (upd (upd (upd (upd (upd (upd Mother 0 (MbackBox (Mstate 0).toNatClampNeg)) 1 (MbackBox (Mstate 13).toNatClampNeg)) 2 (MbackBox (Mstate 10).toNatClampNeg)) 3 (MbackBox (Mstate 7).toNatClampNeg)) 4 (MbackBox (Mstate 4).toNatClampNeg)) 5 (MbackBox (Mstate 1).toNatClampNeg)) 6 (MbackBox (Mstate 14).toNatClampNeg)) 7 (MbackBox (Mstate 11).toNatClampNeg)) 8 (MbackBox (Mstate 8).toNatClampNeg)) 9 (MbackBox (Mstate 5).toNatClampNeg)) 10 (MbackBox (Mstate 2).toNatClampNeg)) 11 (MbackBox (Mstate 15).toNatClampNeg)) 12 (MbackBox (Mstate 12).toNatClampNeg)) 13 (MbackBox (Mstate 9).toNatClampNeg)) 14 (MbackBox (Mstate 6).toNatClampNeg)) 15 (MbackBox (Mstate 3).toNatClampNeg)) i_742)))), (a_other, .inl (E.2.1, 16, .inl (upd (upd (upd (upd (upd (upd (upd (upd (upd (upd (upd (upd (upd (upd (upd (upd Mother 0 (MbackBox (Mstate 0).toNatClampNeg)) 1 (MbackBox (Mstate 13).toNatClampNeg)) 2 (MbackBox (Mstate 10).toNatClampNeg)) 3 (MbackBox (Mstate 7).toNatClampNeg)) 4 (MbackBox (Mstate 4).toNatClampNeg)) 5 (MbackBox (Mstate 1).toNatClampNeg)) 6 (MbackBox (Mstate 14).toNatClampNeg)) 7 (MbackBox (Mstate 11).toNatClampNeg)) 8 (MbackBox (Mstate 8).toNatClampNeg)) 9 (MbackBox (Mstate 5).toNatClampNeg)) 10 (MbackBox (Mstate 2).toNatClampNeg)) 11 (MbackBox (Mstate 15).toNatClampNeg)) 12 (MbackBox (Mstate 12).toNatClampNeg)) 13 (MbackBox (Mstate 9).toNatClampNeg)) 14 (MbackBox (Mstate 6).toNatClampNeg)) 15 (MbackBox (Mstate 3).toNatClampNeg))))] H_744 := hP_744
    replace hD_744 : va_D A [(o, .inr (12, [.int Mthrown, .int (nI rv), .ref a_user, .int (nI Musers), .ref a_owner, .int (nI Mowners), .ref a_tried, .int (nI Mtries), .ref a_id, .int (nI Mids), .ref a_tape, .int (nI Mtaped), .int (nI Mtaken), .int MisPlain, .int Mpermissions, .ref a_entries, .ref a_sizes, .ref a_key, .int MisOpen, .int Mfilter, .int (nI Mcollected), .ref a_bytes, .int Mobject, .int MisBack, .int (nI MoutSize), .ref a_out, .int (nI Msaid), .ref a_message, .ref a_digest, .ref a_words, .ref a_h, .ref a_v, .ref a_fillBytes, .ref a_sines, .ref a_roots, .ref a_box, .ref a_backBox, .ref a_roundKeys, .int (nI Mrounds), .ref a_state, .ref a_other, .ref a_stream, .ref a_work, .ref a_padded, .ref a_ownKey])), (a_backBox, .inl (E.2.1, 256, .inl MbackBox)), (a_state, .inl (E.2.1, 16, .inl (upd z_742 i_742 ((upd (upd (upd (upd (upd (upd (upd (upd (upd (upd (upd (upd (upd (upd (upd (upd Mother 0 (MbackBox (Mstate 0).toNatClampNeg)) 1 (MbackBox (Mstate 13).toNatClampNeg)) 2 (MbackBox (Mstate 10).toNatClampNeg)) 3 (MbackBox (Mstate 7).toNatClampNeg)) 4 (MbackBox (Mstate 4).toNatClampNeg)) 5 (MbackBox (Mstate 1).toNatClampNeg)) 6 (MbackBox (Mstate 14).toNatClampNeg)) 7 (MbackBox (Mstate 11).toNatClampNeg)) 8 (MbackBox (Mstate 8).toNatClampNeg)) 9 (MbackBox (Mstate 5).toNatClampNeg)) 10 (MbackBox (Mstate 2).toNatClampNeg)) 11 (MbackBox (Mstate 15).toNatClampNeg)) 12 (MbackBox (Mstate 12).toNatClampNeg)) 13 (MbackBox (Mstate 9).toNatClampNeg)) 14 (MbackBox (Mstate 6).toNatClampNeg)) 15 (MbackBox (Mstate 3).toNatClampNeg)) i_742)))), (a_other, .inl (E.2.1, 16, .inl (upd (upd (upd (upd (upd (upd (upd (upd (upd (upd (upd (upd (upd (upd (upd (upd Mother 0 (MbackBox (Mstate 0).toNatClampNeg)) 1 (MbackBox (Mstate 13).toNatClampNeg)) 2 (MbackBox (Mstate 10).toNatClampNeg)) 3 (MbackBox (Mstate 7).toNatClampNeg)) 4 (MbackBox (Mstate 4).toNatClampNeg)) 5 (MbackBox (Mstate 1).toNatClampNeg)) 6 (MbackBox (Mstate 14).toNatClampNeg)) 7 (MbackBox (Mstate 11).toNatClampNeg)) 8 (MbackBox (Mstate 8).toNatClampNeg)) 9 (MbackBox (Mstate 5).toNatClampNeg)) 10 (MbackBox (Mstate 2).toNatClampNeg)) 11 (MbackBox (Mstate 15).toNatClampNeg)) 12 (MbackBox (Mstate 12).toNatClampNeg)) 13 (MbackBox (Mstate 9).toNatClampNeg)) 14 (MbackBox (Mstate 6).toNatClampNeg)) 15 (MbackBox (Mstate 3).toNatClampNeg))))] := hD_744
    clear hP_742 hD_742 hS_742
    refine lv_iinc (v := (nI (i_742 + 1))) (lv' := [(2, .int (nI (i_742 + 1))), (3, .int 4), (4, .int 0), (0, .ref o), (1, .int 1)]) hx hb dX11_substitute_116 hl_742 (k := 0) rfl (nI_add _ 1) (by decide) rfl (fun ls_745 hl_745 => ?_)
    clear hl_742
    refine lv_goto (tgt := 98) hx hb dX11_substitute_119 (by decide) ?_
    exact ih_742 ((upd z_742 i_742 ((upd (upd (upd (upd (upd (upd (upd (upd (upd (upd (upd (upd (upd (upd (upd (upd Mother 0 (MbackBox (Mstate 0).toNatClampNeg)) 1 (MbackBox (Mstate 13).toNatClampNeg)) 2 (MbackBox (Mstate 10).toNatClampNeg)) 3 (MbackBox (Mstate 7).toNatClampNeg)) 4 (MbackBox (Mstate 4).toNatClampNeg)) 5 (MbackBox (Mstate 1).toNatClampNeg)) 6 (MbackBox (Mstate 14).toNatClampNeg)) 7 (MbackBox (Mstate 11).toNatClampNeg)) 8 (MbackBox (Mstate 8).toNatClampNeg)) 9 (MbackBox (Mstate 5).toNatClampNeg)) 10 (MbackBox (Mstate 2).toNatClampNeg)) 11 (MbackBox (Mstate 15).toNatClampNeg)) 12 (MbackBox (Mstate 12).toNatClampNeg)) 13 (MbackBox (Mstate 9).toNatClampNeg)) 14 (MbackBox (Mstate 6).toNatClampNeg)) 15 (MbackBox (Mstate 3).toNatClampNeg)) i_742)) : Nat → Int32) _ _ _ (((show (B_X11_substitute_1_98 Mother MbackBox Mstate) i_742 z_742 = _ from rfl).symm.trans (congrArg ((B_X11_substitute_1_98 Mother MbackBox Mstate) i_742) hz_742)).trans (itr_s _ _ _).symm) ⟨lv_sub hl_745 [0, 1, 2, 3, 4] rfl, (hP_744.sub [0, 1, 2, 3] rfl), (hD_744.sub [0, 1, 2, 3] (by decide) rfl), hS_744⟩
  · intro z_746 H_746 locs_746 ls_746 hz_746 hI_746
    obtain ⟨hl_746, hP_746, hD_746, hS_746⟩ := hI_746
    replace hl_746 : lv_has ls_746 5 [(2, .int (nI 16)), (3, .int 4), (4, .int 0), (0, .ref o), (1, .int 1)] := hl_746
    replace hP_746 : va_P E.1 vwCl [(o, .inr (12, [.int Mthrown, .int (nI rv), .ref a_user, .int (nI Musers), .ref a_owner, .int (nI Mowners), .ref a_tried, .int (nI Mtries), .ref a_id, .int (nI Mids), .ref a_tape, .int (nI Mtaped), .int (nI Mtaken), .int MisPlain, .int Mpermissions, .ref a_entries, .ref a_sizes, .ref a_key, .int MisOpen, .int Mfilter, .int (nI Mcollected), .ref a_bytes, .int Mobject, .int MisBack, .int (nI MoutSize), .ref a_out, .int (nI Msaid), .ref a_message, .ref a_digest, .ref a_words, .ref a_h, .ref a_v, .ref a_fillBytes, .ref a_sines, .ref a_roots, .ref a_box, .ref a_backBox, .ref a_roundKeys, .int (nI Mrounds), .ref a_state, .ref a_other, .ref a_stream, .ref a_work, .ref a_padded, .ref a_ownKey])), (a_backBox, .inl (E.2.1, 256, .inl MbackBox)), (a_state, .inl (E.2.1, 16, .inl z_746)), (a_other, .inl (E.2.1, 16, .inl (upd (upd (upd (upd (upd (upd (upd (upd (upd (upd (upd (upd (upd (upd (upd (upd Mother 0 (MbackBox (Mstate 0).toNatClampNeg)) 1 (MbackBox (Mstate 13).toNatClampNeg)) 2 (MbackBox (Mstate 10).toNatClampNeg)) 3 (MbackBox (Mstate 7).toNatClampNeg)) 4 (MbackBox (Mstate 4).toNatClampNeg)) 5 (MbackBox (Mstate 1).toNatClampNeg)) 6 (MbackBox (Mstate 14).toNatClampNeg)) 7 (MbackBox (Mstate 11).toNatClampNeg)) 8 (MbackBox (Mstate 8).toNatClampNeg)) 9 (MbackBox (Mstate 5).toNatClampNeg)) 10 (MbackBox (Mstate 2).toNatClampNeg)) 11 (MbackBox (Mstate 15).toNatClampNeg)) 12 (MbackBox (Mstate 12).toNatClampNeg)) 13 (MbackBox (Mstate 9).toNatClampNeg)) 14 (MbackBox (Mstate 6).toNatClampNeg)) 15 (MbackBox (Mstate 3).toNatClampNeg))))] H_746 := hP_746
    replace hD_746 : va_D A [(o, .inr (12, [.int Mthrown, .int (nI rv), .ref a_user, .int (nI Musers), .ref a_owner, .int (nI Mowners), .ref a_tried, .int (nI Mtries), .ref a_id, .int (nI Mids), .ref a_tape, .int (nI Mtaped), .int (nI Mtaken), .int MisPlain, .int Mpermissions, .ref a_entries, .ref a_sizes, .ref a_key, .int MisOpen, .int Mfilter, .int (nI Mcollected), .ref a_bytes, .int Mobject, .int MisBack, .int (nI MoutSize), .ref a_out, .int (nI Msaid), .ref a_message, .ref a_digest, .ref a_words, .ref a_h, .ref a_v, .ref a_fillBytes, .ref a_sines, .ref a_roots, .ref a_box, .ref a_backBox, .ref a_roundKeys, .int (nI Mrounds), .ref a_state, .ref a_other, .ref a_stream, .ref a_work, .ref a_padded, .ref a_ownKey])), (a_backBox, .inl (E.2.1, 256, .inl MbackBox)), (a_state, .inl (E.2.1, 16, .inl z_746)), (a_other, .inl (E.2.1, 16, .inl (upd (upd (upd (upd (upd (upd (upd (upd (upd (upd (upd (upd (upd (upd (upd (upd Mother 0 (MbackBox (Mstate 0).toNatClampNeg)) 1 (MbackBox (Mstate 13).toNatClampNeg)) 2 (MbackBox (Mstate 10).toNatClampNeg)) 3 (MbackBox (Mstate 7).toNatClampNeg)) 4 (MbackBox (Mstate 4).toNatClampNeg)) 5 (MbackBox (Mstate 1).toNatClampNeg)) 6 (MbackBox (Mstate 14).toNatClampNeg)) 7 (MbackBox (Mstate 11).toNatClampNeg)) 8 (MbackBox (Mstate 8).toNatClampNeg)) 9 (MbackBox (Mstate 5).toNatClampNeg)) 10 (MbackBox (Mstate 2).toNatClampNeg)) 11 (MbackBox (Mstate 15).toNatClampNeg)) 12 (MbackBox (Mstate 12).toNatClampNeg)) 13 (MbackBox (Mstate 9).toNatClampNeg)) 14 (MbackBox (Mstate 6).toNatClampNeg)) 15 (MbackBox (Mstate 3).toNatClampNeg))))] := hD_746
    clear hl_725 hP_720 hD_720 hS_720
    refine lv_iload_n hx hb dX11_substitute_98 rfl (lv_at hl_746 0 rfl) ?_
    refine lv_bipush (v := 16) hx hb dX11_substitute_99 (by decide) ?_
    refine lv_icmp_ge (tgt := 122) hx hb dX11_substitute_101 (by decide) (fun c_747 => ?_) (fun c_747 => (by have c_747 := (not_congr (nI_leI (a := 16) (b := 16) (by omega) (by omega))).mp c_747; exfalso; omega))
    replace c_747 : 16 ≤ 16 := (nI_leI (a := 16) (b := 16) (by omega) (by omega)).mp c_747
    have hpost : ((z_746, (upd (upd (upd (upd (upd (upd (upd (upd (upd (upd (upd (upd (upd (upd (upd (upd Mother 0 (MbackBox (Mstate 0).toNatClampNeg)) 1 (MbackBox (Mstate 13).toNatClampNeg)) 2 (MbackBox (Mstate 10).toNatClampNeg)) 3 (MbackBox (Mstate 7).toNatClampNeg)) 4 (MbackBox (Mstate 4).toNatClampNeg)) 5 (MbackBox (Mstate 1).toNatClampNeg)) 6 (MbackBox (Mstate 14).toNatClampNeg)) 7 (MbackBox (Mstate 11).toNatClampNeg)) 8 (MbackBox (Mstate 8).toNatClampNeg)) 9 (MbackBox (Mstate 5).toNatClampNeg)) 10 (MbackBox (Mstate 2).toNatClampNeg)) 11 (MbackBox (Mstate 15).toNatClampNeg)) 12 (MbackBox (Mstate 12).toNatClampNeg)) 13 (MbackBox (Mstate 9).toNatClampNeg)) 14 (MbackBox (Mstate 6).toNatClampNeg)) 15 (MbackBox (Mstate 3).toNatClampNeg))) : (Nat → Int32) × (Nat → Int32)) = F_X11_substitute_1 MbackBox Mstate Mother := (show F_X11_substitute_1 MbackBox Mstate Mother = ((z_746, (upd (upd (upd (upd (upd (upd (upd (upd (upd (upd (upd (upd (upd (upd (upd (upd Mother 0 (MbackBox (Mstate 0).toNatClampNeg)) 1 (MbackBox (Mstate 13).toNatClampNeg)) 2 (MbackBox (Mstate 10).toNatClampNeg)) 3 (MbackBox (Mstate 7).toNatClampNeg)) 4 (MbackBox (Mstate 4).toNatClampNeg)) 5 (MbackBox (Mstate 1).toNatClampNeg)) 6 (MbackBox (Mstate 14).toNatClampNeg)) 7 (MbackBox (Mstate 11).toNatClampNeg)) 8 (MbackBox (Mstate 8).toNatClampNeg)) 9 (MbackBox (Mstate 5).toNatClampNeg)) 10 (MbackBox (Mstate 2).toNatClampNeg)) 11 (MbackBox (Mstate 15).toNatClampNeg)) 12 (MbackBox (Mstate 12).toNatClampNeg)) 13 (MbackBox (Mstate 9).toNatClampNeg)) 14 (MbackBox (Mstate 6).toNatClampNeg)) 15 (MbackBox (Mstate 3).toNatClampNeg))) : (Nat → Int32) × (Nat → Int32)) from (gLet_eq hz_746 rfl)).symm
    have hP9 := hP_746.sub (ws' := [(o, .inr (12, [.int Mthrown, .int (nI rv), .ref a_user, .int (nI Musers), .ref a_owner, .int (nI Mowners), .ref a_tried, .int (nI Mtries), .ref a_id, .int (nI Mids), .ref a_tape, .int (nI Mtaped), .int (nI Mtaken), .int MisPlain, .int Mpermissions, .ref a_entries, .ref a_sizes, .ref a_key, .int MisOpen, .int Mfilter, .int (nI Mcollected), .ref a_bytes, .int Mobject, .int MisBack, .int (nI MoutSize), .ref a_out, .int (nI Msaid), .ref a_message, .ref a_digest, .ref a_words, .ref a_h, .ref a_v, .ref a_fillBytes, .ref a_sines, .ref a_roots, .ref a_box, .ref a_backBox, .ref a_roundKeys, .int (nI Mrounds), .ref a_state, .ref a_other, .ref a_stream, .ref a_work, .ref a_padded, .ref a_ownKey])), (a_backBox, .inl (E.2.1, 256, .inl MbackBox)), (a_state, .inl (E.2.1, 16, .inl z_746)), (a_other, .inl (E.2.1, 16, .inl (upd (upd (upd (upd (upd (upd (upd (upd (upd (upd (upd (upd (upd (upd (upd (upd Mother 0 (MbackBox (Mstate 0).toNatClampNeg)) 1 (MbackBox (Mstate 13).toNatClampNeg)) 2 (MbackBox (Mstate 10).toNatClampNeg)) 3 (MbackBox (Mstate 7).toNatClampNeg)) 4 (MbackBox (Mstate 4).toNatClampNeg)) 5 (MbackBox (Mstate 1).toNatClampNeg)) 6 (MbackBox (Mstate 14).toNatClampNeg)) 7 (MbackBox (Mstate 11).toNatClampNeg)) 8 (MbackBox (Mstate 8).toNatClampNeg)) 9 (MbackBox (Mstate 5).toNatClampNeg)) 10 (MbackBox (Mstate 2).toNatClampNeg)) 11 (MbackBox (Mstate 15).toNatClampNeg)) 12 (MbackBox (Mstate 12).toNatClampNeg)) 13 (MbackBox (Mstate 9).toNatClampNeg)) 14 (MbackBox (Mstate 6).toNatClampNeg)) 15 (MbackBox (Mstate 3).toNatClampNeg))))]) [0, 1, 2, 3] rfl
    have hD9 := hD_746.sub (ws' := [(o, .inr (12, [.int Mthrown, .int (nI rv), .ref a_user, .int (nI Musers), .ref a_owner, .int (nI Mowners), .ref a_tried, .int (nI Mtries), .ref a_id, .int (nI Mids), .ref a_tape, .int (nI Mtaped), .int (nI Mtaken), .int MisPlain, .int Mpermissions, .ref a_entries, .ref a_sizes, .ref a_key, .int MisOpen, .int Mfilter, .int (nI Mcollected), .ref a_bytes, .int Mobject, .int MisBack, .int (nI MoutSize), .ref a_out, .int (nI Msaid), .ref a_message, .ref a_digest, .ref a_words, .ref a_h, .ref a_v, .ref a_fillBytes, .ref a_sines, .ref a_roots, .ref a_box, .ref a_backBox, .ref a_roundKeys, .int (nI Mrounds), .ref a_state, .ref a_other, .ref a_stream, .ref a_work, .ref a_padded, .ref a_ownKey])), (a_backBox, .inl (E.2.1, 256, .inl MbackBox)), (a_state, .inl (E.2.1, 16, .inl z_746)), (a_other, .inl (E.2.1, 16, .inl (upd (upd (upd (upd (upd (upd (upd (upd (upd (upd (upd (upd (upd (upd (upd (upd Mother 0 (MbackBox (Mstate 0).toNatClampNeg)) 1 (MbackBox (Mstate 13).toNatClampNeg)) 2 (MbackBox (Mstate 10).toNatClampNeg)) 3 (MbackBox (Mstate 7).toNatClampNeg)) 4 (MbackBox (Mstate 4).toNatClampNeg)) 5 (MbackBox (Mstate 1).toNatClampNeg)) 6 (MbackBox (Mstate 14).toNatClampNeg)) 7 (MbackBox (Mstate 11).toNatClampNeg)) 8 (MbackBox (Mstate 8).toNatClampNeg)) 9 (MbackBox (Mstate 5).toNatClampNeg)) 10 (MbackBox (Mstate 2).toNatClampNeg)) 11 (MbackBox (Mstate 15).toNatClampNeg)) 12 (MbackBox (Mstate 12).toNatClampNeg)) 13 (MbackBox (Mstate 9).toNatClampNeg)) 14 (MbackBox (Mstate 6).toNatClampNeg)) 15 (MbackBox (Mstate 3).toNatClampNeg))))]) [0, 1, 2, 3] (by decide) rfl
    exact W.vret hx hb hr (fun t ht hW => ⟨⟨(z_746, (upd (upd (upd (upd (upd (upd (upd (upd (upd (upd (upd (upd (upd (upd (upd (upd Mother 0 (MbackBox (Mstate 0).toNatClampNeg)) 1 (MbackBox (Mstate 13).toNatClampNeg)) 2 (MbackBox (Mstate 10).toNatClampNeg)) 3 (MbackBox (Mstate 7).toNatClampNeg)) 4 (MbackBox (Mstate 4).toNatClampNeg)) 5 (MbackBox (Mstate 1).toNatClampNeg)) 6 (MbackBox (Mstate 14).toNatClampNeg)) 7 (MbackBox (Mstate 11).toNatClampNeg)) 8 (MbackBox (Mstate 8).toNatClampNeg)) 9 (MbackBox (Mstate 5).toNatClampNeg)) 10 (MbackBox (Mstate 2).toNatClampNeg)) 11 (MbackBox (Mstate 15).toNatClampNeg)) 12 (MbackBox (Mstate 12).toNatClampNeg)) 13 (MbackBox (Mstate 9).toNatClampNeg)) 14 (MbackBox (Mstate 6).toNatClampNeg)) 15 (MbackBox (Mstate 3).toNatClampNeg))), rfl, hpost, by rw [ht]; exact hP9, hD9⟩, hS_746.F ht⟩) hS_746.2.2 dX11_substitute_122
