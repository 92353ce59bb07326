set_option maxHeartbeats 4000000 in
set_option maxRecDepth 100000 in
theorem k_X0_twice (E : gE) (l : Launch) (v : Int32) : gMi E l yX0_twice wsX0_twice ({ frames := 0, cells := 0, slots := 0, locals := 0 }) 0 0 [.int v] [] (fun (rr : Int32) (_ : Unit) => rr = F_X0_twice v) (fun (_ : Unit) => []) := by
  intro sz
  refine Met.ofW (cc := cX0_twice) (maxL := 1) (ret := (some .int)) (by decide) rfl ?_
  intro p e s m args below meth c s₁ B hml hv
  obtain ⟨rfl, hsz, hP, hV, hD0⟩ := hv
  have hx := B.exec
  have hb := B.bytes
  have hr := B.returns
  have hts := atoms_spec (ws := wsX0_twice) B.pre
  have hown : s.vm.findClass RX0 = some m.cls := findClass_of_methodNamed B.named
  have hlocks := B.notSynchronized
  subst hsz
  have hD := hD0.self (sz := s.heap.size)
  clear hD0
  generalize hAe : va_A [] s.heap.size = A at hD hV ⊢
  have hA : ∀ q : Nat, s.heap.size ≤ q → A q := fun q h => by rw [← hAe]; exact Or.inr h
  have hS : va_S A s.heap s.heap [] := va_S.rf
  have hK := hV.1
  have hF : CallFix p m c cX0_twice 1 s _ wsX0_twice RX0 := ⟨hx, hb, hml, hown, hts⟩
  have hl := lv_entry [.int v] (n := 1) (Nat.le_of_ble_eq_true rfl)
  rw [lg_entry_eq]
  generalize (lg_sl [.int v] ++ List.replicate (1 - (lg_sl [.int v]).length) Slot.unset).toArray = ls at hl ⊢
  have hl : lv_has ls 1 [(0, .int v)] := hl
  refine lv_iload_n hx hb dX0_twice_0 rfl (lv_at hl 0 rfl) ?_
  refine lv_iconst (v := 1) hx hb dX0_twice_1 (by decide) ?_
  refine lv_ishl hx hb dX0_twice_2 ?_
  refine lv_iload_n hx hb dX0_twice_3 rfl (lv_at hl 0 rfl) ?_
  refine lv_sipush (v := 128) hx hb dX0_twice_4 (by decide) ?_
  refine lv_iand hx hb dX0_twice_7 ?_
  refine lv_if_eq (tgt := 16) hx hb dX0_twice_8 (by decide) (fun c_3 => ?_) (fun c_3 => ?_)
  · replace c_3 : (v &&& 128) = 0 := c_3
    refine lv_iconst (v := 0) hx hb dX0_twice_16 (by decide) ?_
    refine lv_ixor hx hb dX0_twice_17 ?_
    refine lv_sipush (v := 255) hx hb dX0_twice_18 (by decide) ?_
    refine lv_iand hx hb dX0_twice_21 ?_
    have hpost : ((((v <<< (1 &&& 31)) ^^^ 0) &&& 255) : Int32) = F_X0_twice v := (show F_X0_twice v = ((((v <<< (1 &&& 31)) ^^^ 0) &&& 255) : Int32) from ((if_pos c_3).trans rfl)).symm
    have hP9 := hP.sub (ws' := []) [] rfl
    have hD9 := hD.sub (ws' := []) [] (by decide) rfl
    exact W.iret (v := (((v <<< (1 &&& 31)) ^^^ 0) &&& 255)) hx hb hr (fun t ht hW => ⟨⟨(((v <<< (1 &&& 31)) ^^^ 0) &&& 255), (), rfl, hpost, by rw [ht]; exact hP9, hD9⟩, hS.F ht⟩) hS.2.2 dX0_twice_22
  · replace c_3 : ¬ ((v &&& 128) = 0) := c_3
    refine lv_bipush (v := 27) hx hb dX0_twice_11 (by decide) ?_
    refine lv_goto (tgt := 17) hx hb dX0_twice_13 (by decide) ?_
    refine lv_ixor hx hb dX0_twice_17 ?_
    refine lv_sipush (v := 255) hx hb dX0_twice_18 (by decide) ?_
    refine lv_iand hx hb dX0_twice_21 ?_
    have hpost : ((((v <<< (1 &&& 31)) ^^^ 27) &&& 255) : Int32) = F_X0_twice v := (show F_X0_twice v = ((((v <<< (1 &&& 31)) ^^^ 27) &&& 255) : Int32) from ((if_neg c_3).trans rfl)).symm
    have hP9 := hP.sub (ws' := []) [] rfl
    have hD9 := hD.sub (ws' := []) [] (by decide) rfl
    exact W.iret (v := (((v <<< (1 &&& 31)) ^^^ 27) &&& 255)) hx hb hr (fun t ht hW => ⟨⟨(((v <<< (1 &&& 31)) ^^^ 27) &&& 255), (), rfl, hpost, by rw [ht]; exact hP9, hD9⟩, hS.F ht⟩) hS.2.2 dX0_twice_22
set_option maxHeartbeats 4000000 in
set_option maxRecDepth 100000 in
theorem k_X0_substituteLast (E : gE) (l : Launch) (h qk qc qv qt : Nat) (rd : Int32) (la : Nat → Int32) : gMv E l yX0_substituteLast wsX0_substituteLast ({ frames := 0, cells := 0, slots := 0, locals := 0 }) 0 0 [.ref h] [(h, .inr (2, [.ref qk, .ref qc, .ref qv, .ref qt, .int rd])), (qt, .inl (E.2.1, 4, .inl la))] (fun (uu : Nat → Int32) => uu = F_X0_substituteLast la) (fun (uu : Nat → Int32) => [(h, .inr (2, [.ref qk, .ref qc, .ref qv, .ref qt, .int rd])), (qt, .inl (E.2.1, 4, .inl uu))]) := by
  intro sz
  refine Met.ofW (cc := cX0_substituteLast) (maxL := 2) (ret := none) (by decide) rfl ?_
  intro p e s m args below meth c s₁ B hml hv
  obtain ⟨rfl, hsz, hP, hV, hD0⟩ := hv
  have hx := B.exec
  have hb := B.bytes
  have hr := B.returns
  have hts := atoms_spec (ws := wsX0_substituteLast) B.pre
  have hown : s.vm.findClass RX0 = some m.cls := findClass_of_methodNamed B.named
  have hlocks := B.notSynchronized
  subst hsz
  have hD := hD0.self (sz := s.heap.size)
  clear hD0
  generalize hAe : va_A [(h, .inr (2, [.ref qk, .ref qc, .ref qv, .ref qt, .int rd])), (qt, .inl (E.2.1, 4, .inl la))] s.heap.size = A at hD hV ⊢
  have hA : ∀ q : Nat, s.heap.size ≤ q → A q := fun q h => by rw [← hAe]; exact Or.inr h
  have hS : va_S A s.heap s.heap [] := va_S.rf
  have hK := hV.1
  have hF : CallFix p m c cX0_substituteLast 2 s _ wsX0_substituteLast RX0 := ⟨hx, hb, hml, hown, hts⟩
  have hl := lv_entry [.ref h] (n := 2) (Nat.le_of_ble_eq_true rfl)
  rw [lg_entry_eq]
  generalize (lg_sl [.ref h] ++ List.replicate (2 - (lg_sl [.ref h]).length) Slot.unset).toArray = ls at hl ⊢
  have hl : lv_has ls 2 [(0, .ref h)] := hl
  have in_X0 : ∀ w ∈ wsX00, w ∈ wsX0_substituteLast := by decide +kernel
  have w_0 := hts (.fieldLink RX0 19 "CryptRows$Blocks" "last" "[I") (by decide +kernel)
  have w_1 := hts (.fieldLink RX0 60 "CryptRows$Blocks" "SUBSTITUTES" "[I") (by decide +kernel)
  refine lv_iconst (v := 0) hx hb dX0_substituteLast_0 (by decide) ?_
  refine lv_istore_n (lv' := [(1, .int 0), (0, .ref h)]) hx hb dX0_substituteLast_1 rfl hl (by decide) rfl (fun ls_35 hl_35 => ?_)
  clear hl
  refine lv_iload_n hx hb dX0_substituteLast_2 rfl (lv_at hl_35 0 rfl) ?_
  refine lv_iconst (v := 4) hx hb dX0_substituteLast_3 (by decide) ?_
  refine lv_icmp_ge (tgt := 33) hx hb dX0_substituteLast_4 (by decide) (fun c_36 => absurd c_36 (by decide)) (fun c_36 => ?_)
  refine lv_aload_n hx hb dX0_substituteLast_7 rfl (lv_at hl_35 1 rfl) ?_
  refine va_get (D := E.1) (ci := 2) (v := .ref qt) (C := RX0) (T := TX0) (N := 5) hx hb hts in_X0 hown hK hP 0 rfl rfl 3 (by decide) w_0 (fun _ h9 => h9) rfl dX0_substituteLast_8 ?_
  refine lv_iload_n hx hb dX0_substituteLast_11 rfl (lv_at hl_35 0 rfl) ?_
  refine va_gets (v := .ref (E.2.2.2 5)) hx hb (hV.2.2 5 (by decide)).1 hS hown w_1 (fun _ h9 => h9) dX0_substituteLast_12 ?_
  refine lv_aload_n hx hb dX0_substituteLast_15 rfl (lv_at hl_35 1 rfl) ?_
  refine va_get (D := E.1) (ci := 2) (v := .ref qt) (C := RX0) (T := TX0) (N := 5) hx hb hts in_X0 hown hK hP 0 rfl rfl 3 (by decide) w_0 (fun _ h9 => h9) rfl dX0_substituteLast_16 ?_
  refine lv_iload_n hx hb dX0_substituteLast_19 rfl (lv_at hl_35 0 rfl) ?_
  refine g_iald (e0 := 0) hx hb hK hP 1 0 rfl rfl (by omega) (by omega) dX0_substituteLast_20 ?_
  refine lv_sipush (v := 255) hx hb dX0_substituteLast_21 (by decide) ?_
  refine lv_iand hx hb dX0_substituteLast_24 ?_
  refine va_ti (v := .int (gTf 5 ((la 0) &&& 255).toNatClampNeg)) hx hb (hV.2.2 5 (by decide)).2 hS (pk_andIn _ 8 (by decide) (by decide)) rfl dX0_substituteLast_25 ?_
  refine g_iast (e0 := 0) hx hb hK hP hD hS 1 0 rfl rfl (by omega) (by omega) dX0_substituteLast_26 (fun H_37 locs_37 hP_37 hD_37 hS_37 => ?_)
  replace hP_37 : va_P E.1 vwCl [(h, .inr (2, [.ref qk, .ref qc, .ref qv, .ref qt, .int rd])), (qt, .inl (E.2.1, 4, .inl (upd la 0 (gTf 5 ((la 0) &&& 255).toNatClampNeg))))] H_37 := hP_37
  replace hD_37 : va_D A [(h, .inr (2, [.ref qk, .ref qc, .ref qv, .ref qt, .int rd])), (qt, .inl (E.2.1, 4, .inl (upd la 0 (gTf 5 ((la 0) &&& 255).toNatClampNeg))))] := hD_37
  clear hP hD hS
  refine lv_iinc (v := 1) (lv' := [(1, .int 1), (0, .ref h)]) hx hb dX0_substituteLast_27 hl_35 (k := 0) rfl (by decide) (by decide) rfl (fun ls_38 hl_38 => ?_)
  clear hl_35
  refine lv_goto (tgt := 2) hx hb dX0_substituteLast_30 (by decide) ?_
  refine lv_iload_n hx hb dX0_substituteLast_2 rfl (lv_at hl_38 0 rfl) ?_
  refine lv_iconst (v := 4) hx hb dX0_substituteLast_3 (by decide) ?_
  refine lv_icmp_ge (tgt := 33) hx hb dX0_substituteLast_4 (by decide) (fun c_39 => absurd c_39 (by decide)) (fun c_39 => ?_)
  refine lv_aload_n hx hb dX0_substituteLast_7 rfl (lv_at hl_38 1 rfl) ?_
  refine va_get (D := E.1) (ci := 2) (v := .ref qt) (C := RX0) (T := TX0) (N := 5) hx hb hts in_X0 hown hK hP_37 0 rfl rfl 3 (by decide) w_0 (fun _ h9 => h9) rfl dX0_substituteLast_8 ?_
  refine lv_iload_n hx hb dX0_substituteLast_11 rfl (lv_at hl_38 0 rfl) ?_
  refine va_gets (v := .ref (E.2.2.2 5)) hx hb (hV.2.2 5 (by decide)).1 hS_37 hown w_1 (fun _ h9 => h9) dX0_substituteLast_12 ?_
  refine lv_aload_n hx hb dX0_substituteLast_15 rfl (lv_at hl_38 1 rfl) ?_
  refine va_get (D := E.1) (ci := 2) (v := .ref qt) (C := RX0) (T := TX0) (N := 5) hx hb hts in_X0 hown hK hP_37 0 rfl rfl 3 (by decide) w_0 (fun _ h9 => h9) rfl dX0_substituteLast_16 ?_
  refine lv_iload_n hx hb dX0_substituteLast_19 rfl (lv_at hl_38 0 rfl) ?_
  refine g_iald (e0 := 1) hx hb hK hP_37 1 0 rfl rfl (by omega) (by omega) dX0_substituteLast_20 ?_
  refine lv_sipush (v := 255) hx hb dX0_substituteLast_21 (by decide) ?_
  refine lv_iand hx hb dX0_substituteLast_24 ?_
  refine lv_topi (fun v_40 ev_40 => ?_)
  refine va_ti (v := .int (gTf 5 v_40.toNatClampNeg)) hx hb (hV.2.2 5 (by decide)).2 hS_37 (by rw [ev_40]; exact pk_andIn _ 8 (by decide) (by decide)) rfl dX0_substituteLast_25 ?_
  refine g_iast (e0 := 1) hx hb hK hP_37 hD_37 hS_37 1 0 rfl rfl (by omega) (by omega) dX0_substituteLast_26 (fun H_41 locs_41 hP_41 hD_41 hS_41 => ?_)
  replace hP_41 : va_P E.1 vwCl [(h, .inr (2, [.ref qk, .ref qc, .ref qv, .ref qt, .int rd])), (qt, .inl (E.2.1, 4, .inl (upd (upd la 0 (gTf 5 ((la 0) &&& 255).toNatClampNeg)) 1 (gTf 5 v_40.toNatClampNeg))))] H_41 := hP_41
  replace hD_41 : va_D A [(h, .inr (2, [.ref qk, .ref qc, .ref qv, .ref qt, .int rd])), (qt, .inl (E.2.1, 4, .inl (upd (upd la 0 (gTf 5 ((la 0) &&& 255).toNatClampNeg)) 1 (gTf 5 v_40.toNatClampNeg))))] := hD_41
  clear hP_37 hD_37 hS_37
  refine lv_iinc (v := 2) (lv' := [(1, .int 2), (0, .ref h)]) hx hb dX0_substituteLast_27 hl_38 (k := 0) rfl (by decide) (by decide) rfl (fun ls_42 hl_42 => ?_)
  clear hl_38
  refine lv_goto (tgt := 2) hx hb dX0_substituteLast_30 (by decide) ?_
  refine lv_iload_n hx hb dX0_substituteLast_2 rfl (lv_at hl_42 0 rfl) ?_
  refine lv_iconst (v := 4) hx hb dX0_substituteLast_3 (by decide) ?_
  refine lv_icmp_ge (tgt := 33) hx hb dX0_substituteLast_4 (by decide) (fun c_43 => absurd c_43 (by decide)) (fun c_43 => ?_)
  refine lv_aload_n hx hb dX0_substituteLast_7 rfl (lv_at hl_42 1 rfl) ?_
  refine va_get (D := E.1) (ci := 2) (v := .ref qt) (C := RX0) (T := TX0) (N := 5) hx hb hts in_X0 hown hK hP_41 0 rfl rfl 3 (by decide) w_0 (fun _ h9 => h9) rfl dX0_substituteLast_8 ?_
  refine lv_iload_n hx hb dX0_substituteLast_11 rfl (lv_at hl_42 0 rfl) ?_
  refine va_gets (v := .ref (E.2.2.2 5)) hx hb (hV.2.2 5 (by decide)).1 hS_41 hown w_1 (fun _ h9 => h9) dX0_substituteLast_12 ?_
  refine lv_aload_n hx hb dX0_substituteLast_15 rfl (lv_at hl_42 1 rfl) ?_
  refine va_get (D := E.1) (ci := 2) (v := .ref qt) (C := RX0) (T := TX0) (N := 5) hx hb hts in_X0 hown hK hP_41 0 rfl rfl 3 (by decide) w_0 (fun _ h9 => h9) rfl dX0_substituteLast_16 ?_
  refine lv_iload_n hx hb dX0_substituteLast_19 rfl (lv_at hl_42 0 rfl) ?_
  refine g_iald (e0 := 2) hx hb hK hP_41 1 0 rfl rfl (by omega) (by omega) dX0_substituteLast_20 ?_
  refine lv_sipush (v := 255) hx hb dX0_substituteLast_21 (by decide) ?_
  refine lv_iand hx hb dX0_substituteLast_24 ?_
  refine lv_topi (fun v_44 ev_44 => ?_)
  refine va_ti (v := .int (gTf 5 v_44.toNatClampNeg)) hx hb (hV.2.2 5 (by decide)).2 hS_41 (by rw [ev_44]; exact pk_andIn _ 8 (by decide) (by decide)) rfl dX0_substituteLast_25 ?_
  refine g_iast (e0 := 2) hx hb hK hP_41 hD_41 hS_41 1 0 rfl rfl (by omega) (by omega) dX0_substituteLast_26 (fun H_45 locs_45 hP_45 hD_45 hS_45 => ?_)
  replace hP_45 : va_P E.1 vwCl [(h, .inr (2, [.ref qk, .ref qc, .ref qv, .ref qt, .int rd])), (qt, .inl (E.2.1, 4, .inl (upd (upd (upd la 0 (gTf 5 ((la 0) &&& 255).toNatClampNeg)) 1 (gTf 5 v_40.toNatClampNeg)) 2 (gTf 5 v_44.toNatClampNeg))))] H_45 := hP_45
  replace hD_45 : va_D A [(h, .inr (2, [.ref qk, .ref qc, .ref qv, .ref qt, .int rd])), (qt, .inl (E.2.1, 4, .inl (upd (upd (upd la 0 (gTf 5 ((la 0) &&& 255).toNatClampNeg)) 1 (gTf 5 v_40.toNatClampNeg)) 2 (gTf 5 v_44.toNatClampNeg))))] := hD_45
  clear hP_41 hD_41 hS_41
  refine lv_iinc (v := 3) (lv' := [(1, .int 3), (0, .ref h)]) hx hb dX0_substituteLast_27 hl_42 (k := 0) rfl (by decide) (by decide) rfl (fun ls_46 hl_46 => ?_)
  clear hl_42
  refine lv_goto (tgt := 2) hx hb dX0_substituteLast_30 (by decide) ?_
  refine lv_iload_n hx hb dX0_substituteLast_2 rfl (lv_at hl_46 0 rfl) ?_
  refine lv_iconst (v := 4) hx hb dX0_substituteLast_3 (by decide) ?_
  refine lv_icmp_ge (tgt := 33) hx hb dX0_substituteLast_4 (by decide) (fun c_47 => absurd c_47 (by decide)) (fun c_47 => ?_)
  refine lv_aload_n hx hb dX0_substituteLast_7 rfl (lv_at hl_46 1 rfl) ?_
  refine va_get (D := E.1) (ci := 2) (v := .ref qt) (C := RX0) (T := TX0) (N := 5) hx hb hts in_X0 hown hK hP_45 0 rfl rfl 3 (by decide) w_0 (fun _ h9 => h9) rfl dX0_substituteLast_8 ?_
  refine lv_iload_n hx hb dX0_substituteLast_11 rfl (lv_at hl_46 0 rfl) ?_
  refine va_gets (v := .ref (E.2.2.2 5)) hx hb (hV.2.2 5 (by decide)).1 hS_45 hown w_1 (fun _ h9 => h9) dX0_substituteLast_12 ?_
  refine lv_aload_n hx hb dX0_substituteLast_15 rfl (lv_at hl_46 1 rfl) ?_
  refine va_get (D := E.1) (ci := 2) (v := .ref qt) (C := RX0) (T := TX0) (N := 5) hx hb hts in_X0 hown hK hP_45 0 rfl rfl 3 (by decide) w_0 (fun _ h9 => h9) rfl dX0_substituteLast_16 ?_
  refine lv_iload_n hx hb dX0_substituteLast_19 rfl (lv_at hl_46 0 rfl) ?_
  refine g_iald (e0 := 3) hx hb hK hP_45 1 0 rfl rfl (by omega) (by omega) dX0_substituteLast_20 ?_
  refine lv_sipush (v := 255) hx hb dX0_substituteLast_21 (by decide) ?_
  refine lv_iand hx hb dX0_substituteLast_24 ?_
  refine lv_topi (fun v_48 ev_48 => ?_)
  refine va_ti (v := .int (gTf 5 v_48.toNatClampNeg)) hx hb (hV.2.2 5 (by decide)).2 hS_45 (by rw [ev_48]; exact pk_andIn _ 8 (by decide) (by decide)) rfl dX0_substituteLast_25 ?_
  refine g_iast (e0 := 3) hx hb hK hP_45 hD_45 hS_45 1 0 rfl rfl (by omega) (by omega) dX0_substituteLast_26 (fun H_49 locs_49 hP_49 hD_49 hS_49 => ?_)
  replace hP_49 : va_P E.1 vwCl [(h, .inr (2, [.ref qk, .ref qc, .ref qv, .ref qt, .int rd])), (qt, .inl (E.2.1, 4, .inl (upd (upd (upd (upd la 0 (gTf 5 ((la 0) &&& 255).toNatClampNeg)) 1 (gTf 5 v_40.toNatClampNeg)) 2 (gTf 5 v_44.toNatClampNeg)) 3 (gTf 5 v_48.toNatClampNeg))))] H_49 := hP_49
  replace hD_49 : va_D A [(h, .inr (2, [.ref qk, .ref qc, .ref qv, .ref qt, .int rd])), (qt, .inl (E.2.1, 4, .inl (upd (upd (upd (upd la 0 (gTf 5 ((la 0) &&& 255).toNatClampNeg)) 1 (gTf 5 v_40.toNatClampNeg)) 2 (gTf 5 v_44.toNatClampNeg)) 3 (gTf 5 v_48.toNatClampNeg))))] := hD_49
  clear hP_45 hD_45 hS_45
  refine lv_iinc (v := 4) (lv' := [(1, .int 4), (0, .ref h)]) hx hb dX0_substituteLast_27 hl_46 (k := 0) rfl (by decide) (by decide) rfl (fun ls_50 hl_50 => ?_)
  clear hl_46
  refine lv_goto (tgt := 2) hx hb dX0_substituteLast_30 (by decide) ?_
  refine lv_iload_n hx hb dX0_substituteLast_2 rfl (lv_at hl_50 0 rfl) ?_
  refine lv_iconst (v := 4) hx hb dX0_substituteLast_3 (by decide) ?_
  refine lv_icmp_ge (tgt := 33) hx hb dX0_substituteLast_4 (by decide) (fun c_51 => ?_) (fun c_51 => absurd (by decide) c_51)
  have hpost : ((upd (upd (upd (upd la 0 (gTf 5 ((la 0) &&& 255).toNatClampNeg)) 1 (gTf 5 v_40.toNatClampNeg)) 2 (gTf 5 v_44.toNatClampNeg)) 3 (gTf 5 v_48.toNatClampNeg)) : Nat → Int32) = F_X0_substituteLast la := (show F_X0_substituteLast la = ((upd (upd (upd (upd la 0 (gTf 5 ((la 0) &&& 255).toNatClampNeg)) 1 (gTf 5 v_40.toNatClampNeg)) 2 (gTf 5 v_44.toNatClampNeg)) 3 (gTf 5 v_48.toNatClampNeg)) : Nat → Int32) from (gLet_eq ev_40 (gLet_eq ev_44 (gLet_eq ev_48 rfl)))).symm
  have hP9 := hP_49.sub (ws' := [(h, .inr (2, [.ref qk, .ref qc, .ref qv, .ref qt, .int rd])), (qt, .inl (E.2.1, 4, .inl (upd (upd (upd (upd la 0 (gTf 5 ((la 0) &&& 255).toNatClampNeg)) 1 (gTf 5 v_40.toNatClampNeg)) 2 (gTf 5 v_44.toNatClampNeg)) 3 (gTf 5 v_48.toNatClampNeg))))]) [0, 1] rfl
  have hD9 := hD_49.sub (ws' := [(h, .inr (2, [.ref qk, .ref qc, .ref qv, .ref qt, .int rd])), (qt, .inl (E.2.1, 4, .inl (upd (upd (upd (upd la 0 (gTf 5 ((la 0) &&& 255).toNatClampNeg)) 1 (gTf 5 v_40.toNatClampNeg)) 2 (gTf 5 v_44.toNatClampNeg)) 3 (gTf 5 v_48.toNatClampNeg))))]) [0, 1] (by decide) rfl
  exact W.vret hx hb hr (fun t ht hW => ⟨⟨(upd (upd (upd (upd la 0 (gTf 5 ((la 0) &&& 255).toNatClampNeg)) 1 (gTf 5 v_40.toNatClampNeg)) 2 (gTf 5 v_44.toNatClampNeg)) 3 (gTf 5 v_48.toNatClampNeg)), rfl, hpost, by rw [ht]; exact hP9, hD9⟩, hS_49.F ht⟩) hS_49.2.2 dX0_substituteLast_33
set_option maxHeartbeats 4000000 in
set_option maxRecDepth 100000 in
theorem k_X0_turnLast (E : gE) (l : Launch) (h qk qc qv qt : Nat) (rd : Int32) (la : Nat → Int32) (power : Int32) : gMv E l yX0_turnLast wsX0_turnLast ({ frames := 1, cells := 0, slots := 0, locals := 21 }) 0 0 [.ref h, .int power] [(h, .inr (2, [.ref qk, .ref qc, .ref qv, .ref qt, .int rd])), (qt, .inl (E.2.1, 4, .inl la))] (fun (uu : Nat → Int32) => uu = F_X0_turnLast la power) (fun (uu : Nat → Int32) => [(h, .inr (2, [.ref qk, .ref qc, .ref qv, .ref qt, .int rd])), (qt, .inl (E.2.1, 4, .inl uu))]) := by
  intro sz
  refine Met.ofW (cc := cX0_turnLast) (maxL := 3) (ret := none) (by decide) rfl ?_
  intro p e s m args below meth c s₁ B hml hv
  obtain ⟨rfl, hsz, hP, hV, hD0⟩ := hv
  have hx := B.exec
  have hb := B.bytes
  have hr := B.returns
  have hts := atoms_spec (ws := wsX0_turnLast) B.pre
  have hown : s.vm.findClass RX0 = some m.cls := findClass_of_methodNamed B.named
  have hlocks := B.notSynchronized
  subst hsz
  have hD := hD0.self (sz := s.heap.size)
  clear hD0
  generalize hAe : va_A [(h, .inr (2, [.ref qk, .ref qc, .ref qv, .ref qt, .int rd])), (qt, .inl (E.2.1, 4, .inl la))] s.heap.size = A at hD hV ⊢
  have hA : ∀ q : Nat, s.heap.size ≤ q → A q := fun q h => by rw [← hAe]; exact Or.inr h
  have hS : va_S A s.heap s.heap [] := va_S.rf
  have hK := hV.1
  have hF : CallFix p m c cX0_turnLast 3 s _ wsX0_turnLast RX0 := ⟨hx, hb, hml, hown, hts⟩
  have hl := lv_entry [.ref h, .int power] (n := 3) (Nat.le_of_ble_eq_true rfl)
  rw [lg_entry_eq]
  generalize (lg_sl [.ref h, .int power] ++ List.replicate (3 - (lg_sl [.ref h, .int power]).length) Slot.unset).toArray = ls at hl ⊢
  have hl : lv_has ls 3 [(0, .ref h), (1, .int power)] := hl
  have in_X0 : ∀ w ∈ wsX00, w ∈ wsX0_turnLast := by decide +kernel
  have w_0 := hts (.fieldLink RX0 19 "CryptRows$Blocks" "last" "[I") (by decide +kernel)
  refine lv_aload_n hx hb dX0_turnLast_0 rfl (lv_at hl 0 rfl) ?_
  refine va_get (D := E.1) (ci := 2) (v := .ref qt) (C := RX0) (T := TX0) (N := 5) hx hb hts in_X0 hown hK hP 0 rfl rfl 3 (by decide) w_0 (fun _ h9 => h9) rfl dX0_turnLast_1 ?_
  refine lv_iconst (v := 0) hx hb dX0_turnLast_4 (by decide) ?_
  refine g_iald (e0 := 0) hx hb hK hP 1 0 rfl rfl (by omega) (by omega) dX0_turnLast_5 ?_
  refine lv_istore_n (lv' := [(2, .int (la 0)), (0, .ref h), (1, .int power)]) hx hb dX0_turnLast_6 rfl hl (by decide) rfl (fun ls_17 hl_17 => ?_)
  clear hl
  refine lv_aload_n hx hb dX0_turnLast_7 rfl (lv_at hl_17 1 rfl) ?_
  refine va_get (D := E.1) (ci := 2) (v := .ref qt) (C := RX0) (T := TX0) (N := 5) hx hb hts in_X0 hown hK hP 0 rfl rfl 3 (by decide) w_0 (fun _ h9 => h9) rfl dX0_turnLast_8 ?_
  refine lv_iconst (v := 0) hx hb dX0_turnLast_11 (by decide) ?_
  refine lv_aload_n hx hb dX0_turnLast_12 rfl (lv_at hl_17 1 rfl) ?_
  refine va_get (D := E.1) (ci := 2) (v := .ref qt) (C := RX0) (T := TX0) (N := 5) hx hb hts in_X0 hown hK hP 0 rfl rfl 3 (by decide) w_0 (fun _ h9 => h9) rfl dX0_turnLast_13 ?_
  refine lv_iconst (v := 1) hx hb dX0_turnLast_16 (by decide) ?_
  refine g_iald (e0 := 1) hx hb hK hP 1 0 rfl rfl (by omega) (by omega) dX0_turnLast_17 ?_
  refine g_iast (e0 := 0) hx hb hK hP hD hS 1 0 rfl rfl (by omega) (by omega) dX0_turnLast_18 (fun H_18 locs_18 hP_18 hD_18 hS_18 => ?_)
  replace hP_18 : va_P E.1 vwCl [(h, .inr (2, [.ref qk, .ref qc, .ref qv, .ref qt, .int rd])), (qt, .inl (E.2.1, 4, .inl (upd la 0 (la 1))))] H_18 := hP_18
  replace hD_18 : va_D A [(h, .inr (2, [.ref qk, .ref qc, .ref qv, .ref qt, .int rd])), (qt, .inl (E.2.1, 4, .inl (upd la 0 (la 1))))] := hD_18
  clear hP hD hS
  refine lv_aload_n hx hb dX0_turnLast_19 rfl (lv_at hl_17 1 rfl) ?_
  refine va_get (D := E.1) (ci := 2) (v := .ref qt) (C := RX0) (T := TX0) (N := 5) hx hb hts in_X0 hown hK hP_18 0 rfl rfl 3 (by decide) w_0 (fun _ h9 => h9) rfl dX0_turnLast_20 ?_
  refine lv_iconst (v := 1) hx hb dX0_turnLast_23 (by decide) ?_
  refine lv_aload_n hx hb dX0_turnLast_24 rfl (lv_at hl_17 1 rfl) ?_
  refine va_get (D := E.1) (ci := 2) (v := .ref qt) (C := RX0) (T := TX0) (N := 5) hx hb hts in_X0 hown hK hP_18 0 rfl rfl 3 (by decide) w_0 (fun _ h9 => h9) rfl dX0_turnLast_25 ?_
  refine lv_iconst (v := 2) hx hb dX0_turnLast_28 (by decide) ?_
  refine g_iald (e0 := 2) hx hb hK hP_18 1 0 rfl rfl (by omega) (by omega) dX0_turnLast_29 ?_
  refine g_iast (e0 := 1) hx hb hK hP_18 hD_18 hS_18 1 0 rfl rfl (by omega) (by omega) dX0_turnLast_30 (fun H_19 locs_19 hP_19 hD_19 hS_19 => ?_)
  replace hP_19 : va_P E.1 vwCl [(h, .inr (2, [.ref qk, .ref qc, .ref qv, .ref qt, .int rd])), (qt, .inl (E.2.1, 4, .inl (upd (upd la 0 (la 1)) 1 ((upd la 0 (la 1)) 2))))] H_19 := hP_19
  replace hD_19 : va_D A [(h, .inr (2, [.ref qk, .ref qc, .ref qv, .ref qt, .int rd])), (qt, .inl (E.2.1, 4, .inl (upd (upd la 0 (la 1)) 1 ((upd la 0 (la 1)) 2))))] := hD_19
  clear hP_18 hD_18 hS_18
  refine lv_aload_n hx hb dX0_turnLast_31 rfl (lv_at hl_17 1 rfl) ?_
  refine va_get (D := E.1) (ci := 2) (v := .ref qt) (C := RX0) (T := TX0) (N := 5) hx hb hts in_X0 hown hK hP_19 0 rfl rfl 3 (by decide) w_0 (fun _ h9 => h9) rfl dX0_turnLast_32 ?_
  refine lv_iconst (v := 2) hx hb dX0_turnLast_35 (by decide) ?_
  refine lv_aload_n hx hb dX0_turnLast_36 rfl (lv_at hl_17 1 rfl) ?_
  refine va_get (D := E.1) (ci := 2) (v := .ref qt) (C := RX0) (T := TX0) (N := 5) hx hb hts in_X0 hown hK hP_19 0 rfl rfl 3 (by decide) w_0 (fun _ h9 => h9) rfl dX0_turnLast_37 ?_
  refine lv_iconst (v := 3) hx hb dX0_turnLast_40 (by decide) ?_
  refine g_iald (e0 := 3) hx hb hK hP_19 1 0 rfl rfl (by omega) (by omega) dX0_turnLast_41 ?_
  refine g_iast (e0 := 2) hx hb hK hP_19 hD_19 hS_19 1 0 rfl rfl (by omega) (by omega) dX0_turnLast_42 (fun H_20 locs_20 hP_20 hD_20 hS_20 => ?_)
  replace hP_20 : va_P E.1 vwCl [(h, .inr (2, [.ref qk, .ref qc, .ref qv, .ref qt, .int rd])), (qt, .inl (E.2.1, 4, .inl (upd (upd (upd la 0 (la 1)) 1 ((upd la 0 (la 1)) 2)) 2 ((upd (upd la 0 (la 1)) 1 ((upd la 0 (la 1)) 2)) 3))))] H_20 := hP_20
  replace hD_20 : va_D A [(h, .inr (2, [.ref qk, .ref qc, .ref qv, .ref qt, .int rd])), (qt, .inl (E.2.1, 4, .inl (upd (upd (upd la 0 (la 1)) 1 ((upd la 0 (la 1)) 2)) 2 ((upd (upd la 0 (la 1)) 1 ((upd la 0 (la 1)) 2)) 3))))] := hD_20
  clear hP_19 hD_19 hS_19
  refine lv_aload_n hx hb dX0_turnLast_43 rfl (lv_at hl_17 1 rfl) ?_
  refine va_get (D := E.1) (ci := 2) (v := .ref qt) (C := RX0) (T := TX0) (N := 5) hx hb hts in_X0 hown hK hP_20 0 rfl rfl 3 (by decide) w_0 (fun _ h9 => h9) rfl dX0_turnLast_44 ?_
  refine lv_iconst (v := 3) hx hb dX0_turnLast_47 (by decide) ?_
  refine lv_iload_n hx hb dX0_turnLast_48 rfl (lv_at hl_17 0 rfl) ?_
  refine g_iast (e0 := 3) hx hb hK hP_20 hD_20 hS_20 1 0 rfl rfl (by omega) (by omega) dX0_turnLast_49 (fun H_21 locs_21 hP_21 hD_21 hS_21 => ?_)
  replace hP_21 : va_P E.1 vwCl [(h, .inr (2, [.ref qk, .ref qc, .ref qv, .ref qt, .int rd])), (qt, .inl (E.2.1, 4, .inl (upd (upd (upd (upd la 0 (la 1)) 1 ((upd la 0 (la 1)) 2)) 2 ((upd (upd la 0 (la 1)) 1 ((upd la 0 (la 1)) 2)) 3)) 3 (la 0))))] H_21 := hP_21
  replace hD_21 : va_D A [(h, .inr (2, [.ref qk, .ref qc, .ref qv, .ref qt, .int rd])), (qt, .inl (E.2.1, 4, .inl (upd (upd (upd (upd la 0 (la 1)) 1 ((upd la 0 (la 1)) 2)) 2 ((upd (upd la 0 (la 1)) 1 ((upd la 0 (la 1)) 2)) 3)) 3 (la 0))))] := hD_21
  clear hP_20 hD_20 hS_20
  refine lv_aload_n hx hb dX0_turnLast_50 rfl (lv_at hl_17 1 rfl) ?_
  refine gVv hF hl_17 hV hP_21 hD_21 hS_21 hA [0, 1] [] (wc := [(h, .inr (2, [.ref qk, .ref qc, .ref qv, .ref qt, .int rd])), (qt, .inl (E.2.1, 4, .inl (upd (upd (upd (upd la 0 (la 1)) 1 ((upd la 0 (la 1)) 2)) 2 ((upd (upd la 0 (la 1)) 1 ((upd la 0 (la 1)) 2)) 3)) 3 (la 0))))]) (wr := []) rfl rfl rfl (by decide) 0 2 rfl rfl rfl (k_X0_substituteLast E l h qk qc qv qt rd (upd (upd (upd (upd la 0 (la 1)) 1 ((upd la 0 (la 1)) 2)) 2 ((upd (upd la 0 (la 1)) 1 ((upd la 0 (la 1)) 2)) 3)) 3 (la 0))) (cwV 0 hts gX0_turnLast_X0_substituteLast rfl rfl rfl (by decide +kernel) ⟨Nat.le_of_ble_eq_true rfl, Nat.le_of_ble_eq_true rfl⟩) rfl rfl rfl (Nat.le_of_ble_eq_true rfl) dX0_turnLast_51 ⟨Nat.le_of_ble_eq_true rfl, Nat.le_of_ble_eq_true rfl⟩ (fun u_22 H_23 locs_23 hu_22 hP_23 hD_23 hS_23 => ?_)
  replace hu_22 : u_22 = F_X0_substituteLast (upd (upd (upd (upd la 0 (la 1)) 1 ((upd la 0 (la 1)) 2)) 2 ((upd (upd la 0 (la 1)) 1 ((upd la 0 (la 1)) 2)) 3)) 3 (la 0)) := hu_22
  replace hP_23 : va_P E.1 vwCl [(h, .inr (2, [.ref qk, .ref qc, .ref qv, .ref qt, .int rd])), (qt, .inl (E.2.1, 4, .inl u_22))] H_23 := hP_23
  replace hD_23 : va_D A [(h, .inr (2, [.ref qk, .ref qc, .ref qv, .ref qt, .int rd])), (qt, .inl (E.2.1, 4, .inl u_22))] := hD_23
  clear hP_21 hD_21 hS_21
  refine lv_aload_n hx hb dX0_turnLast_54 rfl (lv_at hl_17 1 rfl) ?_
  refine va_get (D := E.1) (ci := 2) (v := .ref qt) (C := RX0) (T := TX0) (N := 5) hx hb hts in_X0 hown hK hP_23 0 rfl rfl 3 (by decide) w_0 (fun _ h9 => h9) rfl dX0_turnLast_55 ?_
  refine lv_iconst (v := 0) hx hb dX0_turnLast_58 (by decide) ?_
  refine lv_dup2_11 hx hb dX0_turnLast_59 rfl rfl ?_
  refine g_iald (e0 := 0) hx hb hK hP_23 1 0 rfl rfl (by omega) (by omega) dX0_turnLast_60 ?_
  refine lv_iload_n hx hb dX0_turnLast_61 rfl (lv_at hl_17 2 rfl) ?_
  refine lv_ixor hx hb dX0_turnLast_62 ?_
  refine g_iast (e0 := 0) hx hb hK hP_23 hD_23 hS_23 1 0 rfl rfl (by omega) (by omega) dX0_turnLast_63 (fun H_24 locs_24 hP_24 hD_24 hS_24 => ?_)
  replace hP_24 : va_P E.1 vwCl [(h, .inr (2, [.ref qk, .ref qc, .ref qv, .ref qt, .int rd])), (qt, .inl (E.2.1, 4, .inl (upd u_22 0 ((u_22 0) ^^^ power))))] H_24 := hP_24
  replace hD_24 : va_D A [(h, .inr (2, [.ref qk, .ref qc, .ref qv, .ref qt, .int rd])), (qt, .inl (E.2.1, 4, .inl (upd u_22 0 ((u_22 0) ^^^ power))))] := hD_24
  clear hP_23 hD_23 hS_23
  have hpost : ((upd u_22 0 ((u_22 0) ^^^ power)) : Nat → Int32) = F_X0_turnLast la power := (show F_X0_turnLast la power = ((upd u_22 0 ((u_22 0) ^^^ power)) : Nat → Int32) from (gLet_eq hu_22 rfl)).symm
  have hP9 := hP_24.sub (ws' := [(h, .inr (2, [.ref qk, .ref qc, .ref qv, .ref qt, .int rd])), (qt, .inl (E.2.1, 4, .inl (upd u_22 0 ((u_22 0) ^^^ power))))]) [0, 1] rfl
  have hD9 := hD_24.sub (ws' := [(h, .inr (2, [.ref qk, .ref qc, .ref qv, .ref qt, .int rd])), (qt, .inl (E.2.1, 4, .inl (upd u_22 0 ((u_22 0) ^^^ power))))]) [0, 1] (by decide) rfl
  exact W.vret hx hb hr (fun t ht hW => ⟨⟨(upd u_22 0 ((u_22 0) ^^^ power)), rfl, hpost, by rw [ht]; exact hP9, hD9⟩, hS_24.F ht⟩) hS_24.2.2 dX0_turnLast_64
set_option maxHeartbeats 4000000 in
set_option maxRecDepth 100000 in
theorem k_X0_addKey (E : gE) (l : Launch) (h qk qc qv qt : Nat) (rd : Int32) (ky : Nat → Int32) (cl : Nat → Int32) (round : Int32) : gMv E l yX0_addKey wsX0_addKey ({ frames := 0, cells := 0, slots := 0, locals := 0 }) 0 0 [.ref h, .int round] [(h, .inr (2, [.ref qk, .ref qc, .ref qv, .ref qt, .int rd])), (qk, .inl (E.2.1, 240, .inl ky)), (qc, .inl (E.2.1, 16, .inl cl))] (fun (uu : Nat → Int32) => uu = F_X0_addKey ky cl round) (fun (uu : Nat → Int32) => [(h, .inr (2, [.ref qk, .ref qc, .ref qv, .ref qt, .int rd])), (qk, .inl (E.2.1, 240, .inl ky)), (qc, .inl (E.2.1, 16, .inl uu))]) := by
  intro sz
  refine Met.ofW (cc := cX0_addKey) (maxL := 4) (ret := none) (by decide) rfl ?_
  intro p e s m args below meth c s₁ B hml hv
  obtain ⟨rfl, hsz, hP, hV, hD0⟩ := hv
  have hx := B.exec
  have hb := B.bytes
  have hr := B.returns
  have hts := atoms_spec (ws := wsX0_addKey) B.pre
  have hown : s.vm.findClass RX0 = some m.cls := findClass_of_methodNamed B.named
  have hlocks := B.notSynchronized
  subst hsz
  have hD := hD0.self (sz := s.heap.size)
  clear hD0
  generalize hAe : va_A [(h, .inr (2, [.ref qk, .ref qc, .ref qv, .ref qt, .int rd])), (qk, .inl (E.2.1, 240, .inl ky)), (qc, .inl (E.2.1, 16, .inl cl))] s.heap.size = A at hD hV ⊢
  have hA : ∀ q : Nat, s.heap.size ≤ q → A q := fun q h => by rw [← hAe]; exact Or.inr h
  have hS : va_S A s.heap s.heap [] := va_S.rf
  have hK := hV.1
  have hF : CallFix p m c cX0_addKey 4 s _ wsX0_addKey RX0 := ⟨hx, hb, hml, hown, hts⟩
  have hl := lv_entry [.ref h, .int round] (n := 4) (Nat.le_of_ble_eq_true rfl)
  rw [lg_entry_eq]
  generalize (lg_sl [.ref h, .int round] ++ List.replicate (4 - (lg_sl [.ref h, .int round]).length) Slot.unset).toArray = ls at hl ⊢
  have hl : lv_has ls 4 [(0, .ref h), (1, .int round)] := hl
  have in_X0 : ∀ w ∈ wsX00, w ∈ wsX0_addKey := by decide +kernel
  have w_0 := hts (.fieldLink RX0 13 "CryptRows$Blocks" "cells" "[I") (by decide +kernel)
  have w_1 := hts (.fieldLink RX0 7 "CryptRows$Blocks" "keys" "[I") (by decide +kernel)
  refine lv_iconst (v := 0) hx hb dX0_addKey_0 (by decide) ?_
  refine lv_istore_n (lv' := [(2, .int 0), (0, .ref h), (1, .int round)]) hx hb dX0_addKey_1 rfl hl (by decide) rfl (fun ls_110 hl_110 => ?_)
  clear hl
  refine g_up (N := 16) (B_X0_addKey_2 round ky) (cl : Nat → Int32) (Inv := fun i_0 z_150 H_0 locs_0 ls_0 => lv_has ls_0 4 [(2, .int (nI i_0)), (0, .ref h), (1, .int round)] ∧ va_P E.1 vwCl [(h, .inr (2, [.ref qk, .ref qc, .ref qv, .ref qt, .int rd])), (qk, .inl (E.2.1, 240, .inl ky)), (qc, .inl (E.2.1, 16, .inl z_150))] H_0 ∧ va_D A [(h, .inr (2, [.ref qk, .ref qc, .ref qv, .ref qt, .int rd])), (qk, .inl (E.2.1, 240, .inl ky)), (qc, .inl (E.2.1, 16, .inl z_150))] ∧ va_S A s.heap H_0 locs_0) (G := fun H_0 locs_0 ls_0 => W _ _ _ _ _ _ _ _ _ _ H_0 locs_0 _ _ _ (F0 _ 2 ls_0 [])) ?_ ?_ ⟨lv_sub hl_110 [0, 1, 2] rfl, hP, hD, hS⟩
  · intro j_151 i_151 z_151 H_151 locs_151 ls_151 hij_151 hz_151 hI_151 ih_151
    obtain ⟨hl_151, hP_151, hD_151, hS_151⟩ := hI_151
    replace hl_151 : lv_has ls_151 4 [(2, .int (nI i_151)), (0, .ref h), (1, .int round)] := hl_151
    replace hP_151 : va_P E.1 vwCl [(h, .inr (2, [.ref qk, .ref qc, .ref qv, .ref qt, .int rd])), (qk, .inl (E.2.1, 240, .inl ky)), (qc, .inl (E.2.1, 16, .inl z_151))] H_151 := hP_151
    replace hD_151 : va_D A [(h, .inr (2, [.ref qk, .ref qc, .ref qv, .ref qt, .int rd])), (qk, .inl (E.2.1, 240, .inl ky)), (qc, .inl (E.2.1, 16, .inl z_151))] := hD_151
    clear hl_110 hP hD hS
    refine lv_iload_n hx hb dX0_addKey_2 rfl (lv_at hl_151 0 rfl) ?_
    refine lv_bipush (v := 16) hx hb dX0_addKey_3 (by decide) ?_
    refine lv_icmp_ge (tgt := 53) hx hb dX0_addKey_5 (by decide) (fun c_152 => (by have c_152 := (nI_leI (a := 16) (b := i_151) (by omega) (by omega)).mp c_152; exfalso; omega)) (fun c_152 => ?_)
    replace c_152 : ¬ 16 ≤ i_151 := (not_congr (nI_leI (a := 16) (b := i_151) (by omega) (by omega))).mp c_152
    refine lv_bipush (v := 16) hx hb dX0_addKey_8 (by decide) ?_
    refine lv_iload_n hx hb dX0_addKey_10 rfl (lv_at hl_151 2 rfl) ?_
    refine lv_imul hx hb dX0_addKey_11 ?_
    refine lv_iload_n hx hb dX0_addKey_12 rfl (lv_at hl_151 0 rfl) ?_
    refine lv_iadd hx hb dX0_addKey_13 ?_
    refine lv_istore_n (lv' := [(3, .int ((16 * round) + (nI i_151))), (2, .int (nI i_151)), (0, .ref h), (1, .int round)]) hx hb dX0_addKey_14 rfl hl_151 (by decide) rfl (fun ls_153 hl_153 => ?_)
    clear hl_151
    refine lv_aload_n hx hb dX0_addKey_15 rfl (lv_at hl_153 2 rfl) ?_
    refine va_get (D := E.1) (ci := 2) (v := .ref qc) (C := RX0) (T := TX0) (N := 5) hx hb hts in_X0 hown hK hP_151 0 rfl rfl 1 (by decide) w_0 (fun _ h9 => h9) rfl dX0_addKey_16 ?_
    refine lv_iload_n hx hb dX0_addKey_19 rfl (lv_at hl_153 1 rfl) ?_
    refine lv_dup2_11 hx hb dX0_addKey_20 rfl rfl ?_
    refine g_iald (e0 := i_151) hx hb hK hP_151 2 0 rfl rfl (by omega) (by omega) dX0_addKey_21 ?_
    refine lv_iload_n hx hb dX0_addKey_22 rfl (lv_at hl_153 0 rfl) ?_
    refine lv_if_lt (tgt := 44) hx hb dX0_addKey_23 (by decide) (fun c_154 => ?_) (fun c_154 => ?_)
    · replace c_154 : ((16 * round) + (nI i_151)) < 0 := c_154
      refine lv_iconst (v := 0) hx hb dX0_addKey_44 (by decide) ?_
      refine lv_ixor hx hb dX0_addKey_45 ?_
      refine g_iast (e0 := i_151) hx hb hK hP_151 hD_151 hS_151 2 0 rfl rfl (by omega) (by omega) dX0_addKey_46 (fun H_155 locs_155 hP_155 hD_155 hS_155 => ?_)
      replace hP_155 : va_P E.1 vwCl [(h, .inr (2, [.ref qk, .ref qc, .ref qv, .ref qt, .int rd])), (qk, .inl (E.2.1, 240, .inl ky)), (qc, .inl (E.2.1, 16, .inl (upd z_151 i_151 ((z_151 i_151) ^^^ 0))))] H_155 := hP_155
      replace hD_155 : va_D A [(h, .inr (2, [.ref qk, .ref qc, .ref qv, .ref qt, .int rd])), (qk, .inl (E.2.1, 240, .inl ky)), (qc, .inl (E.2.1, 16, .inl (upd z_151 i_151 ((z_151 i_151) ^^^ 0))))] := hD_155
      clear hP_151 hD_151 hS_151
      refine lv_iinc (v := (nI (i_151 + 1))) (lv' := [(2, .int (nI (i_151 + 1))), (3, .int ((16 * round) + (nI i_151))), (0, .ref h), (1, .int round)]) hx hb dX0_addKey_47 hl_153 (k := 1) rfl (nI_add _ 1) (by decide) rfl (fun ls_156 hl_156 => ?_)
      clear hl_153
      refine lv_goto (tgt := 2) hx hb dX0_addKey_50 (by decide) ?_
      exact ih_151 ((upd z_151 i_151 ((z_151 i_151) ^^^ 0)) : Nat → Int32) _ _ _ (((show (B_X0_addKey_2 round ky) i_151 z_151 = _ from ((if_pos c_154).trans rfl)).symm.trans (congrArg ((B_X0_addKey_2 round ky) i_151) hz_151)).trans (itr_s _ _ _).symm) ⟨lv_sub hl_156 [0, 2, 3] rfl, (hP_155.sub [0, 1, 2] rfl), (hD_155.sub [0, 1, 2] (by decide) rfl), hS_155⟩
    · replace c_154 : ¬ (((16 * round) + (nI i_151)) < 0) := c_154
      refine lv_iload_n hx hb dX0_addKey_26 rfl (lv_at hl_153 0 rfl) ?_
      refine lv_aload_n hx hb dX0_addKey_27 rfl (lv_at hl_153 2 rfl) ?_
      refine va_get (D := E.1) (ci := 2) (v := .ref qk) (C := RX0) (T := TX0) (N := 5) hx hb hts in_X0 hown hK hP_151 0 rfl rfl 0 (by decide) w_1 (fun _ h9 => h9) rfl dX0_addKey_28 ?_
      refine va_alen (v := 240) hx hb hK hP_151 1 0 rfl rfl rfl dX0_addKey_31 ?_
      refine lv_icmp_ge (tgt := 44) hx hb dX0_addKey_32 (by decide) (fun c_157 => ?_) (fun c_157 => ?_)
      · replace c_157 : 240 ≤ ((16 * round) + (nI i_151)) := c_157
        refine lv_iconst (v := 0) hx hb dX0_addKey_44 (by decide) ?_
        refine lv_ixor hx hb dX0_addKey_45 ?_
        refine g_iast (e0 := i_151) hx hb hK hP_151 hD_151 hS_151 2 0 rfl rfl (by omega) (by omega) dX0_addKey_46 (fun H_158 locs_158 hP_158 hD_158 hS_158 => ?_)
        replace hP_158 : va_P E.1 vwCl [(h, .inr (2, [.ref qk, .ref qc, .ref qv, .ref qt, .int rd])), (qk, .inl (E.2.1, 240, .inl ky)), (qc, .inl (E.2.1, 16, .inl (upd z_151 i_151 ((z_151 i_151) ^^^ 0))))] H_158 := hP_158
        replace hD_158 : va_D A [(h, .inr (2, [.ref qk, .ref qc, .ref qv, .ref qt, .int rd])), (qk, .inl (E.2.1, 240, .inl ky)), (qc, .inl (E.2.1, 16, .inl (upd z_151 i_151 ((z_151 i_151) ^^^ 0))))] := hD_158
        clear hP_151 hD_151 hS_151
        refine lv_iinc (v := (nI (i_151 + 1))) (lv' := [(2, .int (nI (i_151 + 1))), (3, .int ((16 * round) + (nI i_151))), (0, .ref h), (1, .int round)]) hx hb dX0_addKey_47 hl_153 (k := 1) rfl (nI_add _ 1) (by decide) rfl (fun ls_159 hl_159 => ?_)
        clear hl_153
        refine lv_goto (tgt := 2) hx hb dX0_addKey_50 (by decide) ?_
        exact ih_151 ((upd z_151 i_151 ((z_151 i_151) ^^^ 0)) : Nat → Int32) _ _ _ (((show (B_X0_addKey_2 round ky) i_151 z_151 = _ from ((if_neg c_154).trans ((if_pos c_157).trans rfl))).symm.trans (congrArg ((B_X0_addKey_2 round ky) i_151) hz_151)).trans (itr_s _ _ _).symm) ⟨lv_sub hl_159 [0, 2, 3] rfl, (hP_158.sub [0, 1, 2] rfl), (hD_158.sub [0, 1, 2] (by decide) rfl), hS_158⟩
      · replace c_157 : ¬ (240 ≤ ((16 * round) + (nI i_151))) := c_157
        refine lv_aload_n hx hb dX0_addKey_35 rfl (lv_at hl_153 2 rfl) ?_
        refine va_get (D := E.1) (ci := 2) (v := .ref qk) (C := RX0) (T := TX0) (N := 5) hx hb hts in_X0 hown hK hP_151 0 rfl rfl 0 (by decide) w_1 (fun _ h9 => h9) rfl dX0_addKey_36 ?_
        refine lv_iload_n hx hb dX0_addKey_39 rfl (lv_at hl_153 0 rfl) ?_
        refine va_iald hx hb hK hP_151 1 0 rfl rfl (g_in c_154 c_157 (by omega)) dX0_addKey_40 ?_
        refine lv_goto (tgt := 45) hx hb dX0_addKey_41 (by decide) ?_
        refine lv_ixor hx hb dX0_addKey_45 ?_
        refine lv_topi (fun v_160 ev_160 => ?_)
        refine g_iast (e0 := i_151) hx hb hK hP_151 hD_151 hS_151 2 0 rfl rfl (by omega) (by omega) dX0_addKey_46 (fun H_161 locs_161 hP_161 hD_161 hS_161 => ?_)
        replace hP_161 : va_P E.1 vwCl [(h, .inr (2, [.ref qk, .ref qc, .ref qv, .ref qt, .int rd])), (qk, .inl (E.2.1, 240, .inl ky)), (qc, .inl (E.2.1, 16, .inl (upd z_151 i_151 v_160)))] H_161 := hP_161
        replace hD_161 : va_D A [(h, .inr (2, [.ref qk, .ref qc, .ref qv, .ref qt, .int rd])), (qk, .inl (E.2.1, 240, .inl ky)), (qc, .inl (E.2.1, 16, .inl (upd z_151 i_151 v_160)))] := hD_161
        clear hP_151 hD_151 hS_151
        refine lv_iinc (v := (nI (i_151 + 1))) (lv' := [(2, .int (nI (i_151 + 1))), (3, .int ((16 * round) + (nI i_151))), (0, .ref h), (1, .int round)]) hx hb dX0_addKey_47 hl_153 (k := 1) rfl (nI_add _ 1) (by decide) rfl (fun ls_162 hl_162 => ?_)
        clear hl_153
        refine lv_goto (tgt := 2) hx hb dX0_addKey_50 (by decide) ?_
        exact ih_151 ((upd z_151 i_151 v_160) : Nat → Int32) _ _ _ (((show (B_X0_addKey_2 round ky) i_151 z_151 = _ from ((if_neg c_154).trans ((if_neg c_157).trans (gLet_eq ev_160 rfl)))).symm.trans (congrArg ((B_X0_addKey_2 round ky) i_151) hz_151)).trans (itr_s _ _ _).symm) ⟨lv_sub hl_162 [0, 2, 3] rfl, (hP_161.sub [0, 1, 2] rfl), (hD_161.sub [0, 1, 2] (by decide) rfl), hS_161⟩
  · intro z_163 H_163 locs_163 ls_163 hz_163 hI_163
    obtain ⟨hl_163, hP_163, hD_163, hS_163⟩ := hI_163
    replace hl_163 : lv_has ls_163 4 [(2, .int (nI 16)), (0, .ref h), (1, .int round)] := hl_163
    replace hP_163 : va_P E.1 vwCl [(h, .inr (2, [.ref qk, .ref qc, .ref qv, .ref qt, .int rd])), (qk, .inl (E.2.1, 240, .inl ky)), (qc, .inl (E.2.1, 16, .inl z_163))] H_163 := hP_163
    replace hD_163 : va_D A [(h, .inr (2, [.ref qk, .ref qc, .ref qv, .ref qt, .int rd])), (qk, .inl (E.2.1, 240, .inl ky)), (qc, .inl (E.2.1, 16, .inl z_163))] := hD_163
    clear hl_110 hP hD hS
    refine lv_iload_n hx hb dX0_addKey_2 rfl (lv_at hl_163 0 rfl) ?_
    refine lv_bipush (v := 16) hx hb dX0_addKey_3 (by decide) ?_
    refine lv_icmp_ge (tgt := 53) hx hb dX0_addKey_5 (by decide) (fun c_164 => ?_) (fun c_164 => (by have c_164 := (not_congr (nI_leI (a := 16) (b := 16) (by omega) (by omega))).mp c_164; exfalso; omega))
    replace c_164 : 16 ≤ 16 := (nI_leI (a := 16) (b := 16) (by omega) (by omega)).mp c_164
    have hpost : (z_163 : Nat → Int32) = F_X0_addKey ky cl round := (show F_X0_addKey ky cl round = (z_163 : Nat → Int32) from (gLet_eq hz_163 rfl)).symm
    have hP9 := hP_163.sub (ws' := [(h, .inr (2, [.ref qk, .ref qc, .ref qv, .ref qt, .int rd])), (qk, .inl (E.2.1, 240, .inl ky)), (qc, .inl (E.2.1, 16, .inl z_163))]) [0, 1, 2] rfl
    have hD9 := hD_163.sub (ws' := [(h, .inr (2, [.ref qk, .ref qc, .ref qv, .ref qt, .int rd])), (qk, .inl (E.2.1, 240, .inl ky)), (qc, .inl (E.2.1, 16, .inl z_163))]) [0, 1, 2] (by decide) rfl
    exact W.vret hx hb hr (fun t ht hW => ⟨⟨z_163, rfl, hpost, by rw [ht]; exact hP9, hD9⟩, hS_163.F ht⟩) hS_163.2.2 dX0_addKey_53
set_option maxHeartbeats 4000000 in
set_option maxRecDepth 100000 in
theorem k_X0_mixColumn (E : gE) (l : Launch) (h qk qc qv qt : Nat) (rd : Int32) (cl : Nat → Int32) (mv : Nat → Int32) (column : Int32) (mixing : Int32) : gMv E l yX0_mixColumn wsX0_mixColumn ({ frames := 1, cells := 0, slots := 0, locals := 20 }) 0 0 [.ref h, .int column, .int mixing] [(h, .inr (2, [.ref qk, .ref qc, .ref qv, .ref qt, .int rd])), (qc, .inl (E.2.1, 16, .inl cl)), (qv, .inl (E.2.1, 16, .inl mv))] (fun (uu : Nat → Int32) => uu = F_X0_mixColumn cl mv column mixing) (fun (uu : Nat → Int32) => [(h, .inr (2, [.ref qk, .ref qc, .ref qv, .ref qt, .int rd])), (qc, .inl (E.2.1, 16, .inl uu)), (qv, .inl (E.2.1, 16, .inl mv))]) := by
  intro sz
  refine Met.ofW (cc := cX0_mixColumn) (maxL := 8) (ret := none) (by decide) rfl ?_
  intro p e s m args below meth c s₁ B hml hv
  obtain ⟨rfl, hsz, hP, hV, hD0⟩ := hv
  have hx := B.exec
  have hb := B.bytes
  have hr := B.returns
  have hts := atoms_spec (ws := wsX0_mixColumn) B.pre
  have hown : s.vm.findClass RX0 = some m.cls := findClass_of_methodNamed B.named
  have hlocks := B.notSynchronized
  subst hsz
  have hD := hD0.self (sz := s.heap.size)
  clear hD0
  generalize hAe : va_A [(h, .inr (2, [.ref qk, .ref qc, .ref qv, .ref qt, .int rd])), (qc, .inl (E.2.1, 16, .inl cl)), (qv, .inl (E.2.1, 16, .inl mv))] s.heap.size = A at hD hV ⊢
  have hA : ∀ q : Nat, s.heap.size ≤ q → A q := fun q h => by rw [← hAe]; exact Or.inr h
  have hS : va_S A s.heap s.heap [] := va_S.rf
  have hK := hV.1
  have hF : CallFix p m c cX0_mixColumn 8 s _ wsX0_mixColumn RX0 := ⟨hx, hb, hml, hown, hts⟩
  have hl := lv_entry [.ref h, .int column, .int mixing] (n := 8) (Nat.le_of_ble_eq_true rfl)
  rw [lg_entry_eq]
  generalize (lg_sl [.ref h, .int column, .int mixing] ++ List.replicate (8 - (lg_sl [.ref h, .int column, .int mixing]).length) Slot.unset).toArray = ls at hl ⊢
  have hl : lv_has ls 8 [(0, .ref h), (1, .int column), (2, .int mixing)] := hl
  have in_X0 : ∀ w ∈ wsX00, w ∈ wsX0_mixColumn := by decide +kernel
  have w_0 := hts (.fieldLink RX0 16 "CryptRows$Blocks" "moved" "[I") (by decide +kernel)
  have w_1 := hts (.fieldLink RX0 13 "CryptRows$Blocks" "cells" "[I") (by decide +kernel)
  refine lv_iconst (v := 0) hx hb dX0_mixColumn_0 (by decide) ?_
  refine lv_istore_n (lv' := [(3, .int 0), (0, .ref h), (1, .int column), (2, .int mixing)]) hx hb dX0_mixColumn_1 rfl hl (by decide) rfl (fun ls_255 hl_255 => ?_)
  clear hl
  refine lv_iload_n hx hb dX0_mixColumn_2 rfl (lv_at hl_255 0 rfl) ?_
  refine lv_iconst (v := 4) hx hb dX0_mixColumn_3 (by decide) ?_
  refine lv_icmp_ge (tgt := 117) hx hb dX0_mixColumn_4 (by decide) (fun c_256 => absurd c_256 (by decide)) (fun c_256 => ?_)
  refine lv_aload_n hx hb dX0_mixColumn_7 rfl (lv_at hl_255 1 rfl) ?_
  refine va_get (D := E.1) (ci := 2) (v := .ref qv) (C := RX0) (T := TX0) (N := 5) hx hb hts in_X0 hown hK hP 0 rfl rfl 2 (by decide) w_0 (fun _ h9 => h9) rfl dX0_mixColumn_8 ?_
  refine lv_iload_n hx hb dX0_mixColumn_11 rfl (lv_at hl_255 2 rfl) ?_
  refine lv_iload_n hx hb dX0_mixColumn_12 rfl (lv_at hl_255 0 rfl) ?_
  refine lv_iadd hx hb dX0_mixColumn_13 ?_
  refine lv_bipush (v := 15) hx hb dX0_mixColumn_14 (by decide) ?_
  refine lv_iand hx hb dX0_mixColumn_16 ?_
  refine va_iald hx hb hK hP 2 0 rfl rfl (pk_andIn _ 4 (by decide) (by decide)) dX0_mixColumn_17 ?_
  refine lv_istore (lv' := [(4, .int (mv ((column + 0) &&& 15).toNatClampNeg)), (3, .int 0), (0, .ref h), (1, .int column), (2, .int mixing)]) hx hb dX0_mixColumn_18 hl_255 (by decide) rfl (fun ls_257 hl_257 => ?_)
  clear hl_255
  refine lv_aload_n hx hb dX0_mixColumn_20 rfl (lv_at hl_257 2 rfl) ?_
  refine va_get (D := E.1) (ci := 2) (v := .ref qv) (C := RX0) (T := TX0) (N := 5) hx hb hts in_X0 hown hK hP 0 rfl rfl 2 (by decide) w_0 (fun _ h9 => h9) rfl dX0_mixColumn_21 ?_
  refine lv_iload_n hx hb dX0_mixColumn_24 rfl (lv_at hl_257 3 rfl) ?_
  refine lv_iload_n hx hb dX0_mixColumn_25 rfl (lv_at hl_257 1 rfl) ?_
  refine lv_iconst (v := 1) hx hb dX0_mixColumn_26 (by decide) ?_
  refine lv_iadd hx hb dX0_mixColumn_27 ?_
  refine lv_topi (fun y_258 ey_258 => ?_)
  obtain rfl : y_258 = 1 := ey_258.trans (by decide)
  refine lv_iconst (v := 3) hx hb dX0_mixColumn_28 (by decide) ?_
  refine lv_iand hx hb dX0_mixColumn_29 ?_
  refine lv_topi (fun y_259 ey_259 => ?_)
  obtain rfl : y_259 = 1 := ey_259.trans (by decide)
  refine lv_iadd hx hb dX0_mixColumn_30 ?_
  refine lv_bipush (v := 15) hx hb dX0_mixColumn_31 (by decide) ?_
  refine lv_iand hx hb dX0_mixColumn_33 ?_
  refine va_iald hx hb hK hP 2 0 rfl rfl (pk_andIn _ 4 (by decide) (by decide)) dX0_mixColumn_34 ?_
  refine lv_istore (lv' := [(5, .int (mv ((column + 1) &&& 15).toNatClampNeg)), (4, .int (mv ((column + 0) &&& 15).toNatClampNeg)), (3, .int 0), (0, .ref h), (1, .int column), (2, .int mixing)]) hx hb dX0_mixColumn_35 hl_257 (by decide) rfl (fun ls_260 hl_260 => ?_)
  clear hl_257
  refine lv_aload_n hx hb dX0_mixColumn_37 rfl (lv_at hl_260 3 rfl) ?_
  refine va_get (D := E.1) (ci := 2) (v := .ref qv) (C := RX0) (T := TX0) (N := 5) hx hb hts in_X0 hown hK hP 0 rfl rfl 2 (by decide) w_0 (fun _ h9 => h9) rfl dX0_mixColumn_38 ?_
  refine lv_iload_n hx hb dX0_mixColumn_41 rfl (lv_at hl_260 4 rfl) ?_
  refine lv_iload_n hx hb dX0_mixColumn_42 rfl (lv_at hl_260 2 rfl) ?_
  refine lv_iconst (v := 2) hx hb dX0_mixColumn_43 (by decide) ?_
  refine lv_iadd hx hb dX0_mixColumn_44 ?_
  refine lv_topi (fun y_261 ey_261 => ?_)
  obtain rfl : y_261 = 2 := ey_261.trans (by decide)
  refine lv_iconst (v := 3) hx hb dX0_mixColumn_45 (by decide) ?_
  refine lv_iand hx hb dX0_mixColumn_46 ?_
  refine lv_topi (fun y_262 ey_262 => ?_)
  obtain rfl : y_262 = 2 := ey_262.trans (by decide)
  refine lv_iadd hx hb dX0_mixColumn_47 ?_
  refine lv_bipush (v := 15) hx hb dX0_mixColumn_48 (by decide) ?_
  refine lv_iand hx hb dX0_mixColumn_50 ?_
  refine va_iald hx hb hK hP 2 0 rfl rfl (pk_andIn _ 4 (by decide) (by decide)) dX0_mixColumn_51 ?_
  refine lv_istore (lv' := [(6, .int (mv ((column + 2) &&& 15).toNatClampNeg)), (5, .int (mv ((column + 1) &&& 15).toNatClampNeg)), (4, .int (mv ((column + 0) &&& 15).toNatClampNeg)), (3, .int 0), (0, .ref h), (1, .int column), (2, .int mixing)]) hx hb dX0_mixColumn_52 hl_260 (by decide) rfl (fun ls_263 hl_263 => ?_)
  clear hl_260
  refine lv_aload_n hx hb dX0_mixColumn_54 rfl (lv_at hl_263 4 rfl) ?_
  refine va_get (D := E.1) (ci := 2) (v := .ref qv) (C := RX0) (T := TX0) (N := 5) hx hb hts in_X0 hown hK hP 0 rfl rfl 2 (by decide) w_0 (fun _ h9 => h9) rfl dX0_mixColumn_55 ?_
  refine lv_iload_n hx hb dX0_mixColumn_58 rfl (lv_at hl_263 5 rfl) ?_
  refine lv_iload_n hx hb dX0_mixColumn_59 rfl (lv_at hl_263 3 rfl) ?_
  refine lv_iconst (v := 3) hx hb dX0_mixColumn_60 (by decide) ?_
  refine lv_iadd hx hb dX0_mixColumn_61 ?_
  refine lv_topi (fun y_264 ey_264 => ?_)
  obtain rfl : y_264 = 3 := ey_264.trans (by decide)
  refine lv_iconst (v := 3) hx hb dX0_mixColumn_62 (by decide) ?_
  refine lv_iand hx hb dX0_mixColumn_63 ?_
  refine lv_topi (fun y_265 ey_265 => ?_)
  obtain rfl : y_265 = 3 := ey_265.trans (by decide)
  refine lv_iadd hx hb dX0_mixColumn_64 ?_
  refine lv_bipush (v := 15) hx hb dX0_mixColumn_65 (by decide) ?_
  refine lv_iand hx hb dX0_mixColumn_67 ?_
  refine va_iald hx hb hK hP 2 0 rfl rfl (pk_andIn _ 4 (by decide) (by decide)) dX0_mixColumn_68 ?_
  refine lv_istore (lv' := [(7, .int (mv ((column + 3) &&& 15).toNatClampNeg)), (6, .int (mv ((column + 2) &&& 15).toNatClampNeg)), (5, .int (mv ((column + 1) &&& 15).toNatClampNeg)), (4, .int (mv ((column + 0) &&& 15).toNatClampNeg)), (3, .int 0), (0, .ref h), (1, .int column), (2, .int mixing)]) hx hb dX0_mixColumn_69 hl_263 (by decide) rfl (fun ls_266 hl_266 => ?_)
  clear hl_263
  refine lv_aload_n hx hb dX0_mixColumn_71 rfl (lv_at hl_266 5 rfl) ?_
  refine va_get (D := E.1) (ci := 2) (v := .ref qc) (C := RX0) (T := TX0) (N := 5) hx hb hts in_X0 hown hK hP 0 rfl rfl 1 (by decide) w_1 (fun _ h9 => h9) rfl dX0_mixColumn_72 ?_
  refine lv_iload_n hx hb dX0_mixColumn_75 rfl (lv_at hl_266 6 rfl) ?_
  refine lv_iload_n hx hb dX0_mixColumn_76 rfl (lv_at hl_266 4 rfl) ?_
  refine lv_iadd hx hb dX0_mixColumn_77 ?_
  refine lv_bipush (v := 15) hx hb dX0_mixColumn_78 (by decide) ?_
  refine lv_iand hx hb dX0_mixColumn_80 ?_
  refine lv_iload_n hx hb dX0_mixColumn_81 rfl (lv_at hl_266 7 rfl) ?_
  refine lv_if_eq (tgt := 108) hx hb dX0_mixColumn_82 (by decide) (fun c_267 => ?_) (fun c_267 => ?_)
  · replace c_267 : mixing = 0 := c_267
    refine lv_iload hx hb dX0_mixColumn_108 (lv_at hl_266 3 rfl) ?_
    refine va_iast hx hb hK hP hD hS 1 0 rfl rfl (pk_andIn _ 4 (by decide) (by decide)) dX0_mixColumn_110 (fun H_268 locs_268 hP_268 hD_268 hS_268 => ?_)
    replace hP_268 : va_P E.1 vwCl [(h, .inr (2, [.ref qk, .ref qc, .ref qv, .ref qt, .int rd])), (qc, .inl (E.2.1, 16, .inl (upd cl ((column + 0) &&& 15).toNatClampNeg (mv ((column + 0) &&& 15).toNatClampNeg)))), (qv, .inl (E.2.1, 16, .inl mv))] H_268 := hP_268
    replace hD_268 : va_D A [(h, .inr (2, [.ref qk, .ref qc, .ref qv, .ref qt, .int rd])), (qc, .inl (E.2.1, 16, .inl (upd cl ((column + 0) &&& 15).toNatClampNeg (mv ((column + 0) &&& 15).toNatClampNeg)))), (qv, .inl (E.2.1, 16, .inl mv))] := hD_268
    clear hP hD hS
    refine lv_iinc (v := 1) (lv' := [(3, .int 1), (7, .int (mv ((column + 3) &&& 15).toNatClampNeg)), (6, .int (mv ((column + 2) &&& 15).toNatClampNeg)), (5, .int (mv ((column + 1) &&& 15).toNatClampNeg)), (4, .int (mv ((column + 0) &&& 15).toNatClampNeg)), (0, .ref h), (1, .int column), (2, .int mixing)]) hx hb dX0_mixColumn_111 hl_266 (k := 4) rfl (by decide) (by decide) rfl (fun ls_269 hl_269 => ?_)
    clear hl_266
    refine lv_goto (tgt := 2) hx hb dX0_mixColumn_114 (by decide) ?_
    refine lv_iload_n hx hb dX0_mixColumn_2 rfl (lv_at hl_269 0 rfl) ?_
    refine lv_iconst (v := 4) hx hb dX0_mixColumn_3 (by decide) ?_
    refine lv_icmp_ge (tgt := 117) hx hb dX0_mixColumn_4 (by decide) (fun c_270 => absurd c_270 (by decide)) (fun c_270 => ?_)
    refine lv_aload_n hx hb dX0_mixColumn_7 rfl (lv_at hl_269 5 rfl) ?_
    refine va_get (D := E.1) (ci := 2) (v := .ref qv) (C := RX0) (T := TX0) (N := 5) hx hb hts in_X0 hown hK hP_268 0 rfl rfl 2 (by decide) w_0 (fun _ h9 => h9) rfl dX0_mixColumn_8 ?_
    refine lv_iload_n hx hb dX0_mixColumn_11 rfl (lv_at hl_269 6 rfl) ?_
    refine lv_iload_n hx hb dX0_mixColumn_12 rfl (lv_at hl_269 0 rfl) ?_
    refine lv_iadd hx hb dX0_mixColumn_13 ?_
    refine lv_bipush (v := 15) hx hb dX0_mixColumn_14 (by decide) ?_
    refine lv_iand hx hb dX0_mixColumn_16 ?_
    refine va_iald hx hb hK hP_268 2 0 rfl rfl (pk_andIn _ 4 (by decide) (by decide)) dX0_mixColumn_17 ?_
    refine lv_istore (lv' := [(4, .int (mv ((column + 1) &&& 15).toNatClampNeg)), (3, .int 1), (7, .int (mv ((column + 3) &&& 15).toNatClampNeg)), (6, .int (mv ((column + 2) &&& 15).toNatClampNeg)), (5, .int (mv ((column + 1) &&& 15).toNatClampNeg)), (0, .ref h), (1, .int column), (2, .int mixing)]) hx hb dX0_mixColumn_18 hl_269 (by decide) rfl (fun ls_271 hl_271 => ?_)
    clear hl_269
    refine lv_aload_n hx hb dX0_mixColumn_20 rfl (lv_at hl_271 5 rfl) ?_
    refine va_get (D := E.1) (ci := 2) (v := .ref qv) (C := RX0) (T := TX0) (N := 5) hx hb hts in_X0 hown hK hP_268 0 rfl rfl 2 (by decide) w_0 (fun _ h9 => h9) rfl dX0_mixColumn_21 ?_
    refine lv_iload_n hx hb dX0_mixColumn_24 rfl (lv_at hl_271 6 rfl) ?_
    refine lv_iload_n hx hb dX0_mixColumn_25 rfl (lv_at hl_271 1 rfl) ?_
    refine lv_iconst (v := 1) hx hb dX0_mixColumn_26 (by decide) ?_
    refine lv_iadd hx hb dX0_mixColumn_27 ?_
    refine lv_topi (fun y_272 ey_272 => ?_)
    obtain rfl : y_272 = 2 := ey_272.trans (by decide)
    refine lv_iconst (v := 3) hx hb dX0_mixColumn_28 (by decide) ?_
    refine lv_iand hx hb dX0_mixColumn_29 ?_
    refine lv_topi (fun y_273 ey_273 => ?_)
    obtain rfl : y_273 = 2 := ey_273.trans (by decide)
    refine lv_iadd hx hb dX0_mixColumn_30 ?_
    refine lv_bipush (v := 15) hx hb dX0_mixColumn_31 (by decide) ?_
    refine lv_iand hx hb dX0_mixColumn_33 ?_
    refine va_iald hx hb hK hP_268 2 0 rfl rfl (pk_andIn _ 4 (by decide) (by decide)) dX0_mixColumn_34 ?_
    refine lv_istore (lv' := [(5, .int (mv ((column + 2) &&& 15).toNatClampNeg)), (4, .int (mv ((column + 1) &&& 15).toNatClampNeg)), (3, .int 1), (7, .int (mv ((column + 3) &&& 15).toNatClampNeg)), (6, .int (mv ((column + 2) &&& 15).toNatClampNeg)), (0, .ref h), (1, .int column), (2, .int mixing)]) hx hb dX0_mixColumn_35 hl_271 (by decide) rfl (fun ls_274 hl_274 => ?_)
    clear hl_271
    refine lv_aload_n hx hb dX0_mixColumn_37 rfl (lv_at hl_274 5 rfl) ?_
    refine va_get (D := E.1) (ci := 2) (v := .ref qv) (C := RX0) (T := TX0) (N := 5) hx hb hts in_X0 hown hK hP_268 0 rfl rfl 2 (by decide) w_0 (fun _ h9 => h9) rfl dX0_mixColumn_38 ?_
    refine lv_iload_n hx hb dX0_mixColumn_41 rfl (lv_at hl_274 6 rfl) ?_
    refine lv_iload_n hx hb dX0_mixColumn_42 rfl (lv_at hl_274 2 rfl) ?_
    refine lv_iconst (v := 2) hx hb dX0_mixColumn_43 (by decide) ?_
    refine lv_iadd hx hb dX0_mixColumn_44 ?_
    refine lv_topi (fun y_275 ey_275 => ?_)
    obtain rfl : y_275 = 3 := ey_275.trans (by decide)
    refine lv_iconst (v := 3) hx hb dX0_mixColumn_45 (by decide) ?_
    refine lv_iand hx hb dX0_mixColumn_46 ?_
    refine lv_topi (fun y_276 ey_276 => ?_)
    obtain rfl : y_276 = 3 := ey_276.trans (by decide)
    refine lv_iadd hx hb dX0_mixColumn_47 ?_
    refine lv_bipush (v := 15) hx hb dX0_mixColumn_48 (by decide) ?_
    refine lv_iand hx hb dX0_mixColumn_50 ?_
    refine va_iald hx hb hK hP_268 2 0 rfl rfl (pk_andIn _ 4 (by decide) (by decide)) dX0_mixColumn_51 ?_
    refine lv_istore (lv' := [(6, .int (mv ((column + 3) &&& 15).toNatClampNeg)), (5, .int (mv ((column + 2) &&& 15).toNatClampNeg)), (4, .int (mv ((column + 1) &&& 15).toNatClampNeg)), (3, .int 1), (7, .int (mv ((column + 3) &&& 15).toNatClampNeg)), (0, .ref h), (1, .int column), (2, .int mixing)]) hx hb dX0_mixColumn_52 hl_274 (by decide) rfl (fun ls_277 hl_277 => ?_)
    clear hl_274
    refine lv_aload_n hx hb dX0_mixColumn_54 rfl (lv_at hl_277 5 rfl) ?_
    refine va_get (D := E.1) (ci := 2) (v := .ref qv) (C := RX0) (T := TX0) (N := 5) hx hb hts in_X0 hown hK hP_268 0 rfl rfl 2 (by decide) w_0 (fun _ h9 => h9) rfl dX0_mixColumn_55 ?_
    refine lv_iload_n hx hb dX0_mixColumn_58 rfl (lv_at hl_277 6 rfl) ?_
    refine lv_iload_n hx hb dX0_mixColumn_59 rfl (lv_at hl_277 3 rfl) ?_
    refine lv_iconst (v := 3) hx hb dX0_mixColumn_60 (by decide) ?_
    refine lv_iadd hx hb dX0_mixColumn_61 ?_
    refine lv_topi (fun y_278 ey_278 => ?_)
    obtain rfl : y_278 = 4 := ey_278.trans (by decide)
    refine lv_iconst (v := 3) hx hb dX0_mixColumn_62 (by decide) ?_
    refine lv_iand hx hb dX0_mixColumn_63 ?_
    refine lv_topi (fun y_279 ey_279 => ?_)
    obtain rfl : y_279 = 0 := ey_279.trans (by decide)
    refine lv_iadd hx hb dX0_mixColumn_64 ?_
    refine lv_bipush (v := 15) hx hb dX0_mixColumn_65 (by decide) ?_
    refine lv_iand hx hb dX0_mixColumn_67 ?_
    refine va_iald hx hb hK hP_268 2 0 rfl rfl (pk_andIn _ 4 (by decide) (by decide)) dX0_mixColumn_68 ?_
    refine lv_istore (lv' := [(7, .int (mv ((column + 0) &&& 15).toNatClampNeg)), (6, .int (mv ((column + 3) &&& 15).toNatClampNeg)), (5, .int (mv ((column + 2) &&& 15).toNatClampNeg)), (4, .int (mv ((column + 1) &&& 15).toNatClampNeg)), (3, .int 1), (0, .ref h), (1, .int column), (2, .int mixing)]) hx hb dX0_mixColumn_69 hl_277 (by decide) rfl (fun ls_280 hl_280 => ?_)
    clear hl_277
    refine lv_aload_n hx hb dX0_mixColumn_71 rfl (lv_at hl_280 5 rfl) ?_
    refine va_get (D := E.1) (ci := 2) (v := .ref qc) (C := RX0) (T := TX0) (N := 5) hx hb hts in_X0 hown hK hP_268 0 rfl rfl 1 (by decide) w_1 (fun _ h9 => h9) rfl dX0_mixColumn_72 ?_
    refine lv_iload_n hx hb dX0_mixColumn_75 rfl (lv_at hl_280 6 rfl) ?_
    refine lv_iload_n hx hb dX0_mixColumn_76 rfl (lv_at hl_280 4 rfl) ?_
    refine lv_iadd hx hb dX0_mixColumn_77 ?_
    refine lv_bipush (v := 15) hx hb dX0_mixColumn_78 (by decide) ?_
    refine lv_iand hx hb dX0_mixColumn_80 ?_
    refine lv_iload_n hx hb dX0_mixColumn_81 rfl (lv_at hl_280 7 rfl) ?_
    refine lv_if_eq (tgt := 108) hx hb dX0_mixColumn_82 (by decide) (fun c_281 => ?_) (fun c_281 => absurd c_267 c_281)
    refine lv_iload hx hb dX0_mixColumn_108 (lv_at hl_280 3 rfl) ?_
    refine va_iast hx hb hK hP_268 hD_268 hS_268 1 0 rfl rfl (pk_andIn _ 4 (by decide) (by decide)) dX0_mixColumn_110 (fun H_282 locs_282 hP_282 hD_282 hS_282 => ?_)
    replace hP_282 : va_P E.1 vwCl [(h, .inr (2, [.ref qk, .ref qc, .ref qv, .ref qt, .int rd])), (qc, .inl (E.2.1, 16, .inl (upd (upd cl ((column + 0) &&& 15).toNatClampNeg (mv ((column + 0) &&& 15).toNatClampNeg)) ((column + 1) &&& 15).toNatClampNeg (mv ((column + 1) &&& 15).toNatClampNeg)))), (qv, .inl (E.2.1, 16, .inl mv))] H_282 := hP_282
    replace hD_282 : va_D A [(h, .inr (2, [.ref qk, .ref qc, .ref qv, .ref qt, .int rd])), (qc, .inl (E.2.1, 16, .inl (upd (upd cl ((column + 0) &&& 15).toNatClampNeg (mv ((column + 0) &&& 15).toNatClampNeg)) ((column + 1) &&& 15).toNatClampNeg (mv ((column + 1) &&& 15).toNatClampNeg)))), (qv, .inl (E.2.1, 16, .inl mv))] := hD_282
    clear hP_268 hD_268 hS_268
    refine lv_iinc (v := 2) (lv' := [(3, .int 2), (7, .int (mv ((column + 0) &&& 15).toNatClampNeg)), (6, .int (mv ((column + 3) &&& 15).toNatClampNeg)), (5, .int (mv ((column + 2) &&& 15).toNatClampNeg)), (4, .int (mv ((column + 1) &&& 15).toNatClampNeg)), (0, .ref h), (1, .int column), (2, .int mixing)]) hx hb dX0_mixColumn_111 hl_280 (k := 4) rfl (by decide) (by decide) rfl (fun ls_283 hl_283 => ?_)
    clear hl_280
    refine lv_goto (tgt := 2) hx hb dX0_mixColumn_114 (by decide) ?_
    refine lv_iload_n hx hb dX0_mixColumn_2 rfl (lv_at hl_283 0 rfl) ?_
    refine lv_iconst (v := 4) hx hb dX0_mixColumn_3 (by decide) ?_
    refine lv_icmp_ge (tgt := 117) hx hb dX0_mixColumn_4 (by decide) (fun c_284 => absurd c_284 (by decide)) (fun c_284 => ?_)
    refine lv_aload_n hx hb dX0_mixColumn_7 rfl (lv_at hl_283 5 rfl) ?_
    refine va_get (D := E.1) (ci := 2) (v := .ref qv) (C := RX0) (T := TX0) (N := 5) hx hb hts in_X0 hown hK hP_282 0 rfl rfl 2 (by decide) w_0 (fun _ h9 => h9) rfl dX0_mixColumn_8 ?_
    refine lv_iload_n hx hb dX0_mixColumn_11 rfl (lv_at hl_283 6 rfl) ?_
    refine lv_iload_n hx hb dX0_mixColumn_12 rfl (lv_at hl_283 0 rfl) ?_
    refine lv_iadd hx hb dX0_mixColumn_13 ?_
    refine lv_bipush (v := 15) hx hb dX0_mixColumn_14 (by decide) ?_
    refine lv_iand hx hb dX0_mixColumn_16 ?_
    refine va_iald hx hb hK hP_282 2 0 rfl rfl (pk_andIn _ 4 (by decide) (by decide)) dX0_mixColumn_17 ?_
    refine lv_istore (lv' := [(4, .int (mv ((column + 2) &&& 15).toNatClampNeg)), (3, .int 2), (7, .int (mv ((column + 0) &&& 15).toNatClampNeg)), (6, .int (mv ((column + 3) &&& 15).toNatClampNeg)), (5, .int (mv ((column + 2) &&& 15).toNatClampNeg)), (0, .ref h), (1, .int column), (2, .int mixing)]) hx hb dX0_mixColumn_18 hl_283 (by decide) rfl (fun ls_285 hl_285 => ?_)
    clear hl_283
    refine lv_aload_n hx hb dX0_mixColumn_20 rfl (lv_at hl_285 5 rfl) ?_
    refine va_get (D := E.1) (ci := 2) (v := .ref qv) (C := RX0) (T := TX0) (N := 5) hx hb hts in_X0 hown hK hP_282 0 rfl rfl 2 (by decide) w_0 (fun _ h9 => h9) rfl dX0_mixColumn_21 ?_
    refine lv_iload_n hx hb dX0_mixColumn_24 rfl (lv_at hl_285 6 rfl) ?_
    refine lv_iload_n hx hb dX0_mixColumn_25 rfl (lv_at hl_285 1 rfl) ?_
    refine lv_iconst (v := 1) hx hb dX0_mixColumn_26 (by decide) ?_
    refine lv_iadd hx hb dX0_mixColumn_27 ?_
    refine lv_topi (fun y_286 ey_286 => ?_)
    obtain rfl : y_286 = 3 := ey_286.trans (by decide)
    refine lv_iconst (v := 3) hx hb dX0_mixColumn_28 (by decide) ?_
    refine lv_iand hx hb dX0_mixColumn_29 ?_
    refine lv_topi (fun y_287 ey_287 => ?_)
    obtain rfl : y_287 = 3 := ey_287.trans (by decide)
    refine lv_iadd hx hb dX0_mixColumn_30 ?_
    refine lv_bipush (v := 15) hx hb dX0_mixColumn_31 (by decide) ?_
    refine lv_iand hx hb dX0_mixColumn_33 ?_
    refine va_iald hx hb hK hP_282 2 0 rfl rfl (pk_andIn _ 4 (by decide) (by decide)) dX0_mixColumn_34 ?_
    refine lv_istore (lv' := [(5, .int (mv ((column + 3) &&& 15).toNatClampNeg)), (4, .int (mv ((column + 2) &&& 15).toNatClampNeg)), (3, .int 2), (7, .int (mv ((column + 0) &&& 15).toNatClampNeg)), (6, .int (mv ((column + 3) &&& 15).toNatClampNeg)), (0, .ref h), (1, .int column), (2, .int mixing)]) hx hb dX0_mixColumn_35 hl_285 (by decide) rfl (fun ls_288 hl_288 => ?_)
    clear hl_285
    refine lv_aload_n hx hb dX0_mixColumn_37 rfl (lv_at hl_288 5 rfl) ?_
    refine va_get (D := E.1) (ci := 2) (v := .ref qv) (C := RX0) (T := TX0) (N := 5) hx hb hts in_X0 hown hK hP_282 0 rfl rfl 2 (by decide) w_0 (fun _ h9 => h9) rfl dX0_mixColumn_38 ?_
    refine lv_iload_n hx hb dX0_mixColumn_41 rfl (lv_at hl_288 6 rfl) ?_
    refine lv_iload_n hx hb dX0_mixColumn_42 rfl (lv_at hl_288 2 rfl) ?_
    refine lv_iconst (v := 2) hx hb dX0_mixColumn_43 (by decide) ?_
    refine lv_iadd hx hb dX0_mixColumn_44 ?_
    refine lv_topi (fun y_289 ey_289 => ?_)
    obtain rfl : y_289 = 4 := ey_289.trans (by decide)
    refine lv_iconst (v := 3) hx hb dX0_mixColumn_45 (by decide) ?_
    refine lv_iand hx hb dX0_mixColumn_46 ?_
    refine lv_topi (fun y_290 ey_290 => ?_)
    obtain rfl : y_290 = 0 := ey_290.trans (by decide)
    refine lv_iadd hx hb dX0_mixColumn_47 ?_
    refine lv_bipush (v := 15) hx hb dX0_mixColumn_48 (by decide) ?_
    refine lv_iand hx hb dX0_mixColumn_50 ?_
    refine va_iald hx hb hK hP_282 2 0 rfl rfl (pk_andIn _ 4 (by decide) (by decide)) dX0_mixColumn_51 ?_
    refine lv_istore (lv' := [(6, .int (mv ((column + 0) &&& 15).toNatClampNeg)), (5, .int (mv ((column + 3) &&& 15).toNatClampNeg)), (4, .int (mv ((column + 2) &&& 15).toNatClampNeg)), (3, .int 2), (7, .int (mv ((column + 0) &&& 15).toNatClampNeg)), (0, .ref h), (1, .int column), (2, .int mixing)]) hx hb dX0_mixColumn_52 hl_288 (by decide) rfl (fun ls_291 hl_291 => ?_)
    clear hl_288
    refine lv_aload_n hx hb dX0_mixColumn_54 rfl (lv_at hl_291 5 rfl) ?_
    refine va_get (D := E.1) (ci := 2) (v := .ref qv) (C := RX0) (T := TX0) (N := 5) hx hb hts in_X0 hown hK hP_282 0 rfl rfl 2 (by decide) w_0 (fun _ h9 => h9) rfl dX0_mixColumn_55 ?_
    refine lv_iload_n hx hb dX0_mixColumn_58 rfl (lv_at hl_291 6 rfl) ?_
    refine lv_iload_n hx hb dX0_mixColumn_59 rfl (lv_at hl_291 3 rfl) ?_
    refine lv_iconst (v := 3) hx hb dX0_mixColumn_60 (by decide) ?_
    refine lv_iadd hx hb dX0_mixColumn_61 ?_
    refine lv_topi (fun y_292 ey_292 => ?_)
    obtain rfl : y_292 = 5 := ey_292.trans (by decide)
    refine lv_iconst (v := 3) hx hb dX0_mixColumn_62 (by decide) ?_
    refine lv_iand hx hb dX0_mixColumn_63 ?_
    refine lv_topi (fun y_293 ey_293 => ?_)
    obtain rfl : y_293 = 1 := ey_293.trans (by decide)
    refine lv_iadd hx hb dX0_mixColumn_64 ?_
    refine lv_bipush (v := 15) hx hb dX0_mixColumn_65 (by decide) ?_
    refine lv_iand hx hb dX0_mixColumn_67 ?_
    refine va_iald hx hb hK hP_282 2 0 rfl rfl (pk_andIn _ 4 (by decide) (by decide)) dX0_mixColumn_68 ?_
    refine lv_istore (lv' := [(7, .int (mv ((column + 1) &&& 15).toNatClampNeg)), (6, .int (mv ((column + 0) &&& 15).toNatClampNeg)), (5, .int (mv ((column + 3) &&& 15).toNatClampNeg)), (4, .int (mv ((column + 2) &&& 15).toNatClampNeg)), (3, .int 2), (0, .ref h), (1, .int column), (2, .int mixing)]) hx hb dX0_mixColumn_69 hl_291 (by decide) rfl (fun ls_294 hl_294 => ?_)
    clear hl_291
    refine lv_aload_n hx hb dX0_mixColumn_71 rfl (lv_at hl_294 5 rfl) ?_
    refine va_get (D := E.1) (ci := 2) (v := .ref qc) (C := RX0) (T := TX0) (N := 5) hx hb hts in_X0 hown hK hP_282 0 rfl rfl 1 (by decide) w_1 (fun _ h9 => h9) rfl dX0_mixColumn_72 ?_
    refine lv_iload_n hx hb dX0_mixColumn_75 rfl (lv_at hl_294 6 rfl) ?_
    refine lv_iload_n hx hb dX0_mixColumn_76 rfl (lv_at hl_294 4 rfl) ?_
    refine lv_iadd hx hb dX0_mixColumn_77 ?_
    refine lv_bipush (v := 15) hx hb dX0_mixColumn_78 (by decide) ?_
    refine lv_iand hx hb dX0_mixColumn_80 ?_
    refine lv_iload_n hx hb dX0_mixColumn_81 rfl (lv_at hl_294 7 rfl) ?_
    refine lv_if_eq (tgt := 108) hx hb dX0_mixColumn_82 (by decide) (fun c_295 => ?_) (fun c_295 => absurd c_267 c_295)
    refine lv_iload hx hb dX0_mixColumn_108 (lv_at hl_294 3 rfl) ?_
    refine va_iast hx hb hK hP_282 hD_282 hS_282 1 0 rfl rfl (pk_andIn _ 4 (by decide) (by decide)) dX0_mixColumn_110 (fun H_296 locs_296 hP_296 hD_296 hS_296 => ?_)
    replace hP_296 : va_P E.1 vwCl [(h, .inr (2, [.ref qk, .ref qc, .ref qv, .ref qt, .int rd])), (qc, .inl (E.2.1, 16, .inl (upd (upd (upd cl ((column + 0) &&& 15).toNatClampNeg (mv ((column + 0) &&& 15).toNatClampNeg)) ((column + 1) &&& 15).toNatClampNeg (mv ((column + 1) &&& 15).toNatClampNeg)) ((column + 2) &&& 15).toNatClampNeg (mv ((column + 2) &&& 15).toNatClampNeg)))), (qv, .inl (E.2.1, 16, .inl mv))] H_296 := hP_296
    replace hD_296 : va_D A [(h, .inr (2, [.ref qk, .ref qc, .ref qv, .ref qt, .int rd])), (qc, .inl (E.2.1, 16, .inl (upd (upd (upd cl ((column + 0) &&& 15).toNatClampNeg (mv ((column + 0) &&& 15).toNatClampNeg)) ((column + 1) &&& 15).toNatClampNeg (mv ((column + 1) &&& 15).toNatClampNeg)) ((column + 2) &&& 15).toNatClampNeg (mv ((column + 2) &&& 15).toNatClampNeg)))), (qv, .inl (E.2.1, 16, .inl mv))] := hD_296
    clear hP_282 hD_282 hS_282
    refine lv_iinc (v := 3) (lv' := [(3, .int 3), (7, .int (mv ((column + 1) &&& 15).toNatClampNeg)), (6, .int (mv ((column + 0) &&& 15).toNatClampNeg)), (5, .int (mv ((column + 3) &&& 15).toNatClampNeg)), (4, .int (mv ((column + 2) &&& 15).toNatClampNeg)), (0, .ref h), (1, .int column), (2, .int mixing)]) hx hb dX0_mixColumn_111 hl_294 (k := 4) rfl (by decide) (by decide) rfl (fun ls_297 hl_297 => ?_)
    clear hl_294
    refine lv_goto (tgt := 2) hx hb dX0_mixColumn_114 (by decide) ?_
    refine lv_iload_n hx hb dX0_mixColumn_2 rfl (lv_at hl_297 0 rfl) ?_
    refine lv_iconst (v := 4) hx hb dX0_mixColumn_3 (by decide) ?_
    refine lv_icmp_ge (tgt := 117) hx hb dX0_mixColumn_4 (by decide) (fun c_298 => absurd c_298 (by decide)) (fun c_298 => ?_)
    refine lv_aload_n hx hb dX0_mixColumn_7 rfl (lv_at hl_297 5 rfl) ?_
    refine va_get (D := E.1) (ci := 2) (v := .ref qv) (C := RX0) (T := TX0) (N := 5) hx hb hts in_X0 hown hK hP_296 0 rfl rfl 2 (by decide) w_0 (fun _ h9 => h9) rfl dX0_mixColumn_8 ?_
    refine lv_iload_n hx hb dX0_mixColumn_11 rfl (lv_at hl_297 6 rfl) ?_
    refine lv_iload_n hx hb dX0_mixColumn_12 rfl (lv_at hl_297 0 rfl) ?_
    refine lv_iadd hx hb dX0_mixColumn_13 ?_
    refine lv_bipush (v := 15) hx hb dX0_mixColumn_14 (by decide) ?_
    refine lv_iand hx hb dX0_mixColumn_16 ?_
    refine va_iald hx hb hK hP_296 2 0 rfl rfl (pk_andIn _ 4 (by decide) (by decide)) dX0_mixColumn_17 ?_
    refine lv_istore (lv' := [(4, .int (mv ((column + 3) &&& 15).toNatClampNeg)), (3, .int 3), (7, .int (mv ((column + 1) &&& 15).toNatClampNeg)), (6, .int (mv ((column + 0) &&& 15).toNatClampNeg)), (5, .int (mv ((column + 3) &&& 15).toNatClampNeg)), (0, .ref h), (1, .int column), (2, .int mixing)]) hx hb dX0_mixColumn_18 hl_297 (by decide) rfl (fun ls_299 hl_299 => ?_)
    clear hl_297
    refine lv_aload_n hx hb dX0_mixColumn_20 rfl (lv_at hl_299 5 rfl) ?_
    refine va_get (D := E.1) (ci := 2) (v := .ref qv) (C := RX0) (T := TX0) (N := 5) hx hb hts in_X0 hown hK hP_296 0 rfl rfl 2 (by decide) w_0 (fun _ h9 => h9) rfl dX0_mixColumn_21 ?_
    refine lv_iload_n hx hb dX0_mixColumn_24 rfl (lv_at hl_299 6 rfl) ?_
    refine lv_iload_n hx hb dX0_mixColumn_25 rfl (lv_at hl_299 1 rfl) ?_
    refine lv_iconst (v := 1) hx hb dX0_mixColumn_26 (by decide) ?_
    refine lv_iadd hx hb dX0_mixColumn_27 ?_
    refine lv_topi (fun y_300 ey_300 => ?_)
    obtain rfl : y_300 = 4 := ey_300.trans (by decide)
    refine lv_iconst (v := 3) hx hb dX0_mixColumn_28 (by decide) ?_
    refine lv_iand hx hb dX0_mixColumn_29 ?_
    refine lv_topi (fun y_301 ey_301 => ?_)
    obtain rfl : y_301 = 0 := ey_301.trans (by decide)
    refine lv_iadd hx hb dX0_mixColumn_30 ?_
    refine lv_bipush (v := 15) hx hb dX0_mixColumn_31 (by decide) ?_
    refine lv_iand hx hb dX0_mixColumn_33 ?_
    refine va_iald hx hb hK hP_296 2 0 rfl rfl (pk_andIn _ 4 (by decide) (by decide)) dX0_mixColumn_34 ?_
    refine lv_istore (lv' := [(5, .int (mv ((column + 0) &&& 15).toNatClampNeg)), (4, .int (mv ((column + 3) &&& 15).toNatClampNeg)), (3, .int 3), (7, .int (mv ((column + 1) &&& 15).toNatClampNeg)), (6, .int (mv ((column + 0) &&& 15).toNatClampNeg)), (0, .ref h), (1, .int column), (2, .int mixing)]) hx hb dX0_mixColumn_35 hl_299 (by decide) rfl (fun ls_302 hl_302 => ?_)
    clear hl_299
    refine lv_aload_n hx hb dX0_mixColumn_37 rfl (lv_at hl_302 5 rfl) ?_
    refine va_get (D := E.1) (ci := 2) (v := .ref qv) (C := RX0) (T := TX0) (N := 5) hx hb hts in_X0 hown hK hP_296 0 rfl rfl 2 (by decide) w_0 (fun _ h9 => h9) rfl dX0_mixColumn_38 ?_
    refine lv_iload_n hx hb dX0_mixColumn_41 rfl (lv_at hl_302 6 rfl) ?_
    refine lv_iload_n hx hb dX0_mixColumn_42 rfl (lv_at hl_302 2 rfl) ?_
    refine lv_iconst (v := 2) hx hb dX0_mixColumn_43 (by decide) ?_
    refine lv_iadd hx hb dX0_mixColumn_44 ?_
    refine lv_topi (fun y_303 ey_303 => ?_)
    obtain rfl : y_303 = 5 := ey_303.trans (by decide)
    refine lv_iconst (v := 3) hx hb dX0_mixColumn_45 (by decide) ?_
    refine lv_iand hx hb dX0_mixColumn_46 ?_
    refine lv_topi (fun y_304 ey_304 => ?_)
    obtain rfl : y_304 = 1 := ey_304.trans (by decide)
    refine lv_iadd hx hb dX0_mixColumn_47 ?_
    refine lv_bipush (v := 15) hx hb dX0_mixColumn_48 (by decide) ?_
    refine lv_iand hx hb dX0_mixColumn_50 ?_
    refine va_iald hx hb hK hP_296 2 0 rfl rfl (pk_andIn _ 4 (by decide) (by decide)) dX0_mixColumn_51 ?_
    refine lv_istore (lv' := [(6, .int (mv ((column + 1) &&& 15).toNatClampNeg)), (5, .int (mv ((column + 0) &&& 15).toNatClampNeg)), (4, .int (mv ((column + 3) &&& 15).toNatClampNeg)), (3, .int 3), (7, .int (mv ((column + 1) &&& 15).toNatClampNeg)), (0, .ref h), (1, .int column), (2, .int mixing)]) hx hb dX0_mixColumn_52 hl_302 (by decide) rfl (fun ls_305 hl_305 => ?_)
    clear hl_302
    refine lv_aload_n hx hb dX0_mixColumn_54 rfl (lv_at hl_305 5 rfl) ?_
    refine va_get (D := E.1) (ci := 2) (v := .ref qv) (C := RX0) (T := TX0) (N := 5) hx hb hts in_X0 hown hK hP_296 0 rfl rfl 2 (by decide) w_0 (fun _ h9 => h9) rfl dX0_mixColumn_55 ?_
    refine lv_iload_n hx hb dX0_mixColumn_58 rfl (lv_at hl_305 6 rfl) ?_
    refine lv_iload_n hx hb dX0_mixColumn_59 rfl (lv_at hl_305 3 rfl) ?_
    refine lv_iconst (v := 3) hx hb dX0_mixColumn_60 (by decide) ?_
    refine lv_iadd hx hb dX0_mixColumn_61 ?_
    refine lv_topi (fun y_306 ey_306 => ?_)
    obtain rfl : y_306 = 6 := ey_306.trans (by decide)
    refine lv_iconst (v := 3) hx hb dX0_mixColumn_62 (by decide) ?_
    refine lv_iand hx hb dX0_mixColumn_63 ?_
    refine lv_topi (fun y_307 ey_307 => ?_)
    obtain rfl : y_307 = 2 := ey_307.trans (by decide)
    refine lv_iadd hx hb dX0_mixColumn_64 ?_
    refine lv_bipush (v := 15) hx hb dX0_mixColumn_65 (by decide) ?_
    refine lv_iand hx hb dX0_mixColumn_67 ?_
    refine va_iald hx hb hK hP_296 2 0 rfl rfl (pk_andIn _ 4 (by decide) (by decide)) dX0_mixColumn_68 ?_
    refine lv_istore (lv' := [(7, .int (mv ((column + 2) &&& 15).toNatClampNeg)), (6, .int (mv ((column + 1) &&& 15).toNatClampNeg)), (5, .int (mv ((column + 0) &&& 15).toNatClampNeg)), (4, .int (mv ((column + 3) &&& 15).toNatClampNeg)), (3, .int 3), (0, .ref h), (1, .int column), (2, .int mixing)]) hx hb dX0_mixColumn_69 hl_305 (by decide) rfl (fun ls_308 hl_308 => ?_)
    clear hl_305
    refine lv_aload_n hx hb dX0_mixColumn_71 rfl (lv_at hl_308 5 rfl) ?_
    refine va_get (D := E.1) (ci := 2) (v := .ref qc) (C := RX0) (T := TX0) (N := 5) hx hb hts in_X0 hown hK hP_296 0 rfl rfl 1 (by decide) w_1 (fun _ h9 => h9) rfl dX0_mixColumn_72 ?_
    refine lv_iload_n hx hb dX0_mixColumn_75 rfl (lv_at hl_308 6 rfl) ?_
    refine lv_iload_n hx hb dX0_mixColumn_76 rfl (lv_at hl_308 4 rfl) ?_
    refine lv_iadd hx hb dX0_mixColumn_77 ?_
    refine lv_bipush (v := 15) hx hb dX0_mixColumn_78 (by decide) ?_
    refine lv_iand hx hb dX0_mixColumn_80 ?_
    refine lv_iload_n hx hb dX0_mixColumn_81 rfl (lv_at hl_308 7 rfl) ?_
    refine lv_if_eq (tgt := 108) hx hb dX0_mixColumn_82 (by decide) (fun c_309 => ?_) (fun c_309 => absurd c_267 c_309)
    refine lv_iload hx hb dX0_mixColumn_108 (lv_at hl_308 3 rfl) ?_
    refine va_iast hx hb hK hP_296 hD_296 hS_296 1 0 rfl rfl (pk_andIn _ 4 (by decide) (by decide)) dX0_mixColumn_110 (fun H_310 locs_310 hP_310 hD_310 hS_310 => ?_)
    replace hP_310 : va_P E.1 vwCl [(h, .inr (2, [.ref qk, .ref qc, .ref qv, .ref qt, .int rd])), (qc, .inl (E.2.1, 16, .inl (upd (upd (upd (upd cl ((column + 0) &&& 15).toNatClampNeg (mv ((column + 0) &&& 15).toNatClampNeg)) ((column + 1) &&& 15).toNatClampNeg (mv ((column + 1) &&& 15).toNatClampNeg)) ((column + 2) &&& 15).toNatClampNeg (mv ((column + 2) &&& 15).toNatClampNeg)) ((column + 3) &&& 15).toNatClampNeg (mv ((column + 3) &&& 15).toNatClampNeg)))), (qv, .inl (E.2.1, 16, .inl mv))] H_310 := hP_310
    replace hD_310 : va_D A [(h, .inr (2, [.ref qk, .ref qc, .ref qv, .ref qt, .int rd])), (qc, .inl (E.2.1, 16, .inl (upd (upd (upd (upd cl ((column + 0) &&& 15).toNatClampNeg (mv ((column + 0) &&& 15).toNatClampNeg)) ((column + 1) &&& 15).toNatClampNeg (mv ((column + 1) &&& 15).toNatClampNeg)) ((column + 2) &&& 15).toNatClampNeg (mv ((column + 2) &&& 15).toNatClampNeg)) ((column + 3) &&& 15).toNatClampNeg (mv ((column + 3) &&& 15).toNatClampNeg)))), (qv, .inl (E.2.1, 16, .inl mv))] := hD_310
    clear hP_296 hD_296 hS_296
    refine lv_iinc (v := 4) (lv' := [(3, .int 4), (7, .int (mv ((column + 2) &&& 15).toNatClampNeg)), (6, .int (mv ((column + 1) &&& 15).toNatClampNeg)), (5, .int (mv ((column + 0) &&& 15).toNatClampNeg)), (4, .int (mv ((column + 3) &&& 15).toNatClampNeg)), (0, .ref h), (1, .int column), (2, .int mixing)]) hx hb dX0_mixColumn_111 hl_308 (k := 4) rfl (by decide) (by decide) rfl (fun ls_311 hl_311 => ?_)
    clear hl_308
    refine lv_goto (tgt := 2) hx hb dX0_mixColumn_114 (by decide) ?_
    refine lv_iload_n hx hb dX0_mixColumn_2 rfl (lv_at hl_311 0 rfl) ?_
    refine lv_iconst (v := 4) hx hb dX0_mixColumn_3 (by decide) ?_
    refine lv_icmp_ge (tgt := 117) hx hb dX0_mixColumn_4 (by decide) (fun c_312 => ?_) (fun c_312 => absurd (by decide) c_312)
    have hpost : ((upd (upd (upd (upd cl ((column + 0) &&& 15).toNatClampNeg (mv ((column + 0) &&& 15).toNatClampNeg)) ((column + 1) &&& 15).toNatClampNeg (mv ((column + 1) &&& 15).toNatClampNeg)) ((column + 2) &&& 15).toNatClampNeg (mv ((column + 2) &&& 15).toNatClampNeg)) ((column + 3) &&& 15).toNatClampNeg (mv ((column + 3) &&& 15).toNatClampNeg)) : Nat → Int32) = F_X0_mixColumn cl mv column mixing := (show F_X0_mixColumn cl mv column mixing = ((upd (upd (upd (upd cl ((column + 0) &&& 15).toNatClampNeg (mv ((column + 0) &&& 15).toNatClampNeg)) ((column + 1) &&& 15).toNatClampNeg (mv ((column + 1) &&& 15).toNatClampNeg)) ((column + 2) &&& 15).toNatClampNeg (mv ((column + 2) &&& 15).toNatClampNeg)) ((column + 3) &&& 15).toNatClampNeg (mv ((column + 3) &&& 15).toNatClampNeg)) : Nat → Int32) from ((if_pos c_267).trans rfl)).symm
    have hP9 := hP_310.sub (ws' := [(h, .inr (2, [.ref qk, .ref qc, .ref qv, .ref qt, .int rd])), (qc, .inl (E.2.1, 16, .inl (upd (upd (upd (upd cl ((column + 0) &&& 15).toNatClampNeg (mv ((column + 0) &&& 15).toNatClampNeg)) ((column + 1) &&& 15).toNatClampNeg (mv ((column + 1) &&& 15).toNatClampNeg)) ((column + 2) &&& 15).toNatClampNeg (mv ((column + 2) &&& 15).toNatClampNeg)) ((column + 3) &&& 15).toNatClampNeg (mv ((column + 3) &&& 15).toNatClampNeg)))), (qv, .inl (E.2.1, 16, .inl mv))]) [0, 1, 2] rfl
    have hD9 := hD_310.sub (ws' := [(h, .inr (2, [.ref qk, .ref qc, .ref qv, .ref qt, .int rd])), (qc, .inl (E.2.1, 16, .inl (upd (upd (upd (upd cl ((column + 0) &&& 15).toNatClampNeg (mv ((column + 0) &&& 15).toNatClampNeg)) ((column + 1) &&& 15).toNatClampNeg (mv ((column + 1) &&& 15).toNatClampNeg)) ((column + 2) &&& 15).toNatClampNeg (mv ((column + 2) &&& 15).toNatClampNeg)) ((column + 3) &&& 15).toNatClampNeg (mv ((column + 3) &&& 15).toNatClampNeg)))), (qv, .inl (E.2.1, 16, .inl mv))]) [0, 1, 2] (by decide) rfl
    exact W.vret hx hb hr (fun t ht hW => ⟨⟨(upd (upd (upd (upd cl ((column + 0) &&& 15).toNatClampNeg (mv ((column + 0) &&& 15).toNatClampNeg)) ((column + 1) &&& 15).toNatClampNeg (mv ((column + 1) &&& 15).toNatClampNeg)) ((column + 2) &&& 15).toNatClampNeg (mv ((column + 2) &&& 15).toNatClampNeg)) ((column + 3) &&& 15).toNatClampNeg (mv ((column + 3) &&& 15).toNatClampNeg)), rfl, hpost, by rw [ht]; exact hP9, hD9⟩, hS_310.F ht⟩) hS_310.2.2 dX0_mixColumn_117
  · replace c_267 : ¬ (mixing = 0) := c_267
    refine lv_iload hx hb dX0_mixColumn_85 (lv_at hl_266 3 rfl) ?_
    refine gSi hF hl_266 hV hP hD hS hA [] [0, 1, 2] (wc := []) (wr := [(h, .inr (2, [.ref qk, .ref qc, .ref qv, .ref qt, .int rd])), (qc, .inl (E.2.1, 16, .inl cl)), (qv, .inl (E.2.1, 16, .inl mv))]) rfl rfl rfl (by decide) (k_X0_twice E l (mv ((column + 0) &&& 15).toNatClampNeg)) (va_cwS 1 hts gX0_mixColumn_X0_twice rfl rfl rfl (by decide +kernel) ⟨Nat.le_of_ble_eq_true rfl, Nat.le_of_ble_eq_true rfl⟩) rfl rfl (Nat.le_of_ble_eq_true rfl) dX0_mixColumn_87 ⟨Nat.le_of_ble_eq_true rfl, Nat.le_of_ble_eq_true rfl⟩ (fun r_313 _ H_314 locs_314 hu_313 hP_314 hD_314 hS_314 => ?_)
    have er_313 : r_313 = F_X0_twice (mv ((column + 0) &&& 15).toNatClampNeg) := hu_313
    clear hu_313
    replace hP_314 : va_P E.1 vwCl [(h, .inr (2, [.ref qk, .ref qc, .ref qv, .ref qt, .int rd])), (qc, .inl (E.2.1, 16, .inl cl)), (qv, .inl (E.2.1, 16, .inl mv))] H_314 := hP_314
    replace hD_314 : va_D A [(h, .inr (2, [.ref qk, .ref qc, .ref qv, .ref qt, .int rd])), (qc, .inl (E.2.1, 16, .inl cl)), (qv, .inl (E.2.1, 16, .inl mv))] := hD_314
    clear hP hD hS
    refine lv_iload hx hb dX0_mixColumn_90 (lv_at hl_266 2 rfl) ?_
    refine gSi hF hl_266 hV hP_314 hD_314 hS_314 hA [] [0, 1, 2] (wc := []) (wr := [(h, .inr (2, [.ref qk, .ref qc, .ref qv, .ref qt, .int rd])), (qc, .inl (E.2.1, 16, .inl cl)), (qv, .inl (E.2.1, 16, .inl mv))]) rfl rfl rfl (by decide) (k_X0_twice E l (mv ((column + 1) &&& 15).toNatClampNeg)) (va_cwS 1 hts gX0_mixColumn_X0_twice rfl rfl rfl (by decide +kernel) ⟨Nat.le_of_ble_eq_true rfl, Nat.le_of_ble_eq_true rfl⟩) rfl rfl (Nat.le_of_ble_eq_true rfl) dX0_mixColumn_92 ⟨Nat.le_of_ble_eq_true rfl, Nat.le_of_ble_eq_true rfl⟩ (fun r_315 _ H_316 locs_316 hu_315 hP_316 hD_316 hS_316 => ?_)
    have er_315 : r_315 = F_X0_twice (mv ((column + 1) &&& 15).toNatClampNeg) := hu_315
    clear hu_315
    replace hP_316 : va_P E.1 vwCl [(h, .inr (2, [.ref qk, .ref qc, .ref qv, .ref qt, .int rd])), (qc, .inl (E.2.1, 16, .inl cl)), (qv, .inl (E.2.1, 16, .inl mv))] H_316 := hP_316
    replace hD_316 : va_D A [(h, .inr (2, [.ref qk, .ref qc, .ref qv, .ref qt, .int rd])), (qc, .inl (E.2.1, 16, .inl cl)), (qv, .inl (E.2.1, 16, .inl mv))] := hD_316
    clear hP_314 hD_314 hS_314
    refine lv_ixor hx hb dX0_mixColumn_95 ?_
    refine lv_iload hx hb dX0_mixColumn_96 (lv_at hl_266 2 rfl) ?_
    refine lv_ixor hx hb dX0_mixColumn_98 ?_
    refine lv_topi (fun v_317 ev_317 => ?_)
    refine lv_iload hx hb dX0_mixColumn_99 (lv_at hl_266 1 rfl) ?_
    refine lv_ixor hx hb dX0_mixColumn_101 ?_
    refine lv_iload hx hb dX0_mixColumn_102 (lv_at hl_266 0 rfl) ?_
    refine lv_ixor hx hb dX0_mixColumn_104 ?_
    refine lv_topi (fun v_318 ev_318 => ?_)
    refine lv_goto (tgt := 110) hx hb dX0_mixColumn_105 (by decide) ?_
    refine va_iast hx hb hK hP_316 hD_316 hS_316 1 0 rfl rfl (pk_andIn _ 4 (by decide) (by decide)) dX0_mixColumn_110 (fun H_319 locs_319 hP_319 hD_319 hS_319 => ?_)
    replace hP_319 : va_P E.1 vwCl [(h, .inr (2, [.ref qk, .ref qc, .ref qv, .ref qt, .int rd])), (qc, .inl (E.2.1, 16, .inl (upd cl ((column + 0) &&& 15).toNatClampNeg v_318))), (qv, .inl (E.2.1, 16, .inl mv))] H_319 := hP_319
    replace hD_319 : va_D A [(h, .inr (2, [.ref qk, .ref qc, .ref qv, .ref qt, .int rd])), (qc, .inl (E.2.1, 16, .inl (upd cl ((column + 0) &&& 15).toNatClampNeg v_318))), (qv, .inl (E.2.1, 16, .inl mv))] := hD_319
    clear hP_316 hD_316 hS_316
    refine lv_iinc (v := 1) (lv' := [(3, .int 1), (7, .int (mv ((column + 3) &&& 15).toNatClampNeg)), (6, .int (mv ((column + 2) &&& 15).toNatClampNeg)), (5, .int (mv ((column + 1) &&& 15).toNatClampNeg)), (4, .int (mv ((column + 0) &&& 15).toNatClampNeg)), (0, .ref h), (1, .int column), (2, .int mixing)]) hx hb dX0_mixColumn_111 hl_266 (k := 4) rfl (by decide) (by decide) rfl (fun ls_320 hl_320 => ?_)
    clear hl_266
    refine lv_goto (tgt := 2) hx hb dX0_mixColumn_114 (by decide) ?_
    refine lv_iload_n hx hb dX0_mixColumn_2 rfl (lv_at hl_320 0 rfl) ?_
    refine lv_iconst (v := 4) hx hb dX0_mixColumn_3 (by decide) ?_
    refine lv_icmp_ge (tgt := 117) hx hb dX0_mixColumn_4 (by decide) (fun c_321 => absurd c_321 (by decide)) (fun c_321 => ?_)
    refine lv_aload_n hx hb dX0_mixColumn_7 rfl (lv_at hl_320 5 rfl) ?_
    refine va_get (D := E.1) (ci := 2) (v := .ref qv) (C := RX0) (T := TX0) (N := 5) hx hb hts in_X0 hown hK hP_319 0 rfl rfl 2 (by decide) w_0 (fun _ h9 => h9) rfl dX0_mixColumn_8 ?_
    refine lv_iload_n hx hb dX0_mixColumn_11 rfl (lv_at hl_320 6 rfl) ?_
    refine lv_iload_n hx hb dX0_mixColumn_12 rfl (lv_at hl_320 0 rfl) ?_
    refine lv_iadd hx hb dX0_mixColumn_13 ?_
    refine lv_bipush (v := 15) hx hb dX0_mixColumn_14 (by decide) ?_
    refine lv_iand hx hb dX0_mixColumn_16 ?_
    refine va_iald hx hb hK hP_319 2 0 rfl rfl (pk_andIn _ 4 (by decide) (by decide)) dX0_mixColumn_17 ?_
    refine lv_istore (lv' := [(4, .int (mv ((column + 1) &&& 15).toNatClampNeg)), (3, .int 1), (7, .int (mv ((column + 3) &&& 15).toNatClampNeg)), (6, .int (mv ((column + 2) &&& 15).toNatClampNeg)), (5, .int (mv ((column + 1) &&& 15).toNatClampNeg)), (0, .ref h), (1, .int column), (2, .int mixing)]) hx hb dX0_mixColumn_18 hl_320 (by decide) rfl (fun ls_322 hl_322 => ?_)
    clear hl_320
    refine lv_aload_n hx hb dX0_mixColumn_20 rfl (lv_at hl_322 5 rfl) ?_
    refine va_get (D := E.1) (ci := 2) (v := .ref qv) (C := RX0) (T := TX0) (N := 5) hx hb hts in_X0 hown hK hP_319 0 rfl rfl 2 (by decide) w_0 (fun _ h9 => h9) rfl dX0_mixColumn_21 ?_
    refine lv_iload_n hx hb dX0_mixColumn_24 rfl (lv_at hl_322 6 rfl) ?_
    refine lv_iload_n hx hb dX0_mixColumn_25 rfl (lv_at hl_322 1 rfl) ?_
    refine lv_iconst (v := 1) hx hb dX0_mixColumn_26 (by decide) ?_
    refine lv_iadd hx hb dX0_mixColumn_27 ?_
    refine lv_topi (fun y_323 ey_323 => ?_)
    obtain rfl : y_323 = 2 := ey_323.trans (by decide)
    refine lv_iconst (v := 3) hx hb dX0_mixColumn_28 (by decide) ?_
    refine lv_iand hx hb dX0_mixColumn_29 ?_
    refine lv_topi (fun y_324 ey_324 => ?_)
    obtain rfl : y_324 = 2 := ey_324.trans (by decide)
    refine lv_iadd hx hb dX0_mixColumn_30 ?_
    refine lv_bipush (v := 15) hx hb dX0_mixColumn_31 (by decide) ?_
    refine lv_iand hx hb dX0_mixColumn_33 ?_
    refine va_iald hx hb hK hP_319 2 0 rfl rfl (pk_andIn _ 4 (by decide) (by decide)) dX0_mixColumn_34 ?_
    refine lv_istore (lv' := [(5, .int (mv ((column + 2) &&& 15).toNatClampNeg)), (4, .int (mv ((column + 1) &&& 15).toNatClampNeg)), (3, .int 1), (7, .int (mv ((column + 3) &&& 15).toNatClampNeg)), (6, .int (mv ((column + 2) &&& 15).toNatClampNeg)), (0, .ref h), (1, .int column), (2, .int mixing)]) hx hb dX0_mixColumn_35 hl_322 (by decide) rfl (fun ls_325 hl_325 => ?_)
    clear hl_322
    refine lv_aload_n hx hb dX0_mixColumn_37 rfl (lv_at hl_325 5 rfl) ?_
    refine va_get (D := E.1) (ci := 2) (v := .ref qv) (C := RX0) (T := TX0) (N := 5) hx hb hts in_X0 hown hK hP_319 0 rfl rfl 2 (by decide) w_0 (fun _ h9 => h9) rfl dX0_mixColumn_38 ?_
    refine lv_iload_n hx hb dX0_mixColumn_41 rfl (lv_at hl_325 6 rfl) ?_
    refine lv_iload_n hx hb dX0_mixColumn_42 rfl (lv_at hl_325 2 rfl) ?_
    refine lv_iconst (v := 2) hx hb dX0_mixColumn_43 (by decide) ?_
    refine lv_iadd hx hb dX0_mixColumn_44 ?_
    refine lv_topi (fun y_326 ey_326 => ?_)
    obtain rfl : y_326 = 3 := ey_326.trans (by decide)
    refine lv_iconst (v := 3) hx hb dX0_mixColumn_45 (by decide) ?_
    refine lv_iand hx hb dX0_mixColumn_46 ?_
    refine lv_topi (fun y_327 ey_327 => ?_)
    obtain rfl : y_327 = 3 := ey_327.trans (by decide)
    refine lv_iadd hx hb dX0_mixColumn_47 ?_
    refine lv_bipush (v := 15) hx hb dX0_mixColumn_48 (by decide) ?_
    refine lv_iand hx hb dX0_mixColumn_50 ?_
    refine va_iald hx hb hK hP_319 2 0 rfl rfl (pk_andIn _ 4 (by decide) (by decide)) dX0_mixColumn_51 ?_
    refine lv_istore (lv' := [(6, .int (mv ((column + 3) &&& 15).toNatClampNeg)), (5, .int (mv ((column + 2) &&& 15).toNatClampNeg)), (4, .int (mv ((column + 1) &&& 15).toNatClampNeg)), (3, .int 1), (7, .int (mv ((column + 3) &&& 15).toNatClampNeg)), (0, .ref h), (1, .int column), (2, .int mixing)]) hx hb dX0_mixColumn_52 hl_325 (by decide) rfl (fun ls_328 hl_328 => ?_)
    clear hl_325
    refine lv_aload_n hx hb dX0_mixColumn_54 rfl (lv_at hl_328 5 rfl) ?_
    refine va_get (D := E.1) (ci := 2) (v := .ref qv) (C := RX0) (T := TX0) (N := 5) hx hb hts in_X0 hown hK hP_319 0 rfl rfl 2 (by decide) w_0 (fun _ h9 => h9) rfl dX0_mixColumn_55 ?_
    refine lv_iload_n hx hb dX0_mixColumn_58 rfl (lv_at hl_328 6 rfl) ?_
    refine lv_iload_n hx hb dX0_mixColumn_59 rfl (lv_at hl_328 3 rfl) ?_
    refine lv_iconst (v := 3) hx hb dX0_mixColumn_60 (by decide) ?_
    refine lv_iadd hx hb dX0_mixColumn_61 ?_
    refine lv_topi (fun y_329 ey_329 => ?_)
    obtain rfl : y_329 = 4 := ey_329.trans (by decide)
    refine lv_iconst (v := 3) hx hb dX0_mixColumn_62 (by decide) ?_
    refine lv_iand hx hb dX0_mixColumn_63 ?_
    refine lv_topi (fun y_330 ey_330 => ?_)
    obtain rfl : y_330 = 0 := ey_330.trans (by decide)
    refine lv_iadd hx hb dX0_mixColumn_64 ?_
    refine lv_bipush (v := 15) hx hb dX0_mixColumn_65 (by decide) ?_
    refine lv_iand hx hb dX0_mixColumn_67 ?_
    refine va_iald hx hb hK hP_319 2 0 rfl rfl (pk_andIn _ 4 (by decide) (by decide)) dX0_mixColumn_68 ?_
    refine lv_istore (lv' := [(7, .int (mv ((column + 0) &&& 15).toNatClampNeg)), (6, .int (mv ((column + 3) &&& 15).toNatClampNeg)), (5, .int (mv ((column + 2) &&& 15).toNatClampNeg)), (4, .int (mv ((column + 1) &&& 15).toNatClampNeg)), (3, .int 1), (0, .ref h), (1, .int column), (2, .int mixing)]) hx hb dX0_mixColumn_69 hl_328 (by decide) rfl (fun ls_331 hl_331 => ?_)
    clear hl_328
    refine lv_aload_n hx hb dX0_mixColumn_71 rfl (lv_at hl_331 5 rfl) ?_
    refine va_get (D := E.1) (ci := 2) (v := .ref qc) (C := RX0) (T := TX0) (N := 5) hx hb hts in_X0 hown hK hP_319 0 rfl rfl 1 (by decide) w_1 (fun _ h9 => h9) rfl dX0_mixColumn_72 ?_
    refine lv_iload_n hx hb dX0_mixColumn_75 rfl (lv_at hl_331 6 rfl) ?_
    refine lv_iload_n hx hb dX0_mixColumn_76 rfl (lv_at hl_331 4 rfl) ?_
    refine lv_iadd hx hb dX0_mixColumn_77 ?_
    refine lv_bipush (v := 15) hx hb dX0_mixColumn_78 (by decide) ?_
    refine lv_iand hx hb dX0_mixColumn_80 ?_
    refine lv_iload_n hx hb dX0_mixColumn_81 rfl (lv_at hl_331 7 rfl) ?_
    refine lv_if_eq (tgt := 108) hx hb dX0_mixColumn_82 (by decide) (fun c_332 => absurd c_332 c_267) (fun c_332 => ?_)
    refine lv_iload hx hb dX0_mixColumn_85 (lv_at hl_331 3 rfl) ?_
    refine gSi hF hl_331 hV hP_319 hD_319 hS_319 hA [] [0, 1, 2] (wc := []) (wr := [(h, .inr (2, [.ref qk, .ref qc, .ref qv, .ref qt, .int rd])), (qc, .inl (E.2.1, 16, .inl (upd cl ((column + 0) &&& 15).toNatClampNeg v_318))), (qv, .inl (E.2.1, 16, .inl mv))]) rfl rfl rfl (by decide) (k_X0_twice E l (mv ((column + 1) &&& 15).toNatClampNeg)) (va_cwS 1 hts gX0_mixColumn_X0_twice rfl rfl rfl (by decide +kernel) ⟨Nat.le_of_ble_eq_true rfl, Nat.le_of_ble_eq_true rfl⟩) rfl rfl (Nat.le_of_ble_eq_true rfl) dX0_mixColumn_87 ⟨Nat.le_of_ble_eq_true rfl, Nat.le_of_ble_eq_true rfl⟩ (fun r_333 _ H_334 locs_334 hu_333 hP_334 hD_334 hS_334 => ?_)
    have er_333 : r_333 = F_X0_twice (mv ((column + 1) &&& 15).toNatClampNeg) := hu_333
    clear hu_333
    replace hP_334 : va_P E.1 vwCl [(h, .inr (2, [.ref qk, .ref qc, .ref qv, .ref qt, .int rd])), (qc, .inl (E.2.1, 16, .inl (upd cl ((column + 0) &&& 15).toNatClampNeg v_318))), (qv, .inl (E.2.1, 16, .inl mv))] H_334 := hP_334
    replace hD_334 : va_D A [(h, .inr (2, [.ref qk, .ref qc, .ref qv, .ref qt, .int rd])), (qc, .inl (E.2.1, 16, .inl (upd cl ((column + 0) &&& 15).toNatClampNeg v_318))), (qv, .inl (E.2.1, 16, .inl mv))] := hD_334
    clear hP_319 hD_319 hS_319
    refine lv_iload hx hb dX0_mixColumn_90 (lv_at hl_331 2 rfl) ?_
    refine gSi hF hl_331 hV hP_334 hD_334 hS_334 hA [] [0, 1, 2] (wc := []) (wr := [(h, .inr (2, [.ref qk, .ref qc, .ref qv, .ref qt, .int rd])), (qc, .inl (E.2.1, 16, .inl (upd cl ((column + 0) &&& 15).toNatClampNeg v_318))), (qv, .inl (E.2.1, 16, .inl mv))]) rfl rfl rfl (by decide) (k_X0_twice E l (mv ((column + 2) &&& 15).toNatClampNeg)) (va_cwS 1 hts gX0_mixColumn_X0_twice rfl rfl rfl (by decide +kernel) ⟨Nat.le_of_ble_eq_true rfl, Nat.le_of_ble_eq_true rfl⟩) rfl rfl (Nat.le_of_ble_eq_true rfl) dX0_mixColumn_92 ⟨Nat.le_of_ble_eq_true rfl, Nat.le_of_ble_eq_true rfl⟩ (fun r_335 _ H_336 locs_336 hu_335 hP_336 hD_336 hS_336 => ?_)
    have er_335 : r_335 = F_X0_twice (mv ((column + 2) &&& 15).toNatClampNeg) := hu_335
    clear hu_335
    replace hP_336 : va_P E.1 vwCl [(h, .inr (2, [.ref qk, .ref qc, .ref qv, .ref qt, .int rd])), (qc, .inl (E.2.1, 16, .inl (upd cl ((column + 0) &&& 15).toNatClampNeg v_318))), (qv, .inl (E.2.1, 16, .inl mv))] H_336 := hP_336
    replace hD_336 : va_D A [(h, .inr (2, [.ref qk, .ref qc, .ref qv, .ref qt, .int rd])), (qc, .inl (E.2.1, 16, .inl (upd cl ((column + 0) &&& 15).toNatClampNeg v_318))), (qv, .inl (E.2.1, 16, .inl mv))] := hD_336
    clear hP_334 hD_334 hS_334
    refine lv_ixor hx hb dX0_mixColumn_95 ?_
    refine lv_iload hx hb dX0_mixColumn_96 (lv_at hl_331 2 rfl) ?_
    refine lv_ixor hx hb dX0_mixColumn_98 ?_
    refine lv_topi (fun v_337 ev_337 => ?_)
    refine lv_iload hx hb dX0_mixColumn_99 (lv_at hl_331 1 rfl) ?_
    refine lv_ixor hx hb dX0_mixColumn_101 ?_
    refine lv_iload hx hb dX0_mixColumn_102 (lv_at hl_331 0 rfl) ?_
    refine lv_ixor hx hb dX0_mixColumn_104 ?_
    refine lv_topi (fun v_338 ev_338 => ?_)
    refine lv_goto (tgt := 110) hx hb dX0_mixColumn_105 (by decide) ?_
    refine va_iast hx hb hK hP_336 hD_336 hS_336 1 0 rfl rfl (pk_andIn _ 4 (by decide) (by decide)) dX0_mixColumn_110 (fun H_339 locs_339 hP_339 hD_339 hS_339 => ?_)
    replace hP_339 : va_P E.1 vwCl [(h, .inr (2, [.ref qk, .ref qc, .ref qv, .ref qt, .int rd])), (qc, .inl (E.2.1, 16, .inl (upd (upd cl ((column + 0) &&& 15).toNatClampNeg v_318) ((column + 1) &&& 15).toNatClampNeg v_338))), (qv, .inl (E.2.1, 16, .inl mv))] H_339 := hP_339
    replace hD_339 : va_D A [(h, .inr (2, [.ref qk, .ref qc, .ref qv, .ref qt, .int rd])), (qc, .inl (E.2.1, 16, .inl (upd (upd cl ((column + 0) &&& 15).toNatClampNeg v_318) ((column + 1) &&& 15).toNatClampNeg v_338))), (qv, .inl (E.2.1, 16, .inl mv))] := hD_339
    clear hP_336 hD_336 hS_336
    refine lv_iinc (v := 2) (lv' := [(3, .int 2), (7, .int (mv ((column + 0) &&& 15).toNatClampNeg)), (6, .int (mv ((column + 3) &&& 15).toNatClampNeg)), (5, .int (mv ((column + 2) &&& 15).toNatClampNeg)), (4, .int (mv ((column + 1) &&& 15).toNatClampNeg)), (0, .ref h), (1, .int column), (2, .int mixing)]) hx hb dX0_mixColumn_111 hl_331 (k := 4) rfl (by decide) (by decide) rfl (fun ls_340 hl_340 => ?_)
    clear hl_331
    refine lv_goto (tgt := 2) hx hb dX0_mixColumn_114 (by decide) ?_
    refine lv_iload_n hx hb dX0_mixColumn_2 rfl (lv_at hl_340 0 rfl) ?_
    refine lv_iconst (v := 4) hx hb dX0_mixColumn_3 (by decide) ?_
    refine lv_icmp_ge (tgt := 117) hx hb dX0_mixColumn_4 (by decide) (fun c_341 => absurd c_341 (by decide)) (fun c_341 => ?_)
    refine lv_aload_n hx hb dX0_mixColumn_7 rfl (lv_at hl_340 5 rfl) ?_
    refine va_get (D := E.1) (ci := 2) (v := .ref qv) (C := RX0) (T := TX0) (N := 5) hx hb hts in_X0 hown hK hP_339 0 rfl rfl 2 (by decide) w_0 (fun _ h9 => h9) rfl dX0_mixColumn_8 ?_
    refine lv_iload_n hx hb dX0_mixColumn_11 rfl (lv_at hl_340 6 rfl) ?_
    refine lv_iload_n hx hb dX0_mixColumn_12 rfl (lv_at hl_340 0 rfl) ?_
    refine lv_iadd hx hb dX0_mixColumn_13 ?_
    refine lv_bipush (v := 15) hx hb dX0_mixColumn_14 (by decide) ?_
    refine lv_iand hx hb dX0_mixColumn_16 ?_
    refine va_iald hx hb hK hP_339 2 0 rfl rfl (pk_andIn _ 4 (by decide) (by decide)) dX0_mixColumn_17 ?_
    refine lv_istore (lv' := [(4, .int (mv ((column + 2) &&& 15).toNatClampNeg)), (3, .int 2), (7, .int (mv ((column + 0) &&& 15).toNatClampNeg)), (6, .int (mv ((column + 3) &&& 15).toNatClampNeg)), (5, .int (mv ((column + 2) &&& 15).toNatClampNeg)), (0, .ref h), (1, .int column), (2, .int mixing)]) hx hb dX0_mixColumn_18 hl_340 (by decide) rfl (fun ls_342 hl_342 => ?_)
    clear hl_340
    refine lv_aload_n hx hb dX0_mixColumn_20 rfl (lv_at hl_342 5 rfl) ?_
    refine va_get (D := E.1) (ci := 2) (v := .ref qv) (C := RX0) (T := TX0) (N := 5) hx hb hts in_X0 hown hK hP_339 0 rfl rfl 2 (by decide) w_0 (fun _ h9 => h9) rfl dX0_mixColumn_21 ?_
    refine lv_iload_n hx hb dX0_mixColumn_24 rfl (lv_at hl_342 6 rfl) ?_
    refine lv_iload_n hx hb dX0_mixColumn_25 rfl (lv_at hl_342 1 rfl) ?_
    refine lv_iconst (v := 1) hx hb dX0_mixColumn_26 (by decide) ?_
    refine lv_iadd hx hb dX0_mixColumn_27 ?_
    refine lv_topi (fun y_343 ey_343 => ?_)
    obtain rfl : y_343 = 3 := ey_343.trans (by decide)
    refine lv_iconst (v := 3) hx hb dX0_mixColumn_28 (by decide) ?_
    refine lv_iand hx hb dX0_mixColumn_29 ?_
    refine lv_topi (fun y_344 ey_344 => ?_)
    obtain rfl : y_344 = 3 := ey_344.trans (by decide)
    refine lv_iadd hx hb dX0_mixColumn_30 ?_
    refine lv_bipush (v := 15) hx hb dX0_mixColumn_31 (by decide) ?_
    refine lv_iand hx hb dX0_mixColumn_33 ?_
    refine va_iald hx hb hK hP_339 2 0 rfl rfl (pk_andIn _ 4 (by decide) (by decide)) dX0_mixColumn_34 ?_
    refine lv_istore (lv' := [(5, .int (mv ((column + 3) &&& 15).toNatClampNeg)), (4, .int (mv ((column + 2) &&& 15).toNatClampNeg)), (3, .int 2), (7, .int (mv ((column + 0) &&& 15).toNatClampNeg)), (6, .int (mv ((column + 3) &&& 15).toNatClampNeg)), (0, .ref h), (1, .int column), (2, .int mixing)]) hx hb dX0_mixColumn_35 hl_342 (by decide) rfl (fun ls_345 hl_345 => ?_)
    clear hl_342
    refine lv_aload_n hx hb dX0_mixColumn_37 rfl (lv_at hl_345 5 rfl) ?_
    refine va_get (D := E.1) (ci := 2) (v := .ref qv) (C := RX0) (T := TX0) (N := 5) hx hb hts in_X0 hown hK hP_339 0 rfl rfl 2 (by decide) w_0 (fun _ h9 => h9) rfl dX0_mixColumn_38 ?_
    refine lv_iload_n hx hb dX0_mixColumn_41 rfl (lv_at hl_345 6 rfl) ?_
    refine lv_iload_n hx hb dX0_mixColumn_42 rfl (lv_at hl_345 2 rfl) ?_
    refine lv_iconst (v := 2) hx hb dX0_mixColumn_43 (by decide) ?_
    refine lv_iadd hx hb dX0_mixColumn_44 ?_
    refine lv_topi (fun y_346 ey_346 => ?_)
    obtain rfl : y_346 = 4 := ey_346.trans (by decide)
    refine lv_iconst (v := 3) hx hb dX0_mixColumn_45 (by decide) ?_
    refine lv_iand hx hb dX0_mixColumn_46 ?_
    refine lv_topi (fun y_347 ey_347 => ?_)
    obtain rfl : y_347 = 0 := ey_347.trans (by decide)
    refine lv_iadd hx hb dX0_mixColumn_47 ?_
    refine lv_bipush (v := 15) hx hb dX0_mixColumn_48 (by decide) ?_
    refine lv_iand hx hb dX0_mixColumn_50 ?_
    refine va_iald hx hb hK hP_339 2 0 rfl rfl (pk_andIn _ 4 (by decide) (by decide)) dX0_mixColumn_51 ?_
    refine lv_istore (lv' := [(6, .int (mv ((column + 0) &&& 15).toNatClampNeg)), (5, .int (mv ((column + 3) &&& 15).toNatClampNeg)), (4, .int (mv ((column + 2) &&& 15).toNatClampNeg)), (3, .int 2), (7, .int (mv ((column + 0) &&& 15).toNatClampNeg)), (0, .ref h), (1, .int column), (2, .int mixing)]) hx hb dX0_mixColumn_52 hl_345 (by decide) rfl (fun ls_348 hl_348 => ?_)
    clear hl_345
    refine lv_aload_n hx hb dX0_mixColumn_54 rfl (lv_at hl_348 5 rfl) ?_
    refine va_get (D := E.1) (ci := 2) (v := .ref qv) (C := RX0) (T := TX0) (N := 5) hx hb hts in_X0 hown hK hP_339 0 rfl rfl 2 (by decide) w_0 (fun _ h9 => h9) rfl dX0_mixColumn_55 ?_
    refine lv_iload_n hx hb dX0_mixColumn_58 rfl (lv_at hl_348 6 rfl) ?_
    refine lv_iload_n hx hb dX0_mixColumn_59 rfl (lv_at hl_348 3 rfl) ?_
    refine lv_iconst (v := 3) hx hb dX0_mixColumn_60 (by decide) ?_
    refine lv_iadd hx hb dX0_mixColumn_61 ?_
    refine lv_topi (fun y_349 ey_349 => ?_)
    obtain rfl : y_349 = 5 := ey_349.trans (by decide)
    refine lv_iconst (v := 3) hx hb dX0_mixColumn_62 (by decide) ?_
    refine lv_iand hx hb dX0_mixColumn_63 ?_
    refine lv_topi (fun y_350 ey_350 => ?_)
    obtain rfl : y_350 = 1 := ey_350.trans (by decide)
    refine lv_iadd hx hb dX0_mixColumn_64 ?_
    refine lv_bipush (v := 15) hx hb dX0_mixColumn_65 (by decide) ?_
    refine lv_iand hx hb dX0_mixColumn_67 ?_
    refine va_iald hx hb hK hP_339 2 0 rfl rfl (pk_andIn _ 4 (by decide) (by decide)) dX0_mixColumn_68 ?_
    refine lv_istore (lv' := [(7, .int (mv ((column + 1) &&& 15).toNatClampNeg)), (6, .int (mv ((column + 0) &&& 15).toNatClampNeg)), (5, .int (mv ((column + 3) &&& 15).toNatClampNeg)), (4, .int (mv ((column + 2) &&& 15).toNatClampNeg)), (3, .int 2), (0, .ref h), (1, .int column), (2, .int mixing)]) hx hb dX0_mixColumn_69 hl_348 (by decide) rfl (fun ls_351 hl_351 => ?_)
    clear hl_348
    refine lv_aload_n hx hb dX0_mixColumn_71 rfl (lv_at hl_351 5 rfl) ?_
    refine va_get (D := E.1) (ci := 2) (v := .ref qc) (C := RX0) (T := TX0) (N := 5) hx hb hts in_X0 hown hK hP_339 0 rfl rfl 1 (by decide) w_1 (fun _ h9 => h9) rfl dX0_mixColumn_72 ?_
    refine lv_iload_n hx hb dX0_mixColumn_75 rfl (lv_at hl_351 6 rfl) ?_
    refine lv_iload_n hx hb dX0_mixColumn_76 rfl (lv_at hl_351 4 rfl) ?_
    refine lv_iadd hx hb dX0_mixColumn_77 ?_
    refine lv_bipush (v := 15) hx hb dX0_mixColumn_78 (by decide) ?_
    refine lv_iand hx hb dX0_mixColumn_80 ?_
    refine lv_iload_n hx hb dX0_mixColumn_81 rfl (lv_at hl_351 7 rfl) ?_
    refine lv_if_eq (tgt := 108) hx hb dX0_mixColumn_82 (by decide) (fun c_352 => absurd c_352 c_267) (fun c_352 => ?_)
    refine lv_iload hx hb dX0_mixColumn_85 (lv_at hl_351 3 rfl) ?_
    refine gSi hF hl_351 hV hP_339 hD_339 hS_339 hA [] [0, 1, 2] (wc := []) (wr := [(h, .inr (2, [.ref qk, .ref qc, .ref qv, .ref qt, .int rd])), (qc, .inl (E.2.1, 16, .inl (upd (upd cl ((column + 0) &&& 15).toNatClampNeg v_318) ((column + 1) &&& 15).toNatClampNeg v_338))), (qv, .inl (E.2.1, 16, .inl mv))]) rfl rfl rfl (by decide) (k_X0_twice E l (mv ((column + 2) &&& 15).toNatClampNeg)) (va_cwS 1 hts gX0_mixColumn_X0_twice rfl rfl rfl (by decide +kernel) ⟨Nat.le_of_ble_eq_true rfl, Nat.le_of_ble_eq_true rfl⟩) rfl rfl (Nat.le_of_ble_eq_true rfl) dX0_mixColumn_87 ⟨Nat.le_of_ble_eq_true rfl, Nat.le_of_ble_eq_true rfl⟩ (fun r_353 _ H_354 locs_354 hu_353 hP_354 hD_354 hS_354 => ?_)
    have er_353 : r_353 = F_X0_twice (mv ((column + 2) &&& 15).toNatClampNeg) := hu_353
    clear hu_353
    replace hP_354 : va_P E.1 vwCl [(h, .inr (2, [.ref qk, .ref qc, .ref qv, .ref qt, .int rd])), (qc, .inl (E.2.1, 16, .inl (upd (upd cl ((column + 0) &&& 15).toNatClampNeg v_318) ((column + 1) &&& 15).toNatClampNeg v_338))), (qv, .inl (E.2.1, 16, .inl mv))] H_354 := hP_354
    replace hD_354 : va_D A [(h, .inr (2, [.ref qk, .ref qc, .ref qv, .ref qt, .int rd])), (qc, .inl (E.2.1, 16, .inl (upd (upd cl ((column + 0) &&& 15).toNatClampNeg v_318) ((column + 1) &&& 15).toNatClampNeg v_338))), (qv, .inl (E.2.1, 16, .inl mv))] := hD_354
    clear hP_339 hD_339 hS_339
    refine lv_iload hx hb dX0_mixColumn_90 (lv_at hl_351 2 rfl) ?_
    refine gSi hF hl_351 hV hP_354 hD_354 hS_354 hA [] [0, 1, 2] (wc := []) (wr := [(h, .inr (2, [.ref qk, .ref qc, .ref qv, .ref qt, .int rd])), (qc, .inl (E.2.1, 16, .inl (upd (upd cl ((column + 0) &&& 15).toNatClampNeg v_318) ((column + 1) &&& 15).toNatClampNeg v_338))), (qv, .inl (E.2.1, 16, .inl mv))]) rfl rfl rfl (by decide) (k_X0_twice E l (mv ((column + 3) &&& 15).toNatClampNeg)) (va_cwS 1 hts gX0_mixColumn_X0_twice rfl rfl rfl (by decide +kernel) ⟨Nat.le_of_ble_eq_true rfl, Nat.le_of_ble_eq_true rfl⟩) rfl rfl (Nat.le_of_ble_eq_true rfl) dX0_mixColumn_92 ⟨Nat.le_of_ble_eq_true rfl, Nat.le_of_ble_eq_true rfl⟩ (fun r_355 _ H_356 locs_356 hu_355 hP_356 hD_356 hS_356 => ?_)
    have er_355 : r_355 = F_X0_twice (mv ((column + 3) &&& 15).toNatClampNeg) := hu_355
    clear hu_355
    replace hP_356 : va_P E.1 vwCl [(h, .inr (2, [.ref qk, .ref qc, .ref qv, .ref qt, .int rd])), (qc, .inl (E.2.1, 16, .inl (upd (upd cl ((column + 0) &&& 15).toNatClampNeg v_318) ((column + 1) &&& 15).toNatClampNeg v_338))), (qv, .inl (E.2.1, 16, .inl mv))] H_356 := hP_356
    replace hD_356 : va_D A [(h, .inr (2, [.ref qk, .ref qc, .ref qv, .ref qt, .int rd])), (qc, .inl (E.2.1, 16, .inl (upd (upd cl ((column + 0) &&& 15).toNatClampNeg v_318) ((column + 1) &&& 15).toNatClampNeg v_338))), (qv, .inl (E.2.1, 16, .inl mv))] := hD_356
    clear hP_354 hD_354 hS_354
    refine lv_ixor hx hb dX0_mixColumn_95 ?_
    refine lv_iload hx hb dX0_mixColumn_96 (lv_at hl_351 2 rfl) ?_
    refine lv_ixor hx hb dX0_mixColumn_98 ?_
    refine lv_topi (fun v_357 ev_357 => ?_)
    refine lv_iload hx hb dX0_mixColumn_99 (lv_at hl_351 1 rfl) ?_
    refine lv_ixor hx hb dX0_mixColumn_101 ?_
    refine lv_iload hx hb dX0_mixColumn_102 (lv_at hl_351 0 rfl) ?_
    refine lv_ixor hx hb dX0_mixColumn_104 ?_
    refine lv_topi (fun v_358 ev_358 => ?_)
    refine lv_goto (tgt := 110) hx hb dX0_mixColumn_105 (by decide) ?_
    refine va_iast hx hb hK hP_356 hD_356 hS_356 1 0 rfl rfl (pk_andIn _ 4 (by decide) (by decide)) dX0_mixColumn_110 (fun H_359 locs_359 hP_359 hD_359 hS_359 => ?_)
    replace hP_359 : va_P E.1 vwCl [(h, .inr (2, [.ref qk, .ref qc, .ref qv, .ref qt, .int rd])), (qc, .inl (E.2.1, 16, .inl (upd (upd (upd cl ((column + 0) &&& 15).toNatClampNeg v_318) ((column + 1) &&& 15).toNatClampNeg v_338) ((column + 2) &&& 15).toNatClampNeg v_358))), (qv, .inl (E.2.1, 16, .inl mv))] H_359 := hP_359
    replace hD_359 : va_D A [(h, .inr (2, [.ref qk, .ref qc, .ref qv, .ref qt, .int rd])), (qc, .inl (E.2.1, 16, .inl (upd (upd (upd cl ((column + 0) &&& 15).toNatClampNeg v_318) ((column + 1) &&& 15).toNatClampNeg v_338) ((column + 2) &&& 15).toNatClampNeg v_358))), (qv, .inl (E.2.1, 16, .inl mv))] := hD_359
    clear hP_356 hD_356 hS_356
    refine lv_iinc (v := 3) (lv' := [(3, .int 3), (7, .int (mv ((column + 1) &&& 15).toNatClampNeg)), (6, .int (mv ((column + 0) &&& 15).toNatClampNeg)), (5, .int (mv ((column + 3) &&& 15).toNatClampNeg)), (4, .int (mv ((column + 2) &&& 15).toNatClampNeg)), (0, .ref h), (1, .int column), (2, .int mixing)]) hx hb dX0_mixColumn_111 hl_351 (k := 4) rfl (by decide) (by decide) rfl (fun ls_360 hl_360 => ?_)
    clear hl_351
    refine lv_goto (tgt := 2) hx hb dX0_mixColumn_114 (by decide) ?_
    refine lv_iload_n hx hb dX0_mixColumn_2 rfl (lv_at hl_360 0 rfl) ?_
    refine lv_iconst (v := 4) hx hb dX0_mixColumn_3 (by decide) ?_
    refine lv_icmp_ge (tgt := 117) hx hb dX0_mixColumn_4 (by decide) (fun c_361 => absurd c_361 (by decide)) (fun c_361 => ?_)
    refine lv_aload_n hx hb dX0_mixColumn_7 rfl (lv_at hl_360 5 rfl) ?_
    refine va_get (D := E.1) (ci := 2) (v := .ref qv) (C := RX0) (T := TX0) (N := 5) hx hb hts in_X0 hown hK hP_359 0 rfl rfl 2 (by decide) w_0 (fun _ h9 => h9) rfl dX0_mixColumn_8 ?_
    refine lv_iload_n hx hb dX0_mixColumn_11 rfl (lv_at hl_360 6 rfl) ?_
    refine lv_iload_n hx hb dX0_mixColumn_12 rfl (lv_at hl_360 0 rfl) ?_
    refine lv_iadd hx hb dX0_mixColumn_13 ?_
    refine lv_bipush (v := 15) hx hb dX0_mixColumn_14 (by decide) ?_
    refine lv_iand hx hb dX0_mixColumn_16 ?_
    refine va_iald hx hb hK hP_359 2 0 rfl rfl (pk_andIn _ 4 (by decide) (by decide)) dX0_mixColumn_17 ?_
    refine lv_istore (lv' := [(4, .int (mv ((column + 3) &&& 15).toNatClampNeg)), (3, .int 3), (7, .int (mv ((column + 1) &&& 15).toNatClampNeg)), (6, .int (mv ((column + 0) &&& 15).toNatClampNeg)), (5, .int (mv ((column + 3) &&& 15).toNatClampNeg)), (0, .ref h), (1, .int column), (2, .int mixing)]) hx hb dX0_mixColumn_18 hl_360 (by decide) rfl (fun ls_362 hl_362 => ?_)
    clear hl_360
    refine lv_aload_n hx hb dX0_mixColumn_20 rfl (lv_at hl_362 5 rfl) ?_
    refine va_get (D := E.1) (ci := 2) (v := .ref qv) (C := RX0) (T := TX0) (N := 5) hx hb hts in_X0 hown hK hP_359 0 rfl rfl 2 (by decide) w_0 (fun _ h9 => h9) rfl dX0_mixColumn_21 ?_
    refine lv_iload_n hx hb dX0_mixColumn_24 rfl (lv_at hl_362 6 rfl) ?_
    refine lv_iload_n hx hb dX0_mixColumn_25 rfl (lv_at hl_362 1 rfl) ?_
    refine lv_iconst (v := 1) hx hb dX0_mixColumn_26 (by decide) ?_
    refine lv_iadd hx hb dX0_mixColumn_27 ?_
    refine lv_topi (fun y_363 ey_363 => ?_)
    obtain rfl : y_363 = 4 := ey_363.trans (by decide)
    refine lv_iconst (v := 3) hx hb dX0_mixColumn_28 (by decide) ?_
    refine lv_iand hx hb dX0_mixColumn_29 ?_
    refine lv_topi (fun y_364 ey_364 => ?_)
    obtain rfl : y_364 = 0 := ey_364.trans (by decide)
    refine lv_iadd hx hb dX0_mixColumn_30 ?_
    refine lv_bipush (v := 15) hx hb dX0_mixColumn_31 (by decide) ?_
    refine lv_iand hx hb dX0_mixColumn_33 ?_
    refine va_iald hx hb hK hP_359 2 0 rfl rfl (pk_andIn _ 4 (by decide) (by decide)) dX0_mixColumn_34 ?_
    refine lv_istore (lv' := [(5, .int (mv ((column + 0) &&& 15).toNatClampNeg)), (4, .int (mv ((column + 3) &&& 15).toNatClampNeg)), (3, .int 3), (7, .int (mv ((column + 1) &&& 15).toNatClampNeg)), (6, .int (mv ((column + 0) &&& 15).toNatClampNeg)), (0, .ref h), (1, .int column), (2, .int mixing)]) hx hb dX0_mixColumn_35 hl_362 (by decide) rfl (fun ls_365 hl_365 => ?_)
    clear hl_362
    refine lv_aload_n hx hb dX0_mixColumn_37 rfl (lv_at hl_365 5 rfl) ?_
    refine va_get (D := E.1) (ci := 2) (v := .ref qv) (C := RX0) (T := TX0) (N := 5) hx hb hts in_X0 hown hK hP_359 0 rfl rfl 2 (by decide) w_0 (fun _ h9 => h9) rfl dX0_mixColumn_38 ?_
    refine lv_iload_n hx hb dX0_mixColumn_41 rfl (lv_at hl_365 6 rfl) ?_
    refine lv_iload_n hx hb dX0_mixColumn_42 rfl (lv_at hl_365 2 rfl) ?_
    refine lv_iconst (v := 2) hx hb dX0_mixColumn_43 (by decide) ?_
    refine lv_iadd hx hb dX0_mixColumn_44 ?_
    refine lv_topi (fun y_366 ey_366 => ?_)
    obtain rfl : y_366 = 5 := ey_366.trans (by decide)
    refine lv_iconst (v := 3) hx hb dX0_mixColumn_45 (by decide) ?_
    refine lv_iand hx hb dX0_mixColumn_46 ?_
    refine lv_topi (fun y_367 ey_367 => ?_)
    obtain rfl : y_367 = 1 := ey_367.trans (by decide)
    refine lv_iadd hx hb dX0_mixColumn_47 ?_
    refine lv_bipush (v := 15) hx hb dX0_mixColumn_48 (by decide) ?_
    refine lv_iand hx hb dX0_mixColumn_50 ?_
    refine va_iald hx hb hK hP_359 2 0 rfl rfl (pk_andIn _ 4 (by decide) (by decide)) dX0_mixColumn_51 ?_
    refine lv_istore (lv' := [(6, .int (mv ((column + 1) &&& 15).toNatClampNeg)), (5, .int (mv ((column + 0) &&& 15).toNatClampNeg)), (4, .int (mv ((column + 3) &&& 15).toNatClampNeg)), (3, .int 3), (7, .int (mv ((column + 1) &&& 15).toNatClampNeg)), (0, .ref h), (1, .int column), (2, .int mixing)]) hx hb dX0_mixColumn_52 hl_365 (by decide) rfl (fun ls_368 hl_368 => ?_)
    clear hl_365
    refine lv_aload_n hx hb dX0_mixColumn_54 rfl (lv_at hl_368 5 rfl) ?_
    refine va_get (D := E.1) (ci := 2) (v := .ref qv) (C := RX0) (T := TX0) (N := 5) hx hb hts in_X0 hown hK hP_359 0 rfl rfl 2 (by decide) w_0 (fun _ h9 => h9) rfl dX0_mixColumn_55 ?_
    refine lv_iload_n hx hb dX0_mixColumn_58 rfl (lv_at hl_368 6 rfl) ?_
    refine lv_iload_n hx hb dX0_mixColumn_59 rfl (lv_at hl_368 3 rfl) ?_
    refine lv_iconst (v := 3) hx hb dX0_mixColumn_60 (by decide) ?_
    refine lv_iadd hx hb dX0_mixColumn_61 ?_
    refine lv_topi (fun y_369 ey_369 => ?_)
    obtain rfl : y_369 = 6 := ey_369.trans (by decide)
    refine lv_iconst (v := 3) hx hb dX0_mixColumn_62 (by decide) ?_
    refine lv_iand hx hb dX0_mixColumn_63 ?_
    refine lv_topi (fun y_370 ey_370 => ?_)
    obtain rfl : y_370 = 2 := ey_370.trans (by decide)
    refine lv_iadd hx hb dX0_mixColumn_64 ?_
    refine lv_bipush (v := 15) hx hb dX0_mixColumn_65 (by decide) ?_
    refine lv_iand hx hb dX0_mixColumn_67 ?_
    refine va_iald hx hb hK hP_359 2 0 rfl rfl (pk_andIn _ 4 (by decide) (by decide)) dX0_mixColumn_68 ?_
    refine lv_istore (lv' := [(7, .int (mv ((column + 2) &&& 15).toNatClampNeg)), (6, .int (mv ((column + 1) &&& 15).toNatClampNeg)), (5, .int (mv ((column + 0) &&& 15).toNatClampNeg)), (4, .int (mv ((column + 3) &&& 15).toNatClampNeg)), (3, .int 3), (0, .ref h), (1, .int column), (2, .int mixing)]) hx hb dX0_mixColumn_69 hl_368 (by decide) rfl (fun ls_371 hl_371 => ?_)
    clear hl_368
    refine lv_aload_n hx hb dX0_mixColumn_71 rfl (lv_at hl_371 5 rfl) ?_
    refine va_get (D := E.1) (ci := 2) (v := .ref qc) (C := RX0) (T := TX0) (N := 5) hx hb hts in_X0 hown hK hP_359 0 rfl rfl 1 (by decide) w_1 (fun _ h9 => h9) rfl dX0_mixColumn_72 ?_
    refine lv_iload_n hx hb dX0_mixColumn_75 rfl (lv_at hl_371 6 rfl) ?_
    refine lv_iload_n hx hb dX0_mixColumn_76 rfl (lv_at hl_371 4 rfl) ?_
    refine lv_iadd hx hb dX0_mixColumn_77 ?_
    refine lv_bipush (v := 15) hx hb dX0_mixColumn_78 (by decide) ?_
    refine lv_iand hx hb dX0_mixColumn_80 ?_
    refine lv_iload_n hx hb dX0_mixColumn_81 rfl (lv_at hl_371 7 rfl) ?_
    refine lv_if_eq (tgt := 108) hx hb dX0_mixColumn_82 (by decide) (fun c_372 => absurd c_372 c_267) (fun c_372 => ?_)
    refine lv_iload hx hb dX0_mixColumn_85 (lv_at hl_371 3 rfl) ?_
    refine gSi hF hl_371 hV hP_359 hD_359 hS_359 hA [] [0, 1, 2] (wc := []) (wr := [(h, .inr (2, [.ref qk, .ref qc, .ref qv, .ref qt, .int rd])), (qc, .inl (E.2.1, 16, .inl (upd (upd (upd cl ((column + 0) &&& 15).toNatClampNeg v_318) ((column + 1) &&& 15).toNatClampNeg v_338) ((column + 2) &&& 15).toNatClampNeg v_358))), (qv, .inl (E.2.1, 16, .inl mv))]) rfl rfl rfl (by decide) (k_X0_twice E l (mv ((column + 3) &&& 15).toNatClampNeg)) (va_cwS 1 hts gX0_mixColumn_X0_twice rfl rfl rfl (by decide +kernel) ⟨Nat.le_of_ble_eq_true rfl, Nat.le_of_ble_eq_true rfl⟩) rfl rfl (Nat.le_of_ble_eq_true rfl) dX0_mixColumn_87 ⟨Nat.le_of_ble_eq_true rfl, Nat.le_of_ble_eq_true rfl⟩ (fun r_373 _ H_374 locs_374 hu_373 hP_374 hD_374 hS_374 => ?_)
    have er_373 : r_373 = F_X0_twice (mv ((column + 3) &&& 15).toNatClampNeg) := hu_373
    clear hu_373
    replace hP_374 : va_P E.1 vwCl [(h, .inr (2, [.ref qk, .ref qc, .ref qv, .ref qt, .int rd])), (qc, .inl (E.2.1, 16, .inl (upd (upd (upd cl ((column + 0) &&& 15).toNatClampNeg v_318) ((column + 1) &&& 15).toNatClampNeg v_338) ((column + 2) &&& 15).toNatClampNeg v_358))), (qv, .inl (E.2.1, 16, .inl mv))] H_374 := hP_374
    replace hD_374 : va_D A [(h, .inr (2, [.ref qk, .ref qc, .ref qv, .ref qt, .int rd])), (qc, .inl (E.2.1, 16, .inl (upd (upd (upd cl ((column + 0) &&& 15).toNatClampNeg v_318) ((column + 1) &&& 15).toNatClampNeg v_338) ((column + 2) &&& 15).toNatClampNeg v_358))), (qv, .inl (E.2.1, 16, .inl mv))] := hD_374
    clear hP_359 hD_359 hS_359
    refine lv_iload hx hb dX0_mixColumn_90 (lv_at hl_371 2 rfl) ?_
    refine gSi hF hl_371 hV hP_374 hD_374 hS_374 hA [] [0, 1, 2] (wc := []) (wr := [(h, .inr (2, [.ref qk, .ref qc, .ref qv, .ref qt, .int rd])), (qc, .inl (E.2.1, 16, .inl (upd (upd (upd cl ((column + 0) &&& 15).toNatClampNeg v_318) ((column + 1) &&& 15).toNatClampNeg v_338) ((column + 2) &&& 15).toNatClampNeg v_358))), (qv, .inl (E.2.1, 16, .inl mv))]) rfl rfl rfl (by decide) (k_X0_twice E l (mv ((column + 0) &&& 15).toNatClampNeg)) (va_cwS 1 hts gX0_mixColumn_X0_twice rfl rfl rfl (by decide +kernel) ⟨Nat.le_of_ble_eq_true rfl, Nat.le_of_ble_eq_true rfl⟩) rfl rfl (Nat.le_of_ble_eq_true rfl) dX0_mixColumn_92 ⟨Nat.le_of_ble_eq_true rfl, Nat.le_of_ble_eq_true rfl⟩ (fun r_375 _ H_376 locs_376 hu_375 hP_376 hD_376 hS_376 => ?_)
    have er_375 : r_375 = F_X0_twice (mv ((column + 0) &&& 15).toNatClampNeg) := hu_375
    clear hu_375
    replace hP_376 : va_P E.1 vwCl [(h, .inr (2, [.ref qk, .ref qc, .ref qv, .ref qt, .int rd])), (qc, .inl (E.2.1, 16, .inl (upd (upd (upd cl ((column + 0) &&& 15).toNatClampNeg v_318) ((column + 1) &&& 15).toNatClampNeg v_338) ((column + 2) &&& 15).toNatClampNeg v_358))), (qv, .inl (E.2.1, 16, .inl mv))] H_376 := hP_376
    replace hD_376 : va_D A [(h, .inr (2, [.ref qk, .ref qc, .ref qv, .ref qt, .int rd])), (qc, .inl (E.2.1, 16, .inl (upd (upd (upd cl ((column + 0) &&& 15).toNatClampNeg v_318) ((column + 1) &&& 15).toNatClampNeg v_338) ((column + 2) &&& 15).toNatClampNeg v_358))), (qv, .inl (E.2.1, 16, .inl mv))] := hD_376
    clear hP_374 hD_374 hS_374
    refine lv_ixor hx hb dX0_mixColumn_95 ?_
    refine lv_iload hx hb dX0_mixColumn_96 (lv_at hl_371 2 rfl) ?_
    refine lv_ixor hx hb dX0_mixColumn_98 ?_
    refine lv_topi (fun v_377 ev_377 => ?_)
    refine lv_iload hx hb dX0_mixColumn_99 (lv_at hl_371 1 rfl) ?_
    refine lv_ixor hx hb dX0_mixColumn_101 ?_
    refine lv_iload hx hb dX0_mixColumn_102 (lv_at hl_371 0 rfl) ?_
    refine lv_ixor hx hb dX0_mixColumn_104 ?_
    refine lv_topi (fun v_378 ev_378 => ?_)
    refine lv_goto (tgt := 110) hx hb dX0_mixColumn_105 (by decide) ?_
    refine va_iast hx hb hK hP_376 hD_376 hS_376 1 0 rfl rfl (pk_andIn _ 4 (by decide) (by decide)) dX0_mixColumn_110 (fun H_379 locs_379 hP_379 hD_379 hS_379 => ?_)
    replace hP_379 : va_P E.1 vwCl [(h, .inr (2, [.ref qk, .ref qc, .ref qv, .ref qt, .int rd])), (qc, .inl (E.2.1, 16, .inl (upd (upd (upd (upd cl ((column + 0) &&& 15).toNatClampNeg v_318) ((column + 1) &&& 15).toNatClampNeg v_338) ((column + 2) &&& 15).toNatClampNeg v_358) ((column + 3) &&& 15).toNatClampNeg v_378))), (qv, .inl (E.2.1, 16, .inl mv))] H_379 := hP_379
    replace hD_379 : va_D A [(h, .inr (2, [.ref qk, .ref qc, .ref qv, .ref qt, .int rd])), (qc, .inl (E.2.1, 16, .inl (upd (upd (upd (upd cl ((column + 0) &&& 15).toNatClampNeg v_318) ((column + 1) &&& 15).toNatClampNeg v_338) ((column + 2) &&& 15).toNatClampNeg v_358) ((column + 3) &&& 15).toNatClampNeg v_378))), (qv, .inl (E.2.1, 16, .inl mv))] := hD_379
    clear hP_376 hD_376 hS_376
    refine lv_iinc (v := 4) (lv' := [(3, .int 4), (7, .int (mv ((column + 2) &&& 15).toNatClampNeg)), (6, .int (mv ((column + 1) &&& 15).toNatClampNeg)), (5, .int (mv ((column + 0) &&& 15).toNatClampNeg)), (4, .int (mv ((column + 3) &&& 15).toNatClampNeg)), (0, .ref h), (1, .int column), (2, .int mixing)]) hx hb dX0_mixColumn_111 hl_371 (k := 4) rfl (by decide) (by decide) rfl (fun ls_380 hl_380 => ?_)
    clear hl_371
    refine lv_goto (tgt := 2) hx hb dX0_mixColumn_114 (by decide) ?_
    refine lv_iload_n hx hb dX0_mixColumn_2 rfl (lv_at hl_380 0 rfl) ?_
    refine lv_iconst (v := 4) hx hb dX0_mixColumn_3 (by decide) ?_
    refine lv_icmp_ge (tgt := 117) hx hb dX0_mixColumn_4 (by decide) (fun c_381 => ?_) (fun c_381 => absurd (by decide) c_381)
    have hpost : ((upd (upd (upd (upd cl ((column + 0) &&& 15).toNatClampNeg v_318) ((column + 1) &&& 15).toNatClampNeg v_338) ((column + 2) &&& 15).toNatClampNeg v_358) ((column + 3) &&& 15).toNatClampNeg v_378) : Nat → Int32) = F_X0_mixColumn cl mv column mixing := (show F_X0_mixColumn cl mv column mixing = ((upd (upd (upd (upd cl ((column + 0) &&& 15).toNatClampNeg v_318) ((column + 1) &&& 15).toNatClampNeg v_338) ((column + 2) &&& 15).toNatClampNeg v_358) ((column + 3) &&& 15).toNatClampNeg v_378) : Nat → Int32) from ((if_neg c_267).trans (gLet_eq er_313 (gLet_eq er_315 (gLet_eq ev_317 (gLet_eq ev_318 (gLet_eq er_333 (gLet_eq er_335 (gLet_eq ev_337 (gLet_eq ev_338 (gLet_eq er_353 (gLet_eq er_355 (gLet_eq ev_357 (gLet_eq ev_358 (gLet_eq er_373 (gLet_eq er_375 (gLet_eq ev_377 (gLet_eq ev_378 rfl)))))))))))))))))).symm
    have hP9 := hP_379.sub (ws' := [(h, .inr (2, [.ref qk, .ref qc, .ref qv, .ref qt, .int rd])), (qc, .inl (E.2.1, 16, .inl (upd (upd (upd (upd cl ((column + 0) &&& 15).toNatClampNeg v_318) ((column + 1) &&& 15).toNatClampNeg v_338) ((column + 2) &&& 15).toNatClampNeg v_358) ((column + 3) &&& 15).toNatClampNeg v_378))), (qv, .inl (E.2.1, 16, .inl mv))]) [0, 1, 2] rfl
    have hD9 := hD_379.sub (ws' := [(h, .inr (2, [.ref qk, .ref qc, .ref qv, .ref qt, .int rd])), (qc, .inl (E.2.1, 16, .inl (upd (upd (upd (upd cl ((column + 0) &&& 15).toNatClampNeg v_318) ((column + 1) &&& 15).toNatClampNeg v_338) ((column + 2) &&& 15).toNatClampNeg v_358) ((column + 3) &&& 15).toNatClampNeg v_378))), (qv, .inl (E.2.1, 16, .inl mv))]) [0, 1, 2] (by decide) rfl
    exact W.vret hx hb hr (fun t ht hW => ⟨⟨(upd (upd (upd (upd cl ((column + 0) &&& 15).toNatClampNeg v_318) ((column + 1) &&& 15).toNatClampNeg v_338) ((column + 2) &&& 15).toNatClampNeg v_358) ((column + 3) &&& 15).toNatClampNeg v_378), rfl, hpost, by rw [ht]; exact hP9, hD9⟩, hS_379.F ht⟩) hS_379.2.2 dX0_mixColumn_117
set_option maxHeartbeats 4000000 in
set_option maxRecDepth 100000 in
theorem k_X0_unmixColumn (E : gE) (l : Launch) (h qk qc qv qt : Nat) (rd : Int32) (cl : Nat → Int32) (mv : Nat → Int32) (column : Int32) (mixing : Int32) : gMv E l yX0_unmixColumn wsX0_unmixColumn ({ frames := 1, cells := 0, slots := 0, locals := 20 }) 0 0 [.ref h, .int column, .int mixing] [(h, .inr (2, [.ref qk, .ref qc, .ref qv, .ref qt, .int rd])), (qc, .inl (E.2.1, 16, .inl cl)), (qv, .inl (E.2.1, 16, .inl mv))] (fun (uu : Nat → Int32) => uu = F_X0_unmixColumn cl mv column mixing) (fun (uu : Nat → Int32) => [(h, .inr (2, [.ref qk, .ref qc, .ref qv, .ref qt, .int rd])), (qc, .inl (E.2.1, 16, .inl cl)), (qv, .inl (E.2.1, 16, .inl uu))]) := by
  intro sz
  refine Met.ofW (cc := cX0_unmixColumn) (maxL := 11) (ret := none) (by decide) rfl ?_
  intro p e s m args below meth c s₁ B hml hv
  obtain ⟨rfl, hsz, hP, hV, hD0⟩ := hv
  have hx := B.exec
  have hb := B.bytes
  have hr := B.returns
  have hts := atoms_spec (ws := wsX0_unmixColumn) B.pre
  have hown : s.vm.findClass RX0 = some m.cls := findClass_of_methodNamed B.named
  have hlocks := B.notSynchronized
  subst hsz
  have hD := hD0.self (sz := s.heap.size)
  clear hD0
  generalize hAe : va_A [(h, .inr (2, [.ref qk, .ref qc, .ref qv, .ref qt, .int rd])), (qc, .inl (E.2.1, 16, .inl cl)), (qv, .inl (E.2.1, 16, .inl mv))] s.heap.size = A at hD hV ⊢
  have hA : ∀ q : Nat, s.heap.size ≤ q → A q := fun q h => by rw [← hAe]; exact Or.inr h
  have hS : va_S A s.heap s.heap [] := va_S.rf
  have hK := hV.1
  have hF : CallFix p m c cX0_unmixColumn 11 s _ wsX0_unmixColumn RX0 := ⟨hx, hb, hml, hown, hts⟩
  have hl := lv_entry [.ref h, .int column, .int mixing] (n := 11) (Nat.le_of_ble_eq_true rfl)
  rw [lg_entry_eq]
  generalize (lg_sl [.ref h, .int column, .int mixing] ++ List.replicate (11 - (lg_sl [.ref h, .int column, .int mixing]).length) Slot.unset).toArray = ls at hl ⊢
  have hl : lv_has ls 11 [(0, .ref h), (1, .int column), (2, .int mixing)] := hl
  have in_X0 : ∀ w ∈ wsX00, w ∈ wsX0_unmixColumn := by decide +kernel
  have w_0 := hts (.fieldLink RX0 13 "CryptRows$Blocks" "cells" "[I") (by decide +kernel)
  have w_1 := hts (.fieldLink RX0 16 "CryptRows$Blocks" "moved" "[I") (by decide +kernel)
  refine lv_iconst (v := 0) hx hb dX0_unmixColumn_0 (by decide) ?_
  refine lv_istore_n (lv' := [(3, .int 0), (0, .ref h), (1, .int column), (2, .int mixing)]) hx hb dX0_unmixColumn_1 rfl hl (by decide) rfl (fun ls_489 hl_489 => ?_)
  clear hl
  refine lv_iload_n hx hb dX0_unmixColumn_2 rfl (lv_at hl_489 0 rfl) ?_
  refine lv_iconst (v := 4) hx hb dX0_unmixColumn_3 (by decide) ?_
  refine lv_icmp_ge (tgt := 159) hx hb dX0_unmixColumn_4 (by decide) (fun c_490 => absurd c_490 (by decide)) (fun c_490 => ?_)
  refine lv_aload_n hx hb dX0_unmixColumn_7 rfl (lv_at hl_489 1 rfl) ?_
  refine va_get (D := E.1) (ci := 2) (v := .ref qc) (C := RX0) (T := TX0) (N := 5) hx hb hts in_X0 hown hK hP 0 rfl rfl 1 (by decide) w_0 (fun _ h9 => h9) rfl dX0_unmixColumn_8 ?_
  refine lv_iload_n hx hb dX0_unmixColumn_11 rfl (lv_at hl_489 2 rfl) ?_
  refine lv_iload_n hx hb dX0_unmixColumn_12 rfl (lv_at hl_489 0 rfl) ?_
  refine lv_iadd hx hb dX0_unmixColumn_13 ?_
  refine lv_bipush (v := 15) hx hb dX0_unmixColumn_14 (by decide) ?_
  refine lv_iand hx hb dX0_unmixColumn_16 ?_
  refine va_iald hx hb hK hP 1 0 rfl rfl (pk_andIn _ 4 (by decide) (by decide)) dX0_unmixColumn_17 ?_
  refine lv_istore (lv' := [(4, .int (cl ((column + 0) &&& 15).toNatClampNeg)), (3, .int 0), (0, .ref h), (1, .int column), (2, .int mixing)]) hx hb dX0_unmixColumn_18 hl_489 (by decide) rfl (fun ls_491 hl_491 => ?_)
  clear hl_489
  refine lv_aload_n hx hb dX0_unmixColumn_20 rfl (lv_at hl_491 2 rfl) ?_
  refine va_get (D := E.1) (ci := 2) (v := .ref qc) (C := RX0) (T := TX0) (N := 5) hx hb hts in_X0 hown hK hP 0 rfl rfl 1 (by decide) w_0 (fun _ h9 => h9) rfl dX0_unmixColumn_21 ?_
  refine lv_iload_n hx hb dX0_unmixColumn_24 rfl (lv_at hl_491 3 rfl) ?_
  refine lv_iload_n hx hb dX0_unmixColumn_25 rfl (lv_at hl_491 1 rfl) ?_
  refine lv_iconst (v := 1) hx hb dX0_unmixColumn_26 (by decide) ?_
  refine lv_iadd hx hb dX0_unmixColumn_27 ?_
  refine lv_topi (fun y_492 ey_492 => ?_)
  obtain rfl : y_492 = 1 := ey_492.trans (by decide)
  refine lv_iconst (v := 3) hx hb dX0_unmixColumn_28 (by decide) ?_
  refine lv_iand hx hb dX0_unmixColumn_29 ?_
  refine lv_topi (fun y_493 ey_493 => ?_)
  obtain rfl : y_493 = 1 := ey_493.trans (by decide)
  refine lv_iadd hx hb dX0_unmixColumn_30 ?_
  refine lv_bipush (v := 15) hx hb dX0_unmixColumn_31 (by decide) ?_
  refine lv_iand hx hb dX0_unmixColumn_33 ?_
  refine va_iald hx hb hK hP 1 0 rfl rfl (pk_andIn _ 4 (by decide) (by decide)) dX0_unmixColumn_34 ?_
  refine lv_istore (lv' := [(5, .int (cl ((column + 1) &&& 15).toNatClampNeg)), (4, .int (cl ((column + 0) &&& 15).toNatClampNeg)), (3, .int 0), (0, .ref h), (1, .int column), (2, .int mixing)]) hx hb dX0_unmixColumn_35 hl_491 (by decide) rfl (fun ls_494 hl_494 => ?_)
  clear hl_491
  refine lv_aload_n hx hb dX0_unmixColumn_37 rfl (lv_at hl_494 3 rfl) ?_
  refine va_get (D := E.1) (ci := 2) (v := .ref qc) (C := RX0) (T := TX0) (N := 5) hx hb hts in_X0 hown hK hP 0 rfl rfl 1 (by decide) w_0 (fun _ h9 => h9) rfl dX0_unmixColumn_38 ?_
  refine lv_iload_n hx hb dX0_unmixColumn_41 rfl (lv_at hl_494 4 rfl) ?_
  refine lv_iload_n hx hb dX0_unmixColumn_42 rfl (lv_at hl_494 2 rfl) ?_
  refine lv_iconst (v := 2) hx hb dX0_unmixColumn_43 (by decide) ?_
  refine lv_iadd hx hb dX0_unmixColumn_44 ?_
  refine lv_topi (fun y_495 ey_495 => ?_)
  obtain rfl : y_495 = 2 := ey_495.trans (by decide)
  refine lv_iconst (v := 3) hx hb dX0_unmixColumn_45 (by decide) ?_
  refine lv_iand hx hb dX0_unmixColumn_46 ?_
  refine lv_topi (fun y_496 ey_496 => ?_)
  obtain rfl : y_496 = 2 := ey_496.trans (by decide)
  refine lv_iadd hx hb dX0_unmixColumn_47 ?_
  refine lv_bipush (v := 15) hx hb dX0_unmixColumn_48 (by decide) ?_
  refine lv_iand hx hb dX0_unmixColumn_50 ?_
  refine va_iald hx hb hK hP 1 0 rfl rfl (pk_andIn _ 4 (by decide) (by decide)) dX0_unmixColumn_51 ?_
  refine lv_istore (lv' := [(6, .int (cl ((column + 2) &&& 15).toNatClampNeg)), (5, .int (cl ((column + 1) &&& 15).toNatClampNeg)), (4, .int (cl ((column + 0) &&& 15).toNatClampNeg)), (3, .int 0), (0, .ref h), (1, .int column), (2, .int mixing)]) hx hb dX0_unmixColumn_52 hl_494 (by decide) rfl (fun ls_497 hl_497 => ?_)
  clear hl_494
  refine lv_aload_n hx hb dX0_unmixColumn_54 rfl (lv_at hl_497 4 rfl) ?_
  refine va_get (D := E.1) (ci := 2) (v := .ref qc) (C := RX0) (T := TX0) (N := 5) hx hb hts in_X0 hown hK hP 0 rfl rfl 1 (by decide) w_0 (fun _ h9 => h9) rfl dX0_unmixColumn_55 ?_
  refine lv_iload_n hx hb dX0_unmixColumn_58 rfl (lv_at hl_497 5 rfl) ?_
  refine lv_iload_n hx hb dX0_unmixColumn_59 rfl (lv_at hl_497 3 rfl) ?_
  refine lv_iconst (v := 3) hx hb dX0_unmixColumn_60 (by decide) ?_
  refine lv_iadd hx hb dX0_unmixColumn_61 ?_
  refine lv_topi (fun y_498 ey_498 => ?_)
  obtain rfl : y_498 = 3 := ey_498.trans (by decide)
  refine lv_iconst (v := 3) hx hb dX0_unmixColumn_62 (by decide) ?_
  refine lv_iand hx hb dX0_unmixColumn_63 ?_
  refine lv_topi (fun y_499 ey_499 => ?_)
  obtain rfl : y_499 = 3 := ey_499.trans (by decide)
  refine lv_iadd hx hb dX0_unmixColumn_64 ?_
  refine lv_bipush (v := 15) hx hb dX0_unmixColumn_65 (by decide) ?_
  refine lv_iand hx hb dX0_unmixColumn_67 ?_
  refine va_iald hx hb hK hP 1 0 rfl rfl (pk_andIn _ 4 (by decide) (by decide)) dX0_unmixColumn_68 ?_
  refine lv_istore (lv' := [(7, .int (cl ((column + 3) &&& 15).toNatClampNeg)), (6, .int (cl ((column + 2) &&& 15).toNatClampNeg)), (5, .int (cl ((column + 1) &&& 15).toNatClampNeg)), (4, .int (cl ((column + 0) &&& 15).toNatClampNeg)), (3, .int 0), (0, .ref h), (1, .int column), (2, .int mixing)]) hx hb dX0_unmixColumn_69 hl_497 (by decide) rfl (fun ls_500 hl_500 => ?_)
  clear hl_497
  refine lv_iload hx hb dX0_unmixColumn_71 (lv_at hl_500 3 rfl) ?_
  refine lv_iload hx hb dX0_unmixColumn_73 (lv_at hl_500 2 rfl) ?_
  refine lv_ixor hx hb dX0_unmixColumn_75 ?_
  refine lv_topi (fun v_501 ev_501 => ?_)
  refine lv_iload hx hb dX0_unmixColumn_76 (lv_at hl_500 1 rfl) ?_
  refine lv_ixor hx hb dX0_unmixColumn_78 ?_
  refine lv_iload hx hb dX0_unmixColumn_79 (lv_at hl_500 0 rfl) ?_
  refine lv_ixor hx hb dX0_unmixColumn_81 ?_
  refine lv_topi (fun v_502 ev_502 => ?_)
  refine gSi hF hl_500 hV hP hD hS hA [] [0, 1, 2] (wc := []) (wr := [(h, .inr (2, [.ref qk, .ref qc, .ref qv, .ref qt, .int rd])), (qc, .inl (E.2.1, 16, .inl cl)), (qv, .inl (E.2.1, 16, .inl mv))]) rfl rfl rfl (by decide) (k_X0_twice E l v_502) (va_cwS 1 hts gX0_unmixColumn_X0_twice rfl rfl rfl (by decide +kernel) ⟨Nat.le_of_ble_eq_true rfl, Nat.le_of_ble_eq_true rfl⟩) rfl rfl (Nat.le_of_ble_eq_true rfl) dX0_unmixColumn_82 ⟨Nat.le_of_ble_eq_true rfl, Nat.le_of_ble_eq_true rfl⟩ (fun r_503 _ H_504 locs_504 hu_503 hP_504 hD_504 hS_504 => ?_)
  have er_503 : r_503 = F_X0_twice v_502 := hu_503
  clear hu_503
  replace hP_504 : va_P E.1 vwCl [(h, .inr (2, [.ref qk, .ref qc, .ref qv, .ref qt, .int rd])), (qc, .inl (E.2.1, 16, .inl cl)), (qv, .inl (E.2.1, 16, .inl mv))] H_504 := hP_504
  replace hD_504 : va_D A [(h, .inr (2, [.ref qk, .ref qc, .ref qv, .ref qt, .int rd])), (qc, .inl (E.2.1, 16, .inl cl)), (qv, .inl (E.2.1, 16, .inl mv))] := hD_504
  clear hP hD hS
  refine gSi hF hl_500 hV hP_504 hD_504 hS_504 hA [] [0, 1, 2] (wc := []) (wr := [(h, .inr (2, [.ref qk, .ref qc, .ref qv, .ref qt, .int rd])), (qc, .inl (E.2.1, 16, .inl cl)), (qv, .inl (E.2.1, 16, .inl mv))]) rfl rfl rfl (by decide) (k_X0_twice E l r_503) (va_cwS 1 hts gX0_unmixColumn_X0_twice rfl rfl rfl (by decide +kernel) ⟨Nat.le_of_ble_eq_true rfl, Nat.le_of_ble_eq_true rfl⟩) rfl rfl (Nat.le_of_ble_eq_true rfl) dX0_unmixColumn_85 ⟨Nat.le_of_ble_eq_true rfl, Nat.le_of_ble_eq_true rfl⟩ (fun r_505 _ H_506 locs_506 hu_505 hP_506 hD_506 hS_506 => ?_)
  have er_505 : r_505 = F_X0_twice r_503 := hu_505
  clear hu_505
  replace hP_506 : va_P E.1 vwCl [(h, .inr (2, [.ref qk, .ref qc, .ref qv, .ref qt, .int rd])), (qc, .inl (E.2.1, 16, .inl cl)), (qv, .inl (E.2.1, 16, .inl mv))] H_506 := hP_506
  replace hD_506 : va_D A [(h, .inr (2, [.ref qk, .ref qc, .ref qv, .ref qt, .int rd])), (qc, .inl (E.2.1, 16, .inl cl)), (qv, .inl (E.2.1, 16, .inl mv))] := hD_506
  clear hP_504 hD_504 hS_504
  refine gSi hF hl_500 hV hP_506 hD_506 hS_506 hA [] [0, 1, 2] (wc := []) (wr := [(h, .inr (2, [.ref qk, .ref qc, .ref qv, .ref qt, .int rd])), (qc, .inl (E.2.1, 16, .inl cl)), (qv, .inl (E.2.1, 16, .inl mv))]) rfl rfl rfl (by decide) (k_X0_twice E l r_505) (va_cwS 1 hts gX0_unmixColumn_X0_twice rfl rfl rfl (by decide +kernel) ⟨Nat.le_of_ble_eq_true rfl, Nat.le_of_ble_eq_true rfl⟩) rfl rfl (Nat.le_of_ble_eq_true rfl) dX0_unmixColumn_88 ⟨Nat.le_of_ble_eq_true rfl, Nat.le_of_ble_eq_true rfl⟩ (fun r_507 _ H_508 locs_508 hu_507 hP_508 hD_508 hS_508 => ?_)
  have er_507 : r_507 = F_X0_twice r_505 := hu_507
  clear hu_507
  replace hP_508 : va_P E.1 vwCl [(h, .inr (2, [.ref qk, .ref qc, .ref qv, .ref qt, .int rd])), (qc, .inl (E.2.1, 16, .inl cl)), (qv, .inl (E.2.1, 16, .inl mv))] H_508 := hP_508
  replace hD_508 : va_D A [(h, .inr (2, [.ref qk, .ref qc, .ref qv, .ref qt, .int rd])), (qc, .inl (E.2.1, 16, .inl cl)), (qv, .inl (E.2.1, 16, .inl mv))] := hD_508
  clear hP_506 hD_506 hS_506
  refine lv_istore (lv' := [(8, .int r_507), (7, .int (cl ((column + 3) &&& 15).toNatClampNeg)), (6, .int (cl ((column + 2) &&& 15).toNatClampNeg)), (5, .int (cl ((column + 1) &&& 15).toNatClampNeg)), (4, .int (cl ((column + 0) &&& 15).toNatClampNeg)), (3, .int 0), (0, .ref h), (1, .int column), (2, .int mixing)]) hx hb dX0_unmixColumn_91 hl_500 (by decide) rfl (fun ls_509 hl_509 => ?_)
  clear hl_500
  refine lv_iload hx hb dX0_unmixColumn_93 (lv_at hl_509 4 rfl) ?_
  refine lv_iload hx hb dX0_unmixColumn_95 (lv_at hl_509 2 rfl) ?_
  refine lv_ixor hx hb dX0_unmixColumn_97 ?_
  refine lv_topi (fun v_510 ev_510 => ?_)
  refine gSi hF hl_509 hV hP_508 hD_508 hS_508 hA [] [0, 1, 2] (wc := []) (wr := [(h, .inr (2, [.ref qk, .ref qc, .ref qv, .ref qt, .int rd])), (qc, .inl (E.2.1, 16, .inl cl)), (qv, .inl (E.2.1, 16, .inl mv))]) rfl rfl rfl (by decide) (k_X0_twice E l v_510) (va_cwS 1 hts gX0_unmixColumn_X0_twice rfl rfl rfl (by decide +kernel) ⟨Nat.le_of_ble_eq_true rfl, Nat.le_of_ble_eq_true rfl⟩) rfl rfl (Nat.le_of_ble_eq_true rfl) dX0_unmixColumn_98 ⟨Nat.le_of_ble_eq_true rfl, Nat.le_of_ble_eq_true rfl⟩ (fun r_511 _ H_512 locs_512 hu_511 hP_512 hD_512 hS_512 => ?_)
  have er_511 : r_511 = F_X0_twice v_510 := hu_511
  clear hu_511
  replace hP_512 : va_P E.1 vwCl [(h, .inr (2, [.ref qk, .ref qc, .ref qv, .ref qt, .int rd])), (qc, .inl (E.2.1, 16, .inl cl)), (qv, .inl (E.2.1, 16, .inl mv))] H_512 := hP_512
  replace hD_512 : va_D A [(h, .inr (2, [.ref qk, .ref qc, .ref qv, .ref qt, .int rd])), (qc, .inl (E.2.1, 16, .inl cl)), (qv, .inl (E.2.1, 16, .inl mv))] := hD_512
  clear hP_508 hD_508 hS_508
  refine gSi hF hl_509 hV hP_512 hD_512 hS_512 hA [] [0, 1, 2] (wc := []) (wr := [(h, .inr (2, [.ref qk, .ref qc, .ref qv, .ref qt, .int rd])), (qc, .inl (E.2.1, 16, .inl cl)), (qv, .inl (E.2.1, 16, .inl mv))]) rfl rfl rfl (by decide) (k_X0_twice E l r_511) (va_cwS 1 hts gX0_unmixColumn_X0_twice rfl rfl rfl (by decide +kernel) ⟨Nat.le_of_ble_eq_true rfl, Nat.le_of_ble_eq_true rfl⟩) rfl rfl (Nat.le_of_ble_eq_true rfl) dX0_unmixColumn_101 ⟨Nat.le_of_ble_eq_true rfl, Nat.le_of_ble_eq_true rfl⟩ (fun r_513 _ H_514 locs_514 hu_513 hP_514 hD_514 hS_514 => ?_)
  have er_513 : r_513 = F_X0_twice r_511 := hu_513
  clear hu_513
  replace hP_514 : va_P E.1 vwCl [(h, .inr (2, [.ref qk, .ref qc, .ref qv, .ref qt, .int rd])), (qc, .inl (E.2.1, 16, .inl cl)), (qv, .inl (E.2.1, 16, .inl mv))] H_514 := hP_514
  replace hD_514 : va_D A [(h, .inr (2, [.ref qk, .ref qc, .ref qv, .ref qt, .int rd])), (qc, .inl (E.2.1, 16, .inl cl)), (qv, .inl (E.2.1, 16, .inl mv))] := hD_514
  clear hP_512 hD_512 hS_512
  refine lv_istore (lv' := [(9, .int r_513), (8, .int r_507), (7, .int (cl ((column + 3) &&& 15).toNatClampNeg)), (6, .int (cl ((column + 2) &&& 15).toNatClampNeg)), (5, .int (cl ((column + 1) &&& 15).toNatClampNeg)), (4, .int (cl ((column + 0) &&& 15).toNatClampNeg)), (3, .int 0), (0, .ref h), (1, .int column), (2, .int mixing)]) hx hb dX0_unmixColumn_104 hl_509 (by decide) rfl (fun ls_515 hl_515 => ?_)
  clear hl_509
  refine lv_iload hx hb dX0_unmixColumn_106 (lv_at hl_515 5 rfl) ?_
  refine lv_iload hx hb dX0_unmixColumn_108 (lv_at hl_515 4 rfl) ?_
  refine lv_ixor hx hb dX0_unmixColumn_110 ?_
  refine lv_topi (fun v_516 ev_516 => ?_)
  refine gSi hF hl_515 hV hP_514 hD_514 hS_514 hA [] [0, 1, 2] (wc := []) (wr := [(h, .inr (2, [.ref qk, .ref qc, .ref qv, .ref qt, .int rd])), (qc, .inl (E.2.1, 16, .inl cl)), (qv, .inl (E.2.1, 16, .inl mv))]) rfl rfl rfl (by decide) (k_X0_twice E l v_516) (va_cwS 1 hts gX0_unmixColumn_X0_twice rfl rfl rfl (by decide +kernel) ⟨Nat.le_of_ble_eq_true rfl, Nat.le_of_ble_eq_true rfl⟩) rfl rfl (Nat.le_of_ble_eq_true rfl) dX0_unmixColumn_111 ⟨Nat.le_of_ble_eq_true rfl, Nat.le_of_ble_eq_true rfl⟩ (fun r_517 _ H_518 locs_518 hu_517 hP_518 hD_518 hS_518 => ?_)
  have er_517 : r_517 = F_X0_twice v_516 := hu_517
  clear hu_517
  replace hP_518 : va_P E.1 vwCl [(h, .inr (2, [.ref qk, .ref qc, .ref qv, .ref qt, .int rd])), (qc, .inl (E.2.1, 16, .inl cl)), (qv, .inl (E.2.1, 16, .inl mv))] H_518 := hP_518
  replace hD_518 : va_D A [(h, .inr (2, [.ref qk, .ref qc, .ref qv, .ref qt, .int rd])), (qc, .inl (E.2.1, 16, .inl cl)), (qv, .inl (E.2.1, 16, .inl mv))] := hD_518
  clear hP_514 hD_514 hS_514
  refine lv_istore (lv' := [(10, .int r_517), (9, .int r_513), (8, .int r_507), (7, .int (cl ((column + 3) &&& 15).toNatClampNeg)), (6, .int (cl ((column + 2) &&& 15).toNatClampNeg)), (5, .int (cl ((column + 1) &&& 15).toNatClampNeg)), (4, .int (cl ((column + 0) &&& 15).toNatClampNeg)), (3, .int 0), (0, .ref h), (1, .int column), (2, .int mixing)]) hx hb dX0_unmixColumn_114 hl_515 (by decide) rfl (fun ls_519 hl_519 => ?_)
  clear hl_515
  refine lv_aload_n hx hb dX0_unmixColumn_116 rfl (lv_at hl_519 8 rfl) ?_
  refine va_get (D := E.1) (ci := 2) (v := .ref qv) (C := RX0) (T := TX0) (N := 5) hx hb hts in_X0 hown hK hP_518 0 rfl rfl 2 (by decide) w_1 (fun _ h9 => h9) rfl dX0_unmixColumn_117 ?_
  refine lv_iload_n hx hb dX0_unmixColumn_120 rfl (lv_at hl_519 9 rfl) ?_
  refine lv_iload_n hx hb dX0_unmixColumn_121 rfl (lv_at hl_519 7 rfl) ?_
  refine lv_iadd hx hb dX0_unmixColumn_122 ?_
  refine lv_bipush (v := 15) hx hb dX0_unmixColumn_123 (by decide) ?_
  refine lv_iand hx hb dX0_unmixColumn_125 ?_
  refine lv_iload_n hx hb dX0_unmixColumn_126 rfl (lv_at hl_519 10 rfl) ?_
  refine lv_if_eq (tgt := 150) hx hb dX0_unmixColumn_127 (by decide) (fun c_520 => ?_) (fun c_520 => ?_)
  · replace c_520 : mixing = 0 := c_520
    refine lv_iload hx hb dX0_unmixColumn_150 (lv_at hl_519 6 rfl) ?_
    refine va_iast hx hb hK hP_518 hD_518 hS_518 2 0 rfl rfl (pk_andIn _ 4 (by decide) (by decide)) dX0_unmixColumn_152 (fun H_521 locs_521 hP_521 hD_521 hS_521 => ?_)
    replace hP_521 : va_P E.1 vwCl [(h, .inr (2, [.ref qk, .ref qc, .ref qv, .ref qt, .int rd])), (qc, .inl (E.2.1, 16, .inl cl)), (qv, .inl (E.2.1, 16, .inl (upd mv ((column + 0) &&& 15).toNatClampNeg (cl ((column + 0) &&& 15).toNatClampNeg))))] H_521 := hP_521
    replace hD_521 : va_D A [(h, .inr (2, [.ref qk, .ref qc, .ref qv, .ref qt, .int rd])), (qc, .inl (E.2.1, 16, .inl cl)), (qv, .inl (E.2.1, 16, .inl (upd mv ((column + 0) &&& 15).toNatClampNeg (cl ((column + 0) &&& 15).toNatClampNeg))))] := hD_521
    clear hP_518 hD_518 hS_518
    refine lv_iinc (v := 1) (lv' := [(3, .int 1), (10, .int r_517), (9, .int r_513), (8, .int r_507), (7, .int (cl ((column + 3) &&& 15).toNatClampNeg)), (6, .int (cl ((column + 2) &&& 15).toNatClampNeg)), (5, .int (cl ((column + 1) &&& 15).toNatClampNeg)), (4, .int (cl ((column + 0) &&& 15).toNatClampNeg)), (0, .ref h), (1, .int column), (2, .int mixing)]) hx hb dX0_unmixColumn_153 hl_519 (k := 7) rfl (by decide) (by decide) rfl (fun ls_522 hl_522 => ?_)
    clear hl_519
    refine lv_goto (tgt := 2) hx hb dX0_unmixColumn_156 (by decide) ?_
    refine lv_iload_n hx hb dX0_unmixColumn_2 rfl (lv_at hl_522 0 rfl) ?_
    refine lv_iconst (v := 4) hx hb dX0_unmixColumn_3 (by decide) ?_
    refine lv_icmp_ge (tgt := 159) hx hb dX0_unmixColumn_4 (by decide) (fun c_523 => absurd c_523 (by decide)) (fun c_523 => ?_)
    refine lv_aload_n hx hb dX0_unmixColumn_7 rfl (lv_at hl_522 8 rfl) ?_
    refine va_get (D := E.1) (ci := 2) (v := .ref qc) (C := RX0) (T := TX0) (N := 5) hx hb hts in_X0 hown hK hP_521 0 rfl rfl 1 (by decide) w_0 (fun _ h9 => h9) rfl dX0_unmixColumn_8 ?_
    refine lv_iload_n hx hb dX0_unmixColumn_11 rfl (lv_at hl_522 9 rfl) ?_
    refine lv_iload_n hx hb dX0_unmixColumn_12 rfl (lv_at hl_522 0 rfl) ?_
    refine lv_iadd hx hb dX0_unmixColumn_13 ?_
    refine lv_bipush (v := 15) hx hb dX0_unmixColumn_14 (by decide) ?_
    refine lv_iand hx hb dX0_unmixColumn_16 ?_
    refine va_iald hx hb hK hP_521 1 0 rfl rfl (pk_andIn _ 4 (by decide) (by decide)) dX0_unmixColumn_17 ?_
    refine lv_istore (lv' := [(4, .int (cl ((column + 1) &&& 15).toNatClampNeg)), (3, .int 1), (10, .int r_517), (9, .int r_513), (8, .int r_507), (7, .int (cl ((column + 3) &&& 15).toNatClampNeg)), (6, .int (cl ((column + 2) &&& 15).toNatClampNeg)), (5, .int (cl ((column + 1) &&& 15).toNatClampNeg)), (0, .ref h), (1, .int column), (2, .int mixing)]) hx hb dX0_unmixColumn_18 hl_522 (by decide) rfl (fun ls_524 hl_524 => ?_)
    clear hl_522
    refine lv_aload_n hx hb dX0_unmixColumn_20 rfl (lv_at hl_524 8 rfl) ?_
    refine va_get (D := E.1) (ci := 2) (v := .ref qc) (C := RX0) (T := TX0) (N := 5) hx hb hts in_X0 hown hK hP_521 0 rfl rfl 1 (by decide) w_0 (fun _ h9 => h9) rfl dX0_unmixColumn_21 ?_
    refine lv_iload_n hx hb dX0_unmixColumn_24 rfl (lv_at hl_524 9 rfl) ?_
    refine lv_iload_n hx hb dX0_unmixColumn_25 rfl (lv_at hl_524 1 rfl) ?_
    refine lv_iconst (v := 1) hx hb dX0_unmixColumn_26 (by decide) ?_
    refine lv_iadd hx hb dX0_unmixColumn_27 ?_
    refine lv_topi (fun y_525 ey_525 => ?_)
    obtain rfl : y_525 = 2 := ey_525.trans (by decide)
    refine lv_iconst (v := 3) hx hb dX0_unmixColumn_28 (by decide) ?_
    refine lv_iand hx hb dX0_unmixColumn_29 ?_
    refine lv_topi (fun y_526 ey_526 => ?_)
    obtain rfl : y_526 = 2 := ey_526.trans (by decide)
    refine lv_iadd hx hb dX0_unmixColumn_30 ?_
    refine lv_bipush (v := 15) hx hb dX0_unmixColumn_31 (by decide) ?_
    refine lv_iand hx hb dX0_unmixColumn_33 ?_
    refine va_iald hx hb hK hP_521 1 0 rfl rfl (pk_andIn _ 4 (by decide) (by decide)) dX0_unmixColumn_34 ?_
    refine lv_istore (lv' := [(5, .int (cl ((column + 2) &&& 15).toNatClampNeg)), (4, .int (cl ((column + 1) &&& 15).toNatClampNeg)), (3, .int 1), (10, .int r_517), (9, .int r_513), (8, .int r_507), (7, .int (cl ((column + 3) &&& 15).toNatClampNeg)), (6, .int (cl ((column + 2) &&& 15).toNatClampNeg)), (0, .ref h), (1, .int column), (2, .int mixing)]) hx hb dX0_unmixColumn_35 hl_524 (by decide) rfl (fun ls_527 hl_527 => ?_)
    clear hl_524
    refine lv_aload_n hx hb dX0_unmixColumn_37 rfl (lv_at hl_527 8 rfl) ?_
    refine va_get (D := E.1) (ci := 2) (v := .ref qc) (C := RX0) (T := TX0) (N := 5) hx hb hts in_X0 hown hK hP_521 0 rfl rfl 1 (by decide) w_0 (fun _ h9 => h9) rfl dX0_unmixColumn_38 ?_
    refine lv_iload_n hx hb dX0_unmixColumn_41 rfl (lv_at hl_527 9 rfl) ?_
    refine lv_iload_n hx hb dX0_unmixColumn_42 rfl (lv_at hl_527 2 rfl) ?_
    refine lv_iconst (v := 2) hx hb dX0_unmixColumn_43 (by decide) ?_
    refine lv_iadd hx hb dX0_unmixColumn_44 ?_
    refine lv_topi (fun y_528 ey_528 => ?_)
    obtain rfl : y_528 = 3 := ey_528.trans (by decide)
    refine lv_iconst (v := 3) hx hb dX0_unmixColumn_45 (by decide) ?_
    refine lv_iand hx hb dX0_unmixColumn_46 ?_
    refine lv_topi (fun y_529 ey_529 => ?_)
    obtain rfl : y_529 = 3 := ey_529.trans (by decide)
    refine lv_iadd hx hb dX0_unmixColumn_47 ?_
    refine lv_bipush (v := 15) hx hb dX0_unmixColumn_48 (by decide) ?_
    refine lv_iand hx hb dX0_unmixColumn_50 ?_
    refine va_iald hx hb hK hP_521 1 0 rfl rfl (pk_andIn _ 4 (by decide) (by decide)) dX0_unmixColumn_51 ?_
    refine lv_istore (lv' := [(6, .int (cl ((column + 3) &&& 15).toNatClampNeg)), (5, .int (cl ((column + 2) &&& 15).toNatClampNeg)), (4, .int (cl ((column + 1) &&& 15).toNatClampNeg)), (3, .int 1), (10, .int r_517), (9, .int r_513), (8, .int r_507), (7, .int (cl ((column + 3) &&& 15).toNatClampNeg)), (0, .ref h), (1, .int column), (2, .int mixing)]) hx hb dX0_unmixColumn_52 hl_527 (by decide) rfl (fun ls_530 hl_530 => ?_)
    clear hl_527
    refine lv_aload_n hx hb dX0_unmixColumn_54 rfl (lv_at hl_530 8 rfl) ?_
    refine va_get (D := E.1) (ci := 2) (v := .ref qc) (C := RX0) (T := TX0) (N := 5) hx hb hts in_X0 hown hK hP_521 0 rfl rfl 1 (by decide) w_0 (fun _ h9 => h9) rfl dX0_unmixColumn_55 ?_
    refine lv_iload_n hx hb dX0_unmixColumn_58 rfl (lv_at hl_530 9 rfl) ?_
    refine lv_iload_n hx hb dX0_unmixColumn_59 rfl (lv_at hl_530 3 rfl) ?_
    refine lv_iconst (v := 3) hx hb dX0_unmixColumn_60 (by decide) ?_
    refine lv_iadd hx hb dX0_unmixColumn_61 ?_
    refine lv_topi (fun y_531 ey_531 => ?_)
    obtain rfl : y_531 = 4 := ey_531.trans (by decide)
    refine lv_iconst (v := 3) hx hb dX0_unmixColumn_62 (by decide) ?_
    refine lv_iand hx hb dX0_unmixColumn_63 ?_
    refine lv_topi (fun y_532 ey_532 => ?_)
    obtain rfl : y_532 = 0 := ey_532.trans (by decide)
    refine lv_iadd hx hb dX0_unmixColumn_64 ?_
    refine lv_bipush (v := 15) hx hb dX0_unmixColumn_65 (by decide) ?_
    refine lv_iand hx hb dX0_unmixColumn_67 ?_
    refine va_iald hx hb hK hP_521 1 0 rfl rfl (pk_andIn _ 4 (by decide) (by decide)) dX0_unmixColumn_68 ?_
    refine lv_istore (lv' := [(7, .int (cl ((column + 0) &&& 15).toNatClampNeg)), (6, .int (cl ((column + 3) &&& 15).toNatClampNeg)), (5, .int (cl ((column + 2) &&& 15).toNatClampNeg)), (4, .int (cl ((column + 1) &&& 15).toNatClampNeg)), (3, .int 1), (10, .int r_517), (9, .int r_513), (8, .int r_507), (0, .ref h), (1, .int column), (2, .int mixing)]) hx hb dX0_unmixColumn_69 hl_530 (by decide) rfl (fun ls_533 hl_533 => ?_)
    clear hl_530
    refine lv_iload hx hb dX0_unmixColumn_71 (lv_at hl_533 3 rfl) ?_
    refine lv_iload hx hb dX0_unmixColumn_73 (lv_at hl_533 2 rfl) ?_
    refine lv_ixor hx hb dX0_unmixColumn_75 ?_
    refine lv_topi (fun v_534 ev_534 => ?_)
    refine lv_iload hx hb dX0_unmixColumn_76 (lv_at hl_533 1 rfl) ?_
    refine lv_ixor hx hb dX0_unmixColumn_78 ?_
    refine lv_iload hx hb dX0_unmixColumn_79 (lv_at hl_533 0 rfl) ?_
    refine lv_ixor hx hb dX0_unmixColumn_81 ?_
    refine lv_topi (fun v_535 ev_535 => ?_)
    refine gSi hF hl_533 hV hP_521 hD_521 hS_521 hA [] [0, 1, 2] (wc := []) (wr := [(h, .inr (2, [.ref qk, .ref qc, .ref qv, .ref qt, .int rd])), (qc, .inl (E.2.1, 16, .inl cl)), (qv, .inl (E.2.1, 16, .inl (upd mv ((column + 0) &&& 15).toNatClampNeg (cl ((column + 0) &&& 15).toNatClampNeg))))]) rfl rfl rfl (by decide) (k_X0_twice E l v_535) (va_cwS 1 hts gX0_unmixColumn_X0_twice rfl rfl rfl (by decide +kernel) ⟨Nat.le_of_ble_eq_true rfl, Nat.le_of_ble_eq_true rfl⟩) rfl rfl (Nat.le_of_ble_eq_true rfl) dX0_unmixColumn_82 ⟨Nat.le_of_ble_eq_true rfl, Nat.le_of_ble_eq_true rfl⟩ (fun r_536 _ H_537 locs_537 hu_536 hP_537 hD_537 hS_537 => ?_)
    have er_536 : r_536 = F_X0_twice v_535 := hu_536
    clear hu_536
    replace hP_537 : va_P E.1 vwCl [(h, .inr (2, [.ref qk, .ref qc, .ref qv, .ref qt, .int rd])), (qc, .inl (E.2.1, 16, .inl cl)), (qv, .inl (E.2.1, 16, .inl (upd mv ((column + 0) &&& 15).toNatClampNeg (cl ((column + 0) &&& 15).toNatClampNeg))))] H_537 := hP_537
    replace hD_537 : va_D A [(h, .inr (2, [.ref qk, .ref qc, .ref qv, .ref qt, .int rd])), (qc, .inl (E.2.1, 16, .inl cl)), (qv, .inl (E.2.1, 16, .inl (upd mv ((column + 0) &&& 15).toNatClampNeg (cl ((column + 0) &&& 15).toNatClampNeg))))] := hD_537
    clear hP_521 hD_521 hS_521
    refine gSi hF hl_533 hV hP_537 hD_537 hS_537 hA [] [0, 1, 2] (wc := []) (wr := [(h, .inr (2, [.ref qk, .ref qc, .ref qv, .ref qt, .int rd])), (qc, .inl (E.2.1, 16, .inl cl)), (qv, .inl (E.2.1, 16, .inl (upd mv ((column + 0) &&& 15).toNatClampNeg (cl ((column + 0) &&& 15).toNatClampNeg))))]) rfl rfl rfl (by decide) (k_X0_twice E l r_536) (va_cwS 1 hts gX0_unmixColumn_X0_twice rfl rfl rfl (by decide +kernel) ⟨Nat.le_of_ble_eq_true rfl, Nat.le_of_ble_eq_true rfl⟩) rfl rfl (Nat.le_of_ble_eq_true rfl) dX0_unmixColumn_85 ⟨Nat.le_of_ble_eq_true rfl, Nat.le_of_ble_eq_true rfl⟩ (fun r_538 _ H_539 locs_539 hu_538 hP_539 hD_539 hS_539 => ?_)
    have er_538 : r_538 = F_X0_twice r_536 := hu_538
    clear hu_538
    replace hP_539 : va_P E.1 vwCl [(h, .inr (2, [.ref qk, .ref qc, .ref qv, .ref qt, .int rd])), (qc, .inl (E.2.1, 16, .inl cl)), (qv, .inl (E.2.1, 16, .inl (upd mv ((column + 0) &&& 15).toNatClampNeg (cl ((column + 0) &&& 15).toNatClampNeg))))] H_539 := hP_539
    replace hD_539 : va_D A [(h, .inr (2, [.ref qk, .ref qc, .ref qv, .ref qt, .int rd])), (qc, .inl (E.2.1, 16, .inl cl)), (qv, .inl (E.2.1, 16, .inl (upd mv ((column + 0) &&& 15).toNatClampNeg (cl ((column + 0) &&& 15).toNatClampNeg))))] := hD_539
    clear hP_537 hD_537 hS_537
    refine gSi hF hl_533 hV hP_539 hD_539 hS_539 hA [] [0, 1, 2] (wc := []) (wr := [(h, .inr (2, [.ref qk, .ref qc, .ref qv, .ref qt, .int rd])), (qc, .inl (E.2.1, 16, .inl cl)), (qv, .inl (E.2.1, 16, .inl (upd mv ((column + 0) &&& 15).toNatClampNeg (cl ((column + 0) &&& 15).toNatClampNeg))))]) rfl rfl rfl (by decide) (k_X0_twice E l r_538) (va_cwS 1 hts gX0_unmixColumn_X0_twice rfl rfl rfl (by decide +kernel) ⟨Nat.le_of_ble_eq_true rfl, Nat.le_of_ble_eq_true rfl⟩) rfl rfl (Nat.le_of_ble_eq_true rfl) dX0_unmixColumn_88 ⟨Nat.le_of_ble_eq_true rfl, Nat.le_of_ble_eq_true rfl⟩ (fun r_540 _ H_541 locs_541 hu_540 hP_541 hD_541 hS_541 => ?_)
    have er_540 : r_540 = F_X0_twice r_538 := hu_540
    clear hu_540
    replace hP_541 : va_P E.1 vwCl [(h, .inr (2, [.ref qk, .ref qc, .ref qv, .ref qt, .int rd])), (qc, .inl (E.2.1, 16, .inl cl)), (qv, .inl (E.2.1, 16, .inl (upd mv ((column + 0) &&& 15).toNatClampNeg (cl ((column + 0) &&& 15).toNatClampNeg))))] H_541 := hP_541
    replace hD_541 : va_D A [(h, .inr (2, [.ref qk, .ref qc, .ref qv, .ref qt, .int rd])), (qc, .inl (E.2.1, 16, .inl cl)), (qv, .inl (E.2.1, 16, .inl (upd mv ((column + 0) &&& 15).toNatClampNeg (cl ((column + 0) &&& 15).toNatClampNeg))))] := hD_541
    clear hP_539 hD_539 hS_539
    refine lv_istore (lv' := [(8, .int r_540), (7, .int (cl ((column + 0) &&& 15).toNatClampNeg)), (6, .int (cl ((column + 3) &&& 15).toNatClampNeg)), (5, .int (cl ((column + 2) &&& 15).toNatClampNeg)), (4, .int (cl ((column + 1) &&& 15).toNatClampNeg)), (3, .int 1), (10, .int r_517), (9, .int r_513), (0, .ref h), (1, .int column), (2, .int mixing)]) hx hb dX0_unmixColumn_91 hl_533 (by decide) rfl (fun ls_542 hl_542 => ?_)
    clear hl_533
    refine lv_iload hx hb dX0_unmixColumn_93 (lv_at hl_542 4 rfl) ?_
    refine lv_iload hx hb dX0_unmixColumn_95 (lv_at hl_542 2 rfl) ?_
    refine lv_ixor hx hb dX0_unmixColumn_97 ?_
    refine lv_topi (fun v_543 ev_543 => ?_)
    refine gSi hF hl_542 hV hP_541 hD_541 hS_541 hA [] [0, 1, 2] (wc := []) (wr := [(h, .inr (2, [.ref qk, .ref qc, .ref qv, .ref qt, .int rd])), (qc, .inl (E.2.1, 16, .inl cl)), (qv, .inl (E.2.1, 16, .inl (upd mv ((column + 0) &&& 15).toNatClampNeg (cl ((column + 0) &&& 15).toNatClampNeg))))]) rfl rfl rfl (by decide) (k_X0_twice E l v_543) (va_cwS 1 hts gX0_unmixColumn_X0_twice rfl rfl rfl (by decide +kernel) ⟨Nat.le_of_ble_eq_true rfl, Nat.le_of_ble_eq_true rfl⟩) rfl rfl (Nat.le_of_ble_eq_true rfl) dX0_unmixColumn_98 ⟨Nat.le_of_ble_eq_true rfl, Nat.le_of_ble_eq_true rfl⟩ (fun r_544 _ H_545 locs_545 hu_544 hP_545 hD_545 hS_545 => ?_)
    have er_544 : r_544 = F_X0_twice v_543 := hu_544
    clear hu_544
    replace hP_545 : va_P E.1 vwCl [(h, .inr (2, [.ref qk, .ref qc, .ref qv, .ref qt, .int rd])), (qc, .inl (E.2.1, 16, .inl cl)), (qv, .inl (E.2.1, 16, .inl (upd mv ((column + 0) &&& 15).toNatClampNeg (cl ((column + 0) &&& 15).toNatClampNeg))))] H_545 := hP_545
    replace hD_545 : va_D A [(h, .inr (2, [.ref qk, .ref qc, .ref qv, .ref qt, .int rd])), (qc, .inl (E.2.1, 16, .inl cl)), (qv, .inl (E.2.1, 16, .inl (upd mv ((column + 0) &&& 15).toNatClampNeg (cl ((column + 0) &&& 15).toNatClampNeg))))] := hD_545
    clear hP_541 hD_541 hS_541
    refine gSi hF hl_542 hV hP_545 hD_545 hS_545 hA [] [0, 1, 2] (wc := []) (wr := [(h, .inr (2, [.ref qk, .ref qc, .ref qv, .ref qt, .int rd])), (qc, .inl (E.2.1, 16, .inl cl)), (qv, .inl (E.2.1, 16, .inl (upd mv ((column + 0) &&& 15).toNatClampNeg (cl ((column + 0) &&& 15).toNatClampNeg))))]) rfl rfl rfl (by decide) (k_X0_twice E l r_544) (va_cwS 1 hts gX0_unmixColumn_X0_twice rfl rfl rfl (by decide +kernel) ⟨Nat.le_of_ble_eq_true rfl, Nat.le_of_ble_eq_true rfl⟩) rfl rfl (Nat.le_of_ble_eq_true rfl) dX0_unmixColumn_101 ⟨Nat.le_of_ble_eq_true rfl, Nat.le_of_ble_eq_true rfl⟩ (fun r_546 _ H_547 locs_547 hu_546 hP_547 hD_547 hS_547 => ?_)
    have er_546 : r_546 = F_X0_twice r_544 := hu_546
    clear hu_546
    replace hP_547 : va_P E.1 vwCl [(h, .inr (2, [.ref qk, .ref qc, .ref qv, .ref qt, .int rd])), (qc, .inl (E.2.1, 16, .inl cl)), (qv, .inl (E.2.1, 16, .inl (upd mv ((column + 0) &&& 15).toNatClampNeg (cl ((column + 0) &&& 15).toNatClampNeg))))] H_547 := hP_547
    replace hD_547 : va_D A [(h, .inr (2, [.ref qk, .ref qc, .ref qv, .ref qt, .int rd])), (qc, .inl (E.2.1, 16, .inl cl)), (qv, .inl (E.2.1, 16, .inl (upd mv ((column + 0) &&& 15).toNatClampNeg (cl ((column + 0) &&& 15).toNatClampNeg))))] := hD_547
    clear hP_545 hD_545 hS_545
    refine lv_istore (lv' := [(9, .int r_546), (8, .int r_540), (7, .int (cl ((column + 0) &&& 15).toNatClampNeg)), (6, .int (cl ((column + 3) &&& 15).toNatClampNeg)), (5, .int (cl ((column + 2) &&& 15).toNatClampNeg)), (4, .int (cl ((column + 1) &&& 15).toNatClampNeg)), (3, .int 1), (10, .int r_517), (0, .ref h), (1, .int column), (2, .int mixing)]) hx hb dX0_unmixColumn_104 hl_542 (by decide) rfl (fun ls_548 hl_548 => ?_)
    clear hl_542
    refine lv_iload hx hb dX0_unmixColumn_106 (lv_at hl_548 5 rfl) ?_
    refine lv_iload hx hb dX0_unmixColumn_108 (lv_at hl_548 4 rfl) ?_
    refine lv_ixor hx hb dX0_unmixColumn_110 ?_
    refine lv_topi (fun v_549 ev_549 => ?_)
    refine gSi hF hl_548 hV hP_547 hD_547 hS_547 hA [] [0, 1, 2] (wc := []) (wr := [(h, .inr (2, [.ref qk, .ref qc, .ref qv, .ref qt, .int rd])), (qc, .inl (E.2.1, 16, .inl cl)), (qv, .inl (E.2.1, 16, .inl (upd mv ((column + 0) &&& 15).toNatClampNeg (cl ((column + 0) &&& 15).toNatClampNeg))))]) rfl rfl rfl (by decide) (k_X0_twice E l v_549) (va_cwS 1 hts gX0_unmixColumn_X0_twice rfl rfl rfl (by decide +kernel) ⟨Nat.le_of_ble_eq_true rfl, Nat.le_of_ble_eq_true rfl⟩) rfl rfl (Nat.le_of_ble_eq_true rfl) dX0_unmixColumn_111 ⟨Nat.le_of_ble_eq_true rfl, Nat.le_of_ble_eq_true rfl⟩ (fun r_550 _ H_551 locs_551 hu_550 hP_551 hD_551 hS_551 => ?_)
    have er_550 : r_550 = F_X0_twice v_549 := hu_550
    clear hu_550
    replace hP_551 : va_P E.1 vwCl [(h, .inr (2, [.ref qk, .ref qc, .ref qv, .ref qt, .int rd])), (qc, .inl (E.2.1, 16, .inl cl)), (qv, .inl (E.2.1, 16, .inl (upd mv ((column + 0) &&& 15).toNatClampNeg (cl ((column + 0) &&& 15).toNatClampNeg))))] H_551 := hP_551
    replace hD_551 : va_D A [(h, .inr (2, [.ref qk, .ref qc, .ref qv, .ref qt, .int rd])), (qc, .inl (E.2.1, 16, .inl cl)), (qv, .inl (E.2.1, 16, .inl (upd mv ((column + 0) &&& 15).toNatClampNeg (cl ((column + 0) &&& 15).toNatClampNeg))))] := hD_551
    clear hP_547 hD_547 hS_547
    refine lv_istore (lv' := [(10, .int r_550), (9, .int r_546), (8, .int r_540), (7, .int (cl ((column + 0) &&& 15).toNatClampNeg)), (6, .int (cl ((column + 3) &&& 15).toNatClampNeg)), (5, .int (cl ((column + 2) &&& 15).toNatClampNeg)), (4, .int (cl ((column + 1) &&& 15).toNatClampNeg)), (3, .int 1), (0, .ref h), (1, .int column), (2, .int mixing)]) hx hb dX0_unmixColumn_114 hl_548 (by decide) rfl (fun ls_552 hl_552 => ?_)
    clear hl_548
    refine lv_aload_n hx hb dX0_unmixColumn_116 rfl (lv_at hl_552 8 rfl) ?_
    refine va_get (D := E.1) (ci := 2) (v := .ref qv) (C := RX0) (T := TX0) (N := 5) hx hb hts in_X0 hown hK hP_551 0 rfl rfl 2 (by decide) w_1 (fun _ h9 => h9) rfl dX0_unmixColumn_117 ?_
    refine lv_iload_n hx hb dX0_unmixColumn_120 rfl (lv_at hl_552 9 rfl) ?_
    refine lv_iload_n hx hb dX0_unmixColumn_121 rfl (lv_at hl_552 7 rfl) ?_
    refine lv_iadd hx hb dX0_unmixColumn_122 ?_
    refine lv_bipush (v := 15) hx hb dX0_unmixColumn_123 (by decide) ?_
    refine lv_iand hx hb dX0_unmixColumn_125 ?_
    refine lv_iload_n hx hb dX0_unmixColumn_126 rfl (lv_at hl_552 10 rfl) ?_
    refine lv_if_eq (tgt := 150) hx hb dX0_unmixColumn_127 (by decide) (fun c_553 => ?_) (fun c_553 => absurd c_520 c_553)
    refine lv_iload hx hb dX0_unmixColumn_150 (lv_at hl_552 6 rfl) ?_
    refine va_iast hx hb hK hP_551 hD_551 hS_551 2 0 rfl rfl (pk_andIn _ 4 (by decide) (by decide)) dX0_unmixColumn_152 (fun H_554 locs_554 hP_554 hD_554 hS_554 => ?_)
    replace hP_554 : va_P E.1 vwCl [(h, .inr (2, [.ref qk, .ref qc, .ref qv, .ref qt, .int rd])), (qc, .inl (E.2.1, 16, .inl cl)), (qv, .inl (E.2.1, 16, .inl (upd (upd mv ((column + 0) &&& 15).toNatClampNeg (cl ((column + 0) &&& 15).toNatClampNeg)) ((column + 1) &&& 15).toNatClampNeg (cl ((column + 1) &&& 15).toNatClampNeg))))] H_554 := hP_554
    replace hD_554 : va_D A [(h, .inr (2, [.ref qk, .ref qc, .ref qv, .ref qt, .int rd])), (qc, .inl (E.2.1, 16, .inl cl)), (qv, .inl (E.2.1, 16, .inl (upd (upd mv ((column + 0) &&& 15).toNatClampNeg (cl ((column + 0) &&& 15).toNatClampNeg)) ((column + 1) &&& 15).toNatClampNeg (cl ((column + 1) &&& 15).toNatClampNeg))))] := hD_554
    clear hP_551 hD_551 hS_551
    refine lv_iinc (v := 2) (lv' := [(3, .int 2), (10, .int r_550), (9, .int r_546), (8, .int r_540), (7, .int (cl ((column + 0) &&& 15).toNatClampNeg)), (6, .int (cl ((column + 3) &&& 15).toNatClampNeg)), (5, .int (cl ((column + 2) &&& 15).toNatClampNeg)), (4, .int (cl ((column + 1) &&& 15).toNatClampNeg)), (0, .ref h), (1, .int column), (2, .int mixing)]) hx hb dX0_unmixColumn_153 hl_552 (k := 7) rfl (by decide) (by decide) rfl (fun ls_555 hl_555 => ?_)
    clear hl_552
    refine lv_goto (tgt := 2) hx hb dX0_unmixColumn_156 (by decide) ?_
    refine lv_iload_n hx hb dX0_unmixColumn_2 rfl (lv_at hl_555 0 rfl) ?_
    refine lv_iconst (v := 4) hx hb dX0_unmixColumn_3 (by decide) ?_
    refine lv_icmp_ge (tgt := 159) hx hb dX0_unmixColumn_4 (by decide) (fun c_556 => absurd c_556 (by decide)) (fun c_556 => ?_)
    refine lv_aload_n hx hb dX0_unmixColumn_7 rfl (lv_at hl_555 8 rfl) ?_
    refine va_get (D := E.1) (ci := 2) (v := .ref qc) (C := RX0) (T := TX0) (N := 5) hx hb hts in_X0 hown hK hP_554 0 rfl rfl 1 (by decide) w_0 (fun _ h9 => h9) rfl dX0_unmixColumn_8 ?_
    refine lv_iload_n hx hb dX0_unmixColumn_11 rfl (lv_at hl_555 9 rfl) ?_
    refine lv_iload_n hx hb dX0_unmixColumn_12 rfl (lv_at hl_555 0 rfl) ?_
    refine lv_iadd hx hb dX0_unmixColumn_13 ?_
    refine lv_bipush (v := 15) hx hb dX0_unmixColumn_14 (by decide) ?_
    refine lv_iand hx hb dX0_unmixColumn_16 ?_
    refine va_iald hx hb hK hP_554 1 0 rfl rfl (pk_andIn _ 4 (by decide) (by decide)) dX0_unmixColumn_17 ?_
    refine lv_istore (lv' := [(4, .int (cl ((column + 2) &&& 15).toNatClampNeg)), (3, .int 2), (10, .int r_550), (9, .int r_546), (8, .int r_540), (7, .int (cl ((column + 0) &&& 15).toNatClampNeg)), (6, .int (cl ((column + 3) &&& 15).toNatClampNeg)), (5, .int (cl ((column + 2) &&& 15).toNatClampNeg)), (0, .ref h), (1, .int column), (2, .int mixing)]) hx hb dX0_unmixColumn_18 hl_555 (by decide) rfl (fun ls_557 hl_557 => ?_)
    clear hl_555
    refine lv_aload_n hx hb dX0_unmixColumn_20 rfl (lv_at hl_557 8 rfl) ?_
    refine va_get (D := E.1) (ci := 2) (v := .ref qc) (C := RX0) (T := TX0) (N := 5) hx hb hts in_X0 hown hK hP_554 0 rfl rfl 1 (by decide) w_0 (fun _ h9 => h9) rfl dX0_unmixColumn_21 ?_
    refine lv_iload_n hx hb dX0_unmixColumn_24 rfl (lv_at hl_557 9 rfl) ?_
    refine lv_iload_n hx hb dX0_unmixColumn_25 rfl (lv_at hl_557 1 rfl) ?_
    refine lv_iconst (v := 1) hx hb dX0_unmixColumn_26 (by decide) ?_
    refine lv_iadd hx hb dX0_unmixColumn_27 ?_
    refine lv_topi (fun y_558 ey_558 => ?_)
    obtain rfl : y_558 = 3 := ey_558.trans (by decide)
    refine lv_iconst (v := 3) hx hb dX0_unmixColumn_28 (by decide) ?_
    refine lv_iand hx hb dX0_unmixColumn_29 ?_
    refine lv_topi (fun y_559 ey_559 => ?_)
    obtain rfl : y_559 = 3 := ey_559.trans (by decide)
    refine lv_iadd hx hb dX0_unmixColumn_30 ?_
    refine lv_bipush (v := 15) hx hb dX0_unmixColumn_31 (by decide) ?_
    refine lv_iand hx hb dX0_unmixColumn_33 ?_
    refine va_iald hx hb hK hP_554 1 0 rfl rfl (pk_andIn _ 4 (by decide) (by decide)) dX0_unmixColumn_34 ?_
    refine lv_istore (lv' := [(5, .int (cl ((column + 3) &&& 15).toNatClampNeg)), (4, .int (cl ((column + 2) &&& 15).toNatClampNeg)), (3, .int 2), (10, .int r_550), (9, .int r_546), (8, .int r_540), (7, .int (cl ((column + 0) &&& 15).toNatClampNeg)), (6, .int (cl ((column + 3) &&& 15).toNatClampNeg)), (0, .ref h), (1, .int column), (2, .int mixing)]) hx hb dX0_unmixColumn_35 hl_557 (by decide) rfl (fun ls_560 hl_560 => ?_)
    clear hl_557
    refine lv_aload_n hx hb dX0_unmixColumn_37 rfl (lv_at hl_560 8 rfl) ?_
    refine va_get (D := E.1) (ci := 2) (v := .ref qc) (C := RX0) (T := TX0) (N := 5) hx hb hts in_X0 hown hK hP_554 0 rfl rfl 1 (by decide) w_0 (fun _ h9 => h9) rfl dX0_unmixColumn_38 ?_
    refine lv_iload_n hx hb dX0_unmixColumn_41 rfl (lv_at hl_560 9 rfl) ?_
    refine lv_iload_n hx hb dX0_unmixColumn_42 rfl (lv_at hl_560 2 rfl) ?_
    refine lv_iconst (v := 2) hx hb dX0_unmixColumn_43 (by decide) ?_
    refine lv_iadd hx hb dX0_unmixColumn_44 ?_
    refine lv_topi (fun y_561 ey_561 => ?_)
    obtain rfl : y_561 = 4 := ey_561.trans (by decide)
    refine lv_iconst (v := 3) hx hb dX0_unmixColumn_45 (by decide) ?_
    refine lv_iand hx hb dX0_unmixColumn_46 ?_
    refine lv_topi (fun y_562 ey_562 => ?_)
    obtain rfl : y_562 = 0 := ey_562.trans (by decide)
    refine lv_iadd hx hb dX0_unmixColumn_47 ?_
    refine lv_bipush (v := 15) hx hb dX0_unmixColumn_48 (by decide) ?_
    refine lv_iand hx hb dX0_unmixColumn_50 ?_
    refine va_iald hx hb hK hP_554 1 0 rfl rfl (pk_andIn _ 4 (by decide) (by decide)) dX0_unmixColumn_51 ?_
    refine lv_istore (lv' := [(6, .int (cl ((column + 0) &&& 15).toNatClampNeg)), (5, .int (cl ((column + 3) &&& 15).toNatClampNeg)), (4, .int (cl ((column + 2) &&& 15).toNatClampNeg)), (3, .int 2), (10, .int r_550), (9, .int r_546), (8, .int r_540), (7, .int (cl ((column + 0) &&& 15).toNatClampNeg)), (0, .ref h), (1, .int column), (2, .int mixing)]) hx hb dX0_unmixColumn_52 hl_560 (by decide) rfl (fun ls_563 hl_563 => ?_)
    clear hl_560
    refine lv_aload_n hx hb dX0_unmixColumn_54 rfl (lv_at hl_563 8 rfl) ?_
    refine va_get (D := E.1) (ci := 2) (v := .ref qc) (C := RX0) (T := TX0) (N := 5) hx hb hts in_X0 hown hK hP_554 0 rfl rfl 1 (by decide) w_0 (fun _ h9 => h9) rfl dX0_unmixColumn_55 ?_
    refine lv_iload_n hx hb dX0_unmixColumn_58 rfl (lv_at hl_563 9 rfl) ?_
    refine lv_iload_n hx hb dX0_unmixColumn_59 rfl (lv_at hl_563 3 rfl) ?_
    refine lv_iconst (v := 3) hx hb dX0_unmixColumn_60 (by decide) ?_
    refine lv_iadd hx hb dX0_unmixColumn_61 ?_
    refine lv_topi (fun y_564 ey_564 => ?_)
    obtain rfl : y_564 = 5 := ey_564.trans (by decide)
    refine lv_iconst (v := 3) hx hb dX0_unmixColumn_62 (by decide) ?_
    refine lv_iand hx hb dX0_unmixColumn_63 ?_
    refine lv_topi (fun y_565 ey_565 => ?_)
    obtain rfl : y_565 = 1 := ey_565.trans (by decide)
    refine lv_iadd hx hb dX0_unmixColumn_64 ?_
    refine lv_bipush (v := 15) hx hb dX0_unmixColumn_65 (by decide) ?_
    refine lv_iand hx hb dX0_unmixColumn_67 ?_
    refine va_iald hx hb hK hP_554 1 0 rfl rfl (pk_andIn _ 4 (by decide) (by decide)) dX0_unmixColumn_68 ?_
    refine lv_istore (lv' := [(7, .int (cl ((column + 1) &&& 15).toNatClampNeg)), (6, .int (cl ((column + 0) &&& 15).toNatClampNeg)), (5, .int (cl ((column + 3) &&& 15).toNatClampNeg)), (4, .int (cl ((column + 2) &&& 15).toNatClampNeg)), (3, .int 2), (10, .int r_550), (9, .int r_546), (8, .int r_540), (0, .ref h), (1, .int column), (2, .int mixing)]) hx hb dX0_unmixColumn_69 hl_563 (by decide) rfl (fun ls_566 hl_566 => ?_)
    clear hl_563
    refine lv_iload hx hb dX0_unmixColumn_71 (lv_at hl_566 3 rfl) ?_
    refine lv_iload hx hb dX0_unmixColumn_73 (lv_at hl_566 2 rfl) ?_
    refine lv_ixor hx hb dX0_unmixColumn_75 ?_
    refine lv_topi (fun v_567 ev_567 => ?_)
    refine lv_iload hx hb dX0_unmixColumn_76 (lv_at hl_566 1 rfl) ?_
    refine lv_ixor hx hb dX0_unmixColumn_78 ?_
    refine lv_iload hx hb dX0_unmixColumn_79 (lv_at hl_566 0 rfl) ?_
    refine lv_ixor hx hb dX0_unmixColumn_81 ?_
    refine lv_topi (fun v_568 ev_568 => ?_)
    refine gSi hF hl_566 hV hP_554 hD_554 hS_554 hA [] [0, 1, 2] (wc := []) (wr := [(h, .inr (2, [.ref qk, .ref qc, .ref qv, .ref qt, .int rd])), (qc, .inl (E.2.1, 16, .inl cl)), (qv, .inl (E.2.1, 16, .inl (upd (upd mv ((column + 0) &&& 15).toNatClampNeg (cl ((column + 0) &&& 15).toNatClampNeg)) ((column + 1) &&& 15).toNatClampNeg (cl ((column + 1) &&& 15).toNatClampNeg))))]) rfl rfl rfl (by decide) (k_X0_twice E l v_568) (va_cwS 1 hts gX0_unmixColumn_X0_twice rfl rfl rfl (by decide +kernel) ⟨Nat.le_of_ble_eq_true rfl, Nat.le_of_ble_eq_true rfl⟩) rfl rfl (Nat.le_of_ble_eq_true rfl) dX0_unmixColumn_82 ⟨Nat.le_of_ble_eq_true rfl, Nat.le_of_ble_eq_true rfl⟩ (fun r_569 _ H_570 locs_570 hu_569 hP_570 hD_570 hS_570 => ?_)
    have er_569 : r_569 = F_X0_twice v_568 := hu_569
    clear hu_569
    replace hP_570 : va_P E.1 vwCl [(h, .inr (2, [.ref qk, .ref qc, .ref qv, .ref qt, .int rd])), (qc, .inl (E.2.1, 16, .inl cl)), (qv, .inl (E.2.1, 16, .inl (upd (upd mv ((column + 0) &&& 15).toNatClampNeg (cl ((column + 0) &&& 15).toNatClampNeg)) ((column + 1) &&& 15).toNatClampNeg (cl ((column + 1) &&& 15).toNatClampNeg))))] H_570 := hP_570
    replace hD_570 : va_D A [(h, .inr (2, [.ref qk, .ref qc, .ref qv, .ref qt, .int rd])), (qc, .inl (E.2.1, 16, .inl cl)), (qv, .inl (E.2.1, 16, .inl (upd (upd mv ((column + 0) &&& 15).toNatClampNeg (cl ((column + 0) &&& 15).toNatClampNeg)) ((column + 1) &&& 15).toNatClampNeg (cl ((column + 1) &&& 15).toNatClampNeg))))] := hD_570
    clear hP_554 hD_554 hS_554
    refine gSi hF hl_566 hV hP_570 hD_570 hS_570 hA [] [0, 1, 2] (wc := []) (wr := [(h, .inr (2, [.ref qk, .ref qc, .ref qv, .ref qt, .int rd])), (qc, .inl (E.2.1, 16, .inl cl)), (qv, .inl (E.2.1, 16, .inl (upd (upd mv ((column + 0) &&& 15).toNatClampNeg (cl ((column + 0) &&& 15).toNatClampNeg)) ((column + 1) &&& 15).toNatClampNeg (cl ((column + 1) &&& 15).toNatClampNeg))))]) rfl rfl rfl (by decide) (k_X0_twice E l r_569) (va_cwS 1 hts gX0_unmixColumn_X0_twice rfl rfl rfl (by decide +kernel) ⟨Nat.le_of_ble_eq_true rfl, Nat.le_of_ble_eq_true rfl⟩) rfl rfl (Nat.le_of_ble_eq_true rfl) dX0_unmixColumn_85 ⟨Nat.le_of_ble_eq_true rfl, Nat.le_of_ble_eq_true rfl⟩ (fun r_571 _ H_572 locs_572 hu_571 hP_572 hD_572 hS_572 => ?_)
    have er_571 : r_571 = F_X0_twice r_569 := hu_571
    clear hu_571
    replace hP_572 : va_P E.1 vwCl [(h, .inr (2, [.ref qk, .ref qc, .ref qv, .ref qt, .int rd])), (qc, .inl (E.2.1, 16, .inl cl)), (qv, .inl (E.2.1, 16, .inl (upd (upd mv ((column + 0) &&& 15).toNatClampNeg (cl ((column + 0) &&& 15).toNatClampNeg)) ((column + 1) &&& 15).toNatClampNeg (cl ((column + 1) &&& 15).toNatClampNeg))))] H_572 := hP_572
    replace hD_572 : va_D A [(h, .inr (2, [.ref qk, .ref qc, .ref qv, .ref qt, .int rd])), (qc, .inl (E.2.1, 16, .inl cl)), (qv, .inl (E.2.1, 16, .inl (upd (upd mv ((column + 0) &&& 15).toNatClampNeg (cl ((column + 0) &&& 15).toNatClampNeg)) ((column + 1) &&& 15).toNatClampNeg (cl ((column + 1) &&& 15).toNatClampNeg))))] := hD_572
    clear hP_570 hD_570 hS_570
    refine gSi hF hl_566 hV hP_572 hD_572 hS_572 hA [] [0, 1, 2] (wc := []) (wr := [(h, .inr (2, [.ref qk, .ref qc, .ref qv, .ref qt, .int rd])), (qc, .inl (E.2.1, 16, .inl cl)), (qv, .inl (E.2.1, 16, .inl (upd (upd mv ((column + 0) &&& 15).toNatClampNeg (cl ((column + 0) &&& 15).toNatClampNeg)) ((column + 1) &&& 15).toNatClampNeg (cl ((column + 1) &&& 15).toNatClampNeg))))]) rfl rfl rfl (by decide) (k_X0_twice E l r_571) (va_cwS 1 hts gX0_unmixColumn_X0_twice rfl rfl rfl (by decide +kernel) ⟨Nat.le_of_ble_eq_true rfl, Nat.le_of_ble_eq_true rfl⟩) rfl rfl (Nat.le_of_ble_eq_true rfl) dX0_unmixColumn_88 ⟨Nat.le_of_ble_eq_true rfl, Nat.le_of_ble_eq_true rfl⟩ (fun r_573 _ H_574 locs_574 hu_573 hP_574 hD_574 hS_574 => ?_)
    have er_573 : r_573 = F_X0_twice r_571 := hu_573
    clear hu_573
    replace hP_574 : va_P E.1 vwCl [(h, .inr (2, [.ref qk, .ref qc, .ref qv, .ref qt, .int rd])), (qc, .inl (E.2.1, 16, .inl cl)), (qv, .inl (E.2.1, 16, .inl (upd (upd mv ((column + 0) &&& 15).toNatClampNeg (cl ((column + 0) &&& 15).toNatClampNeg)) ((column + 1) &&& 15).toNatClampNeg (cl ((column + 1) &&& 15).toNatClampNeg))))] H_574 := hP_574
    replace hD_574 : va_D A [(h, .inr (2, [.ref qk, .ref qc, .ref qv, .ref qt, .int rd])), (qc, .inl (E.2.1, 16, .inl cl)), (qv, .inl (E.2.1, 16, .inl (upd (upd mv ((column + 0) &&& 15).toNatClampNeg (cl ((column + 0) &&& 15).toNatClampNeg)) ((column + 1) &&& 15).toNatClampNeg (cl ((column + 1) &&& 15).toNatClampNeg))))] := hD_574
    clear hP_572 hD_572 hS_572
    refine lv_istore (lv' := [(8, .int r_573), (7, .int (cl ((column + 1) &&& 15).toNatClampNeg)), (6, .int (cl ((column + 0) &&& 15).toNatClampNeg)), (5, .int (cl ((column + 3) &&& 15).toNatClampNeg)), (4, .int (cl ((column + 2) &&& 15).toNatClampNeg)), (3, .int 2), (10, .int r_550), (9, .int r_546), (0, .ref h), (1, .int column), (2, .int mixing)]) hx hb dX0_unmixColumn_91 hl_566 (by decide) rfl (fun ls_575 hl_575 => ?_)
    clear hl_566
    refine lv_iload hx hb dX0_unmixColumn_93 (lv_at hl_575 4 rfl) ?_
    refine lv_iload hx hb dX0_unmixColumn_95 (lv_at hl_575 2 rfl) ?_
    refine lv_ixor hx hb dX0_unmixColumn_97 ?_
    refine lv_topi (fun v_576 ev_576 => ?_)
    refine gSi hF hl_575 hV hP_574 hD_574 hS_574 hA [] [0, 1, 2] (wc := []) (wr := [(h, .inr (2, [.ref qk, .ref qc, .ref qv, .ref qt, .int rd])), (qc, .inl (E.2.1, 16, .inl cl)), (qv, .inl (E.2.1, 16, .inl (upd (upd mv ((column + 0) &&& 15).toNatClampNeg (cl ((column + 0) &&& 15).toNatClampNeg)) ((column + 1) &&& 15).toNatClampNeg (cl ((column + 1) &&& 15).toNatClampNeg))))]) rfl rfl rfl (by decide) (k_X0_twice E l v_576) (va_cwS 1 hts gX0_unmixColumn_X0_twice rfl rfl rfl (by decide +kernel) ⟨Nat.le_of_ble_eq_true rfl, Nat.le_of_ble_eq_true rfl⟩) rfl rfl (Nat.le_of_ble_eq_true rfl) dX0_unmixColumn_98 ⟨Nat.le_of_ble_eq_true rfl, Nat.le_of_ble_eq_true rfl⟩ (fun r_577 _ H_578 locs_578 hu_577 hP_578 hD_578 hS_578 => ?_)
    have er_577 : r_577 = F_X0_twice v_576 := hu_577
    clear hu_577
    replace hP_578 : va_P E.1 vwCl [(h, .inr (2, [.ref qk, .ref qc, .ref qv, .ref qt, .int rd])), (qc, .inl (E.2.1, 16, .inl cl)), (qv, .inl (E.2.1, 16, .inl (upd (upd mv ((column + 0) &&& 15).toNatClampNeg (cl ((column + 0) &&& 15).toNatClampNeg)) ((column + 1) &&& 15).toNatClampNeg (cl ((column + 1) &&& 15).toNatClampNeg))))] H_578 := hP_578
    replace hD_578 : va_D A [(h, .inr (2, [.ref qk, .ref qc, .ref qv, .ref qt, .int rd])), (qc, .inl (E.2.1, 16, .inl cl)), (qv, .inl (E.2.1, 16, .inl (upd (upd mv ((column + 0) &&& 15).toNatClampNeg (cl ((column + 0) &&& 15).toNatClampNeg)) ((column + 1) &&& 15).toNatClampNeg (cl ((column + 1) &&& 15).toNatClampNeg))))] := hD_578
    clear hP_574 hD_574 hS_574
    refine gSi hF hl_575 hV hP_578 hD_578 hS_578 hA [] [0, 1, 2] (wc := []) (wr := [(h, .inr (2, [.ref qk, .ref qc, .ref qv, .ref qt, .int rd])), (qc, .inl (E.2.1, 16, .inl cl)), (qv, .inl (E.2.1, 16, .inl (upd (upd mv ((column + 0) &&& 15).toNatClampNeg (cl ((column + 0) &&& 15).toNatClampNeg)) ((column + 1) &&& 15).toNatClampNeg (cl ((column + 1) &&& 15).toNatClampNeg))))]) rfl rfl rfl (by decide) (k_X0_twice E l r_577) (va_cwS 1 hts gX0_unmixColumn_X0_twice rfl rfl rfl (by decide +kernel) ⟨Nat.le_of_ble_eq_true rfl, Nat.le_of_ble_eq_true rfl⟩) rfl rfl (Nat.le_of_ble_eq_true rfl) dX0_unmixColumn_101 ⟨Nat.le_of_ble_eq_true rfl, Nat.le_of_ble_eq_true rfl⟩ (fun r_579 _ H_580 locs_580 hu_579 hP_580 hD_580 hS_580 => ?_)
    have er_579 : r_579 = F_X0_twice r_577 := hu_579
    clear hu_579
    replace hP_580 : va_P E.1 vwCl [(h, .inr (2, [.ref qk, .ref qc, .ref qv, .ref qt, .int rd])), (qc, .inl (E.2.1, 16, .inl cl)), (qv, .inl (E.2.1, 16, .inl (upd (upd mv ((column + 0) &&& 15).toNatClampNeg (cl ((column + 0) &&& 15).toNatClampNeg)) ((column + 1) &&& 15).toNatClampNeg (cl ((column + 1) &&& 15).toNatClampNeg))))] H_580 := hP_580
    replace hD_580 : va_D A [(h, .inr (2, [.ref qk, .ref qc, .ref qv, .ref qt, .int rd])), (qc, .inl (E.2.1, 16, .inl cl)), (qv, .inl (E.2.1, 16, .inl (upd (upd mv ((column + 0) &&& 15).toNatClampNeg (cl ((column + 0) &&& 15).toNatClampNeg)) ((column + 1) &&& 15).toNatClampNeg (cl ((column + 1) &&& 15).toNatClampNeg))))] := hD_580
    clear hP_578 hD_578 hS_578
    refine lv_istore (lv' := [(9, .int r_579), (8, .int r_573), (7, .int (cl ((column + 1) &&& 15).toNatClampNeg)), (6, .int (cl ((column + 0) &&& 15).toNatClampNeg)), (5, .int (cl ((column + 3) &&& 15).toNatClampNeg)), (4, .int (cl ((column + 2) &&& 15).toNatClampNeg)), (3, .int 2), (10, .int r_550), (0, .ref h), (1, .int column), (2, .int mixing)]) hx hb dX0_unmixColumn_104 hl_575 (by decide) rfl (fun ls_581 hl_581 => ?_)
    clear hl_575
    refine lv_iload hx hb dX0_unmixColumn_106 (lv_at hl_581 5 rfl) ?_
    refine lv_iload hx hb dX0_unmixColumn_108 (lv_at hl_581 4 rfl) ?_
    refine lv_ixor hx hb dX0_unmixColumn_110 ?_
    refine lv_topi (fun v_582 ev_582 => ?_)
    refine gSi hF hl_581 hV hP_580 hD_580 hS_580 hA [] [0, 1, 2] (wc := []) (wr := [(h, .inr (2, [.ref qk, .ref qc, .ref qv, .ref qt, .int rd])), (qc, .inl (E.2.1, 16, .inl cl)), (qv, .inl (E.2.1, 16, .inl (upd (upd mv ((column + 0) &&& 15).toNatClampNeg (cl ((column + 0) &&& 15).toNatClampNeg)) ((column + 1) &&& 15).toNatClampNeg (cl ((column + 1) &&& 15).toNatClampNeg))))]) rfl rfl rfl (by decide) (k_X0_twice E l v_582) (va_cwS 1 hts gX0_unmixColumn_X0_twice rfl rfl rfl (by decide +kernel) ⟨Nat.le_of_ble_eq_true rfl, Nat.le_of_ble_eq_true rfl⟩) rfl rfl (Nat.le_of_ble_eq_true rfl) dX0_unmixColumn_111 ⟨Nat.le_of_ble_eq_true rfl, Nat.le_of_ble_eq_true rfl⟩ (fun r_583 _ H_584 locs_584 hu_583 hP_584 hD_584 hS_584 => ?_)
    have er_583 : r_583 = F_X0_twice v_582 := hu_583
    clear hu_583
    replace hP_584 : va_P E.1 vwCl [(h, .inr (2, [.ref qk, .ref qc, .ref qv, .ref qt, .int rd])), (qc, .inl (E.2.1, 16, .inl cl)), (qv, .inl (E.2.1, 16, .inl (upd (upd mv ((column + 0) &&& 15).toNatClampNeg (cl ((column + 0) &&& 15).toNatClampNeg)) ((column + 1) &&& 15).toNatClampNeg (cl ((column + 1) &&& 15).toNatClampNeg))))] H_584 := hP_584
    replace hD_584 : va_D A [(h, .inr (2, [.ref qk, .ref qc, .ref qv, .ref qt, .int rd])), (qc, .inl (E.2.1, 16, .inl cl)), (qv, .inl (E.2.1, 16, .inl (upd (upd mv ((column + 0) &&& 15).toNatClampNeg (cl ((column + 0) &&& 15).toNatClampNeg)) ((column + 1) &&& 15).toNatClampNeg (cl ((column + 1) &&& 15).toNatClampNeg))))] := hD_584
    clear hP_580 hD_580 hS_580
    refine lv_istore (lv' := [(10, .int r_583), (9, .int r_579), (8, .int r_573), (7, .int (cl ((column + 1) &&& 15).toNatClampNeg)), (6, .int (cl ((column + 0) &&& 15).toNatClampNeg)), (5, .int (cl ((column + 3) &&& 15).toNatClampNeg)), (4, .int (cl ((column + 2) &&& 15).toNatClampNeg)), (3, .int 2), (0, .ref h), (1, .int column), (2, .int mixing)]) hx hb dX0_unmixColumn_114 hl_581 (by decide) rfl (fun ls_585 hl_585 => ?_)
    clear hl_581
    refine lv_aload_n hx hb dX0_unmixColumn_116 rfl (lv_at hl_585 8 rfl) ?_
    refine va_get (D := E.1) (ci := 2) (v := .ref qv) (C := RX0) (T := TX0) (N := 5) hx hb hts in_X0 hown hK hP_584 0 rfl rfl 2 (by decide) w_1 (fun _ h9 => h9) rfl dX0_unmixColumn_117 ?_
    refine lv_iload_n hx hb dX0_unmixColumn_120 rfl (lv_at hl_585 9 rfl) ?_
    refine lv_iload_n hx hb dX0_unmixColumn_121 rfl (lv_at hl_585 7 rfl) ?_
    refine lv_iadd hx hb dX0_unmixColumn_122 ?_
    refine lv_bipush (v := 15) hx hb dX0_unmixColumn_123 (by decide) ?_
    refine lv_iand hx hb dX0_unmixColumn_125 ?_
    refine lv_iload_n hx hb dX0_unmixColumn_126 rfl (lv_at hl_585 10 rfl) ?_
    refine lv_if_eq (tgt := 150) hx hb dX0_unmixColumn_127 (by decide) (fun c_586 => ?_) (fun c_586 => absurd c_520 c_586)
    refine lv_iload hx hb dX0_unmixColumn_150 (lv_at hl_585 6 rfl) ?_
    refine va_iast hx hb hK hP_584 hD_584 hS_584 2 0 rfl rfl (pk_andIn _ 4 (by decide) (by decide)) dX0_unmixColumn_152 (fun H_587 locs_587 hP_587 hD_587 hS_587 => ?_)
    replace hP_587 : va_P E.1 vwCl [(h, .inr (2, [.ref qk, .ref qc, .ref qv, .ref qt, .int rd])), (qc, .inl (E.2.1, 16, .inl cl)), (qv, .inl (E.2.1, 16, .inl (upd (upd (upd mv ((column + 0) &&& 15).toNatClampNeg (cl ((column + 0) &&& 15).toNatClampNeg)) ((column + 1) &&& 15).toNatClampNeg (cl ((column + 1) &&& 15).toNatClampNeg)) ((column + 2) &&& 15).toNatClampNeg (cl ((column + 2) &&& 15).toNatClampNeg))))] H_587 := hP_587
    replace hD_587 : va_D A [(h, .inr (2, [.ref qk, .ref qc, .ref qv, .ref qt, .int rd])), (qc, .inl (E.2.1, 16, .inl cl)), (qv, .inl (E.2.1, 16, .inl (upd (upd (upd mv ((column + 0) &&& 15).toNatClampNeg (cl ((column + 0) &&& 15).toNatClampNeg)) ((column + 1) &&& 15).toNatClampNeg (cl ((column + 1) &&& 15).toNatClampNeg)) ((column + 2) &&& 15).toNatClampNeg (cl ((column + 2) &&& 15).toNatClampNeg))))] := hD_587
    clear hP_584 hD_584 hS_584
    refine lv_iinc (v := 3) (lv' := [(3, .int 3), (10, .int r_583), (9, .int r_579), (8, .int r_573), (7, .int (cl ((column + 1) &&& 15).toNatClampNeg)), (6, .int (cl ((column + 0) &&& 15).toNatClampNeg)), (5, .int (cl ((column + 3) &&& 15).toNatClampNeg)), (4, .int (cl ((column + 2) &&& 15).toNatClampNeg)), (0, .ref h), (1, .int column), (2, .int mixing)]) hx hb dX0_unmixColumn_153 hl_585 (k := 7) rfl (by decide) (by decide) rfl (fun ls_588 hl_588 => ?_)
    clear hl_585
    refine lv_goto (tgt := 2) hx hb dX0_unmixColumn_156 (by decide) ?_
    refine lv_iload_n hx hb dX0_unmixColumn_2 rfl (lv_at hl_588 0 rfl) ?_
    refine lv_iconst (v := 4) hx hb dX0_unmixColumn_3 (by decide) ?_
    refine lv_icmp_ge (tgt := 159) hx hb dX0_unmixColumn_4 (by decide) (fun c_589 => absurd c_589 (by decide)) (fun c_589 => ?_)
    refine lv_aload_n hx hb dX0_unmixColumn_7 rfl (lv_at hl_588 8 rfl) ?_
    refine va_get (D := E.1) (ci := 2) (v := .ref qc) (C := RX0) (T := TX0) (N := 5) hx hb hts in_X0 hown hK hP_587 0 rfl rfl 1 (by decide) w_0 (fun _ h9 => h9) rfl dX0_unmixColumn_8 ?_
    refine lv_iload_n hx hb dX0_unmixColumn_11 rfl (lv_at hl_588 9 rfl) ?_
    refine lv_iload_n hx hb dX0_unmixColumn_12 rfl (lv_at hl_588 0 rfl) ?_
    refine lv_iadd hx hb dX0_unmixColumn_13 ?_
    refine lv_bipush (v := 15) hx hb dX0_unmixColumn_14 (by decide) ?_
    refine lv_iand hx hb dX0_unmixColumn_16 ?_
    refine va_iald hx hb hK hP_587 1 0 rfl rfl (pk_andIn _ 4 (by decide) (by decide)) dX0_unmixColumn_17 ?_
    refine lv_istore (lv' := [(4, .int (cl ((column + 3) &&& 15).toNatClampNeg)), (3, .int 3), (10, .int r_583), (9, .int r_579), (8, .int r_573), (7, .int (cl ((column + 1) &&& 15).toNatClampNeg)), (6, .int (cl ((column + 0) &&& 15).toNatClampNeg)), (5, .int (cl ((column + 3) &&& 15).toNatClampNeg)), (0, .ref h), (1, .int column), (2, .int mixing)]) hx hb dX0_unmixColumn_18 hl_588 (by decide) rfl (fun ls_590 hl_590 => ?_)
    clear hl_588
    refine lv_aload_n hx hb dX0_unmixColumn_20 rfl (lv_at hl_590 8 rfl) ?_
    refine va_get (D := E.1) (ci := 2) (v := .ref qc) (C := RX0) (T := TX0) (N := 5) hx hb hts in_X0 hown hK hP_587 0 rfl rfl 1 (by decide) w_0 (fun _ h9 => h9) rfl dX0_unmixColumn_21 ?_
    refine lv_iload_n hx hb dX0_unmixColumn_24 rfl (lv_at hl_590 9 rfl) ?_
    refine lv_iload_n hx hb dX0_unmixColumn_25 rfl (lv_at hl_590 1 rfl) ?_
    refine lv_iconst (v := 1) hx hb dX0_unmixColumn_26 (by decide) ?_
    refine lv_iadd hx hb dX0_unmixColumn_27 ?_
    refine lv_topi (fun y_591 ey_591 => ?_)
    obtain rfl : y_591 = 4 := ey_591.trans (by decide)
    refine lv_iconst (v := 3) hx hb dX0_unmixColumn_28 (by decide) ?_
    refine lv_iand hx hb dX0_unmixColumn_29 ?_
    refine lv_topi (fun y_592 ey_592 => ?_)
    obtain rfl : y_592 = 0 := ey_592.trans (by decide)
    refine lv_iadd hx hb dX0_unmixColumn_30 ?_
    refine lv_bipush (v := 15) hx hb dX0_unmixColumn_31 (by decide) ?_
    refine lv_iand hx hb dX0_unmixColumn_33 ?_
    refine va_iald hx hb hK hP_587 1 0 rfl rfl (pk_andIn _ 4 (by decide) (by decide)) dX0_unmixColumn_34 ?_
    refine lv_istore (lv' := [(5, .int (cl ((column + 0) &&& 15).toNatClampNeg)), (4, .int (cl ((column + 3) &&& 15).toNatClampNeg)), (3, .int 3), (10, .int r_583), (9, .int r_579), (8, .int r_573), (7, .int (cl ((column + 1) &&& 15).toNatClampNeg)), (6, .int (cl ((column + 0) &&& 15).toNatClampNeg)), (0, .ref h), (1, .int column), (2, .int mixing)]) hx hb dX0_unmixColumn_35 hl_590 (by decide) rfl (fun ls_593 hl_593 => ?_)
    clear hl_590
    refine lv_aload_n hx hb dX0_unmixColumn_37 rfl (lv_at hl_593 8 rfl) ?_
    refine va_get (D := E.1) (ci := 2) (v := .ref qc) (C := RX0) (T := TX0) (N := 5) hx hb hts in_X0 hown hK hP_587 0 rfl rfl 1 (by decide) w_0 (fun _ h9 => h9) rfl dX0_unmixColumn_38 ?_
    refine lv_iload_n hx hb dX0_unmixColumn_41 rfl (lv_at hl_593 9 rfl) ?_
    refine lv_iload_n hx hb dX0_unmixColumn_42 rfl (lv_at hl_593 2 rfl) ?_
    refine lv_iconst (v := 2) hx hb dX0_unmixColumn_43 (by decide) ?_
    refine lv_iadd hx hb dX0_unmixColumn_44 ?_
    refine lv_topi (fun y_594 ey_594 => ?_)
    obtain rfl : y_594 = 5 := ey_594.trans (by decide)
    refine lv_iconst (v := 3) hx hb dX0_unmixColumn_45 (by decide) ?_
    refine lv_iand hx hb dX0_unmixColumn_46 ?_
    refine lv_topi (fun y_595 ey_595 => ?_)
    obtain rfl : y_595 = 1 := ey_595.trans (by decide)
    refine lv_iadd hx hb dX0_unmixColumn_47 ?_
    refine lv_bipush (v := 15) hx hb dX0_unmixColumn_48 (by decide) ?_
    refine lv_iand hx hb dX0_unmixColumn_50 ?_
    refine va_iald hx hb hK hP_587 1 0 rfl rfl (pk_andIn _ 4 (by decide) (by decide)) dX0_unmixColumn_51 ?_
    refine lv_istore (lv' := [(6, .int (cl ((column + 1) &&& 15).toNatClampNeg)), (5, .int (cl ((column + 0) &&& 15).toNatClampNeg)), (4, .int (cl ((column + 3) &&& 15).toNatClampNeg)), (3, .int 3), (10, .int r_583), (9, .int r_579), (8, .int r_573), (7, .int (cl ((column + 1) &&& 15).toNatClampNeg)), (0, .ref h), (1, .int column), (2, .int mixing)]) hx hb dX0_unmixColumn_52 hl_593 (by decide) rfl (fun ls_596 hl_596 => ?_)
    clear hl_593
    refine lv_aload_n hx hb dX0_unmixColumn_54 rfl (lv_at hl_596 8 rfl) ?_
    refine va_get (D := E.1) (ci := 2) (v := .ref qc) (C := RX0) (T := TX0) (N := 5) hx hb hts in_X0 hown hK hP_587 0 rfl rfl 1 (by decide) w_0 (fun _ h9 => h9) rfl dX0_unmixColumn_55 ?_
    refine lv_iload_n hx hb dX0_unmixColumn_58 rfl (lv_at hl_596 9 rfl) ?_
    refine lv_iload_n hx hb dX0_unmixColumn_59 rfl (lv_at hl_596 3 rfl) ?_
    refine lv_iconst (v := 3) hx hb dX0_unmixColumn_60 (by decide) ?_
    refine lv_iadd hx hb dX0_unmixColumn_61 ?_
    refine lv_topi (fun y_597 ey_597 => ?_)
    obtain rfl : y_597 = 6 := ey_597.trans (by decide)
    refine lv_iconst (v := 3) hx hb dX0_unmixColumn_62 (by decide) ?_
    refine lv_iand hx hb dX0_unmixColumn_63 ?_
    refine lv_topi (fun y_598 ey_598 => ?_)
    obtain rfl : y_598 = 2 := ey_598.trans (by decide)
    refine lv_iadd hx hb dX0_unmixColumn_64 ?_
    refine lv_bipush (v := 15) hx hb dX0_unmixColumn_65 (by decide) ?_
    refine lv_iand hx hb dX0_unmixColumn_67 ?_
    refine va_iald hx hb hK hP_587 1 0 rfl rfl (pk_andIn _ 4 (by decide) (by decide)) dX0_unmixColumn_68 ?_
    refine lv_istore (lv' := [(7, .int (cl ((column + 2) &&& 15).toNatClampNeg)), (6, .int (cl ((column + 1) &&& 15).toNatClampNeg)), (5, .int (cl ((column + 0) &&& 15).toNatClampNeg)), (4, .int (cl ((column + 3) &&& 15).toNatClampNeg)), (3, .int 3), (10, .int r_583), (9, .int r_579), (8, .int r_573), (0, .ref h), (1, .int column), (2, .int mixing)]) hx hb dX0_unmixColumn_69 hl_596 (by decide) rfl (fun ls_599 hl_599 => ?_)
    clear hl_596
    refine lv_iload hx hb dX0_unmixColumn_71 (lv_at hl_599 3 rfl) ?_
    refine lv_iload hx hb dX0_unmixColumn_73 (lv_at hl_599 2 rfl) ?_
    refine lv_ixor hx hb dX0_unmixColumn_75 ?_
    refine lv_topi (fun v_600 ev_600 => ?_)
    refine lv_iload hx hb dX0_unmixColumn_76 (lv_at hl_599 1 rfl) ?_
    refine lv_ixor hx hb dX0_unmixColumn_78 ?_
    refine lv_iload hx hb dX0_unmixColumn_79 (lv_at hl_599 0 rfl) ?_
    refine lv_ixor hx hb dX0_unmixColumn_81 ?_
    refine lv_topi (fun v_601 ev_601 => ?_)
    refine gSi hF hl_599 hV hP_587 hD_587 hS_587 hA [] [0, 1, 2] (wc := []) (wr := [(h, .inr (2, [.ref qk, .ref qc, .ref qv, .ref qt, .int rd])), (qc, .inl (E.2.1, 16, .inl cl)), (qv, .inl (E.2.1, 16, .inl (upd (upd (upd mv ((column + 0) &&& 15).toNatClampNeg (cl ((column + 0) &&& 15).toNatClampNeg)) ((column + 1) &&& 15).toNatClampNeg (cl ((column + 1) &&& 15).toNatClampNeg)) ((column + 2) &&& 15).toNatClampNeg (cl ((column + 2) &&& 15).toNatClampNeg))))]) rfl rfl rfl (by decide) (k_X0_twice E l v_601) (va_cwS 1 hts gX0_unmixColumn_X0_twice rfl rfl rfl (by decide +kernel) ⟨Nat.le_of_ble_eq_true rfl, Nat.le_of_ble_eq_true rfl⟩) rfl rfl (Nat.le_of_ble_eq_true rfl) dX0_unmixColumn_82 ⟨Nat.le_of_ble_eq_true rfl, Nat.le_of_ble_eq_true rfl⟩ (fun r_602 _ H_603 locs_603 hu_602 hP_603 hD_603 hS_603 => ?_)
    have er_602 : r_602 = F_X0_twice v_601 := hu_602
    clear hu_602
    replace hP_603 : va_P E.1 vwCl [(h, .inr (2, [.ref qk, .ref qc, .ref qv, .ref qt, .int rd])), (qc, .inl (E.2.1, 16, .inl cl)), (qv, .inl (E.2.1, 16, .inl (upd (upd (upd mv ((column + 0) &&& 15).toNatClampNeg (cl ((column + 0) &&& 15).toNatClampNeg)) ((column + 1) &&& 15).toNatClampNeg (cl ((column + 1) &&& 15).toNatClampNeg)) ((column + 2) &&& 15).toNatClampNeg (cl ((column + 2) &&& 15).toNatClampNeg))))] H_603 := hP_603
    replace hD_603 : va_D A [(h, .inr (2, [.ref qk, .ref qc, .ref qv, .ref qt, .int rd])), (qc, .inl (E.2.1, 16, .inl cl)), (qv, .inl (E.2.1, 16, .inl (upd (upd (upd mv ((column + 0) &&& 15).toNatClampNeg (cl ((column + 0) &&& 15).toNatClampNeg)) ((column + 1) &&& 15).toNatClampNeg (cl ((column + 1) &&& 15).toNatClampNeg)) ((column + 2) &&& 15).toNatClampNeg (cl ((column + 2) &&& 15).toNatClampNeg))))] := hD_603
    clear hP_587 hD_587 hS_587
    refine gSi hF hl_599 hV hP_603 hD_603 hS_603 hA [] [0, 1, 2] (wc := []) (wr := [(h, .inr (2, [.ref qk, .ref qc, .ref qv, .ref qt, .int rd])), (qc, .inl (E.2.1, 16, .inl cl)), (qv, .inl (E.2.1, 16, .inl (upd (upd (upd mv ((column + 0) &&& 15).toNatClampNeg (cl ((column + 0) &&& 15).toNatClampNeg)) ((column + 1) &&& 15).toNatClampNeg (cl ((column + 1) &&& 15).toNatClampNeg)) ((column + 2) &&& 15).toNatClampNeg (cl ((column + 2) &&& 15).toNatClampNeg))))]) rfl rfl rfl (by decide) (k_X0_twice E l r_602) (va_cwS 1 hts gX0_unmixColumn_X0_twice rfl rfl rfl (by decide +kernel) ⟨Nat.le_of_ble_eq_true rfl, Nat.le_of_ble_eq_true rfl⟩) rfl rfl (Nat.le_of_ble_eq_true rfl) dX0_unmixColumn_85 ⟨Nat.le_of_ble_eq_true rfl, Nat.le_of_ble_eq_true rfl⟩ (fun r_604 _ H_605 locs_605 hu_604 hP_605 hD_605 hS_605 => ?_)
    have er_604 : r_604 = F_X0_twice r_602 := hu_604
    clear hu_604
    replace hP_605 : va_P E.1 vwCl [(h, .inr (2, [.ref qk, .ref qc, .ref qv, .ref qt, .int rd])), (qc, .inl (E.2.1, 16, .inl cl)), (qv, .inl (E.2.1, 16, .inl (upd (upd (upd mv ((column + 0) &&& 15).toNatClampNeg (cl ((column + 0) &&& 15).toNatClampNeg)) ((column + 1) &&& 15).toNatClampNeg (cl ((column + 1) &&& 15).toNatClampNeg)) ((column + 2) &&& 15).toNatClampNeg (cl ((column + 2) &&& 15).toNatClampNeg))))] H_605 := hP_605
    replace hD_605 : va_D A [(h, .inr (2, [.ref qk, .ref qc, .ref qv, .ref qt, .int rd])), (qc, .inl (E.2.1, 16, .inl cl)), (qv, .inl (E.2.1, 16, .inl (upd (upd (upd mv ((column + 0) &&& 15).toNatClampNeg (cl ((column + 0) &&& 15).toNatClampNeg)) ((column + 1) &&& 15).toNatClampNeg (cl ((column + 1) &&& 15).toNatClampNeg)) ((column + 2) &&& 15).toNatClampNeg (cl ((column + 2) &&& 15).toNatClampNeg))))] := hD_605
    clear hP_603 hD_603 hS_603
    refine gSi hF hl_599 hV hP_605 hD_605 hS_605 hA [] [0, 1, 2] (wc := []) (wr := [(h, .inr (2, [.ref qk, .ref qc, .ref qv, .ref qt, .int rd])), (qc, .inl (E.2.1, 16, .inl cl)), (qv, .inl (E.2.1, 16, .inl (upd (upd (upd mv ((column + 0) &&& 15).toNatClampNeg (cl ((column + 0) &&& 15).toNatClampNeg)) ((column + 1) &&& 15).toNatClampNeg (cl ((column + 1) &&& 15).toNatClampNeg)) ((column + 2) &&& 15).toNatClampNeg (cl ((column + 2) &&& 15).toNatClampNeg))))]) rfl rfl rfl (by decide) (k_X0_twice E l r_604) (va_cwS 1 hts gX0_unmixColumn_X0_twice rfl rfl rfl (by decide +kernel) ⟨Nat.le_of_ble_eq_true rfl, Nat.le_of_ble_eq_true rfl⟩) rfl rfl (Nat.le_of_ble_eq_true rfl) dX0_unmixColumn_88 ⟨Nat.le_of_ble_eq_true rfl, Nat.le_of_ble_eq_true rfl⟩ (fun r_606 _ H_607 locs_607 hu_606 hP_607 hD_607 hS_607 => ?_)
    have er_606 : r_606 = F_X0_twice r_604 := hu_606
    clear hu_606
    replace hP_607 : va_P E.1 vwCl [(h, .inr (2, [.ref qk, .ref qc, .ref qv, .ref qt, .int rd])), (qc, .inl (E.2.1, 16, .inl cl)), (qv, .inl (E.2.1, 16, .inl (upd (upd (upd mv ((column + 0) &&& 15).toNatClampNeg (cl ((column + 0) &&& 15).toNatClampNeg)) ((column + 1) &&& 15).toNatClampNeg (cl ((column + 1) &&& 15).toNatClampNeg)) ((column + 2) &&& 15).toNatClampNeg (cl ((column + 2) &&& 15).toNatClampNeg))))] H_607 := hP_607
    replace hD_607 : va_D A [(h, .inr (2, [.ref qk, .ref qc, .ref qv, .ref qt, .int rd])), (qc, .inl (E.2.1, 16, .inl cl)), (qv, .inl (E.2.1, 16, .inl (upd (upd (upd mv ((column + 0) &&& 15).toNatClampNeg (cl ((column + 0) &&& 15).toNatClampNeg)) ((column + 1) &&& 15).toNatClampNeg (cl ((column + 1) &&& 15).toNatClampNeg)) ((column + 2) &&& 15).toNatClampNeg (cl ((column + 2) &&& 15).toNatClampNeg))))] := hD_607
    clear hP_605 hD_605 hS_605
    refine lv_istore (lv' := [(8, .int r_606), (7, .int (cl ((column + 2) &&& 15).toNatClampNeg)), (6, .int (cl ((column + 1) &&& 15).toNatClampNeg)), (5, .int (cl ((column + 0) &&& 15).toNatClampNeg)), (4, .int (cl ((column + 3) &&& 15).toNatClampNeg)), (3, .int 3), (10, .int r_583), (9, .int r_579), (0, .ref h), (1, .int column), (2, .int mixing)]) hx hb dX0_unmixColumn_91 hl_599 (by decide) rfl (fun ls_608 hl_608 => ?_)
    clear hl_599
    refine lv_iload hx hb dX0_unmixColumn_93 (lv_at hl_608 4 rfl) ?_
    refine lv_iload hx hb dX0_unmixColumn_95 (lv_at hl_608 2 rfl) ?_
    refine lv_ixor hx hb dX0_unmixColumn_97 ?_
    refine lv_topi (fun v_609 ev_609 => ?_)
    refine gSi hF hl_608 hV hP_607 hD_607 hS_607 hA [] [0, 1, 2] (wc := []) (wr := [(h, .inr (2, [.ref qk, .ref qc, .ref qv, .ref qt, .int rd])), (qc, .inl (E.2.1, 16, .inl cl)), (qv, .inl (E.2.1, 16, .inl (upd (upd (upd mv ((column + 0) &&& 15).toNatClampNeg (cl ((column + 0) &&& 15).toNatClampNeg)) ((column + 1) &&& 15).toNatClampNeg (cl ((column + 1) &&& 15).toNatClampNeg)) ((column + 2) &&& 15).toNatClampNeg (cl ((column + 2) &&& 15).toNatClampNeg))))]) rfl rfl rfl (by decide) (k_X0_twice E l v_609) (va_cwS 1 hts gX0_unmixColumn_X0_twice rfl rfl rfl (by decide +kernel) ⟨Nat.le_of_ble_eq_true rfl, Nat.le_of_ble_eq_true rfl⟩) rfl rfl (Nat.le_of_ble_eq_true rfl) dX0_unmixColumn_98 ⟨Nat.le_of_ble_eq_true rfl, Nat.le_of_ble_eq_true rfl⟩ (fun r_610 _ H_611 locs_611 hu_610 hP_611 hD_611 hS_611 => ?_)
    have er_610 : r_610 = F_X0_twice v_609 := hu_610
    clear hu_610
    replace hP_611 : va_P E.1 vwCl [(h, .inr (2, [.ref qk, .ref qc, .ref qv, .ref qt, .int rd])), (qc, .inl (E.2.1, 16, .inl cl)), (qv, .inl (E.2.1, 16, .inl (upd (upd (upd mv ((column + 0) &&& 15).toNatClampNeg (cl ((column + 0) &&& 15).toNatClampNeg)) ((column + 1) &&& 15).toNatClampNeg (cl ((column + 1) &&& 15).toNatClampNeg)) ((column + 2) &&& 15).toNatClampNeg (cl ((column + 2) &&& 15).toNatClampNeg))))] H_611 := hP_611
    replace hD_611 : va_D A [(h, .inr (2, [.ref qk, .ref qc, .ref qv, .ref qt, .int rd])), (qc, .inl (E.2.1, 16, .inl cl)), (qv, .inl (E.2.1, 16, .inl (upd (upd (upd mv ((column + 0) &&& 15).toNatClampNeg (cl ((column + 0) &&& 15).toNatClampNeg)) ((column + 1) &&& 15).toNatClampNeg (cl ((column + 1) &&& 15).toNatClampNeg)) ((column + 2) &&& 15).toNatClampNeg (cl ((column + 2) &&& 15).toNatClampNeg))))] := hD_611
    clear hP_607 hD_607 hS_607
    refine gSi hF hl_608 hV hP_611 hD_611 hS_611 hA [] [0, 1, 2] (wc := []) (wr := [(h, .inr (2, [.ref qk, .ref qc, .ref qv, .ref qt, .int rd])), (qc, .inl (E.2.1, 16, .inl cl)), (qv, .inl (E.2.1, 16, .inl (upd (upd (upd mv ((column + 0) &&& 15).toNatClampNeg (cl ((column + 0) &&& 15).toNatClampNeg)) ((column + 1) &&& 15).toNatClampNeg (cl ((column + 1) &&& 15).toNatClampNeg)) ((column + 2) &&& 15).toNatClampNeg (cl ((column + 2) &&& 15).toNatClampNeg))))]) rfl rfl rfl (by decide) (k_X0_twice E l r_610) (va_cwS 1 hts gX0_unmixColumn_X0_twice rfl rfl rfl (by decide +kernel) ⟨Nat.le_of_ble_eq_true rfl, Nat.le_of_ble_eq_true rfl⟩) rfl rfl (Nat.le_of_ble_eq_true rfl) dX0_unmixColumn_101 ⟨Nat.le_of_ble_eq_true rfl, Nat.le_of_ble_eq_true rfl⟩ (fun r_612 _ H_613 locs_613 hu_612 hP_613 hD_613 hS_613 => ?_)
    have er_612 : r_612 = F_X0_twice r_610 := hu_612
    clear hu_612
    replace hP_613 : va_P E.1 vwCl [(h, .inr (2, [.ref qk, .ref qc, .ref qv, .ref qt, .int rd])), (qc, .inl (E.2.1, 16, .inl cl)), (qv, .inl (E.2.1, 16, .inl (upd (upd (upd mv ((column + 0) &&& 15).toNatClampNeg (cl ((column + 0) &&& 15).toNatClampNeg)) ((column + 1) &&& 15).toNatClampNeg (cl ((column + 1) &&& 15).toNatClampNeg)) ((column + 2) &&& 15).toNatClampNeg (cl ((column + 2) &&& 15).toNatClampNeg))))] H_613 := hP_613
    replace hD_613 : va_D A [(h, .inr (2, [.ref qk, .ref qc, .ref qv, .ref qt, .int rd])), (qc, .inl (E.2.1, 16, .inl cl)), (qv, .inl (E.2.1, 16, .inl (upd (upd (upd mv ((column + 0) &&& 15).toNatClampNeg (cl ((column + 0) &&& 15).toNatClampNeg)) ((column + 1) &&& 15).toNatClampNeg (cl ((column + 1) &&& 15).toNatClampNeg)) ((column + 2) &&& 15).toNatClampNeg (cl ((column + 2) &&& 15).toNatClampNeg))))] := hD_613
    clear hP_611 hD_611 hS_611
    refine lv_istore (lv' := [(9, .int r_612), (8, .int r_606), (7, .int (cl ((column + 2) &&& 15).toNatClampNeg)), (6, .int (cl ((column + 1) &&& 15).toNatClampNeg)), (5, .int (cl ((column + 0) &&& 15).toNatClampNeg)), (4, .int (cl ((column + 3) &&& 15).toNatClampNeg)), (3, .int 3), (10, .int r_583), (0, .ref h), (1, .int column), (2, .int mixing)]) hx hb dX0_unmixColumn_104 hl_608 (by decide) rfl (fun ls_614 hl_614 => ?_)
    clear hl_608
    refine lv_iload hx hb dX0_unmixColumn_106 (lv_at hl_614 5 rfl) ?_
    refine lv_iload hx hb dX0_unmixColumn_108 (lv_at hl_614 4 rfl) ?_
    refine lv_ixor hx hb dX0_unmixColumn_110 ?_
    refine lv_topi (fun v_615 ev_615 => ?_)
    refine gSi hF hl_614 hV hP_613 hD_613 hS_613 hA [] [0, 1, 2] (wc := []) (wr := [(h, .inr (2, [.ref qk, .ref qc, .ref qv, .ref qt, .int rd])), (qc, .inl (E.2.1, 16, .inl cl)), (qv, .inl (E.2.1, 16, .inl (upd (upd (upd mv ((column + 0) &&& 15).toNatClampNeg (cl ((column + 0) &&& 15).toNatClampNeg)) ((column + 1) &&& 15).toNatClampNeg (cl ((column + 1) &&& 15).toNatClampNeg)) ((column + 2) &&& 15).toNatClampNeg (cl ((column + 2) &&& 15).toNatClampNeg))))]) rfl rfl rfl (by decide) (k_X0_twice E l v_615) (va_cwS 1 hts gX0_unmixColumn_X0_twice rfl rfl rfl (by decide +kernel) ⟨Nat.le_of_ble_eq_true rfl, Nat.le_of_ble_eq_true rfl⟩) rfl rfl (Nat.le_of_ble_eq_true rfl) dX0_unmixColumn_111 ⟨Nat.le_of_ble_eq_true rfl, Nat.le_of_ble_eq_true rfl⟩ (fun r_616 _ H_617 locs_617 hu_616 hP_617 hD_617 hS_617 => ?_)
    have er_616 : r_616 = F_X0_twice v_615 := hu_616
    clear hu_616
    replace hP_617 : va_P E.1 vwCl [(h, .inr (2, [.ref qk, .ref qc, .ref qv, .ref qt, .int rd])), (qc, .inl (E.2.1, 16, .inl cl)), (qv, .inl (E.2.1, 16, .inl (upd (upd (upd mv ((column + 0) &&& 15).toNatClampNeg (cl ((column + 0) &&& 15).toNatClampNeg)) ((column + 1) &&& 15).toNatClampNeg (cl ((column + 1) &&& 15).toNatClampNeg)) ((column + 2) &&& 15).toNatClampNeg (cl ((column + 2) &&& 15).toNatClampNeg))))] H_617 := hP_617
    replace hD_617 : va_D A [(h, .inr (2, [.ref qk, .ref qc, .ref qv, .ref qt, .int rd])), (qc, .inl (E.2.1, 16, .inl cl)), (qv, .inl (E.2.1, 16, .inl (upd (upd (upd mv ((column + 0) &&& 15).toNatClampNeg (cl ((column + 0) &&& 15).toNatClampNeg)) ((column + 1) &&& 15).toNatClampNeg (cl ((column + 1) &&& 15).toNatClampNeg)) ((column + 2) &&& 15).toNatClampNeg (cl ((column + 2) &&& 15).toNatClampNeg))))] := hD_617
    clear hP_613 hD_613 hS_613
    refine lv_istore (lv' := [(10, .int r_616), (9, .int r_612), (8, .int r_606), (7, .int (cl ((column + 2) &&& 15).toNatClampNeg)), (6, .int (cl ((column + 1) &&& 15).toNatClampNeg)), (5, .int (cl ((column + 0) &&& 15).toNatClampNeg)), (4, .int (cl ((column + 3) &&& 15).toNatClampNeg)), (3, .int 3), (0, .ref h), (1, .int column), (2, .int mixing)]) hx hb dX0_unmixColumn_114 hl_614 (by decide) rfl (fun ls_618 hl_618 => ?_)
    clear hl_614
    refine lv_aload_n hx hb dX0_unmixColumn_116 rfl (lv_at hl_618 8 rfl) ?_
    refine va_get (D := E.1) (ci := 2) (v := .ref qv) (C := RX0) (T := TX0) (N := 5) hx hb hts in_X0 hown hK hP_617 0 rfl rfl 2 (by decide) w_1 (fun _ h9 => h9) rfl dX0_unmixColumn_117 ?_
    refine lv_iload_n hx hb dX0_unmixColumn_120 rfl (lv_at hl_618 9 rfl) ?_
    refine lv_iload_n hx hb dX0_unmixColumn_121 rfl (lv_at hl_618 7 rfl) ?_
    refine lv_iadd hx hb dX0_unmixColumn_122 ?_
    refine lv_bipush (v := 15) hx hb dX0_unmixColumn_123 (by decide) ?_
    refine lv_iand hx hb dX0_unmixColumn_125 ?_
    refine lv_iload_n hx hb dX0_unmixColumn_126 rfl (lv_at hl_618 10 rfl) ?_
    refine lv_if_eq (tgt := 150) hx hb dX0_unmixColumn_127 (by decide) (fun c_619 => ?_) (fun c_619 => absurd c_520 c_619)
    refine lv_iload hx hb dX0_unmixColumn_150 (lv_at hl_618 6 rfl) ?_
    refine va_iast hx hb hK hP_617 hD_617 hS_617 2 0 rfl rfl (pk_andIn _ 4 (by decide) (by decide)) dX0_unmixColumn_152 (fun H_620 locs_620 hP_620 hD_620 hS_620 => ?_)
    replace hP_620 : va_P E.1 vwCl [(h, .inr (2, [.ref qk, .ref qc, .ref qv, .ref qt, .int rd])), (qc, .inl (E.2.1, 16, .inl cl)), (qv, .inl (E.2.1, 16, .inl (upd (upd (upd (upd mv ((column + 0) &&& 15).toNatClampNeg (cl ((column + 0) &&& 15).toNatClampNeg)) ((column + 1) &&& 15).toNatClampNeg (cl ((column + 1) &&& 15).toNatClampNeg)) ((column + 2) &&& 15).toNatClampNeg (cl ((column + 2) &&& 15).toNatClampNeg)) ((column + 3) &&& 15).toNatClampNeg (cl ((column + 3) &&& 15).toNatClampNeg))))] H_620 := hP_620
    replace hD_620 : va_D A [(h, .inr (2, [.ref qk, .ref qc, .ref qv, .ref qt, .int rd])), (qc, .inl (E.2.1, 16, .inl cl)), (qv, .inl (E.2.1, 16, .inl (upd (upd (upd (upd mv ((column + 0) &&& 15).toNatClampNeg (cl ((column + 0) &&& 15).toNatClampNeg)) ((column + 1) &&& 15).toNatClampNeg (cl ((column + 1) &&& 15).toNatClampNeg)) ((column + 2) &&& 15).toNatClampNeg (cl ((column + 2) &&& 15).toNatClampNeg)) ((column + 3) &&& 15).toNatClampNeg (cl ((column + 3) &&& 15).toNatClampNeg))))] := hD_620
    clear hP_617 hD_617 hS_617
    refine lv_iinc (v := 4) (lv' := [(3, .int 4), (10, .int r_616), (9, .int r_612), (8, .int r_606), (7, .int (cl ((column + 2) &&& 15).toNatClampNeg)), (6, .int (cl ((column + 1) &&& 15).toNatClampNeg)), (5, .int (cl ((column + 0) &&& 15).toNatClampNeg)), (4, .int (cl ((column + 3) &&& 15).toNatClampNeg)), (0, .ref h), (1, .int column), (2, .int mixing)]) hx hb dX0_unmixColumn_153 hl_618 (k := 7) rfl (by decide) (by decide) rfl (fun ls_621 hl_621 => ?_)
    clear hl_618
    refine lv_goto (tgt := 2) hx hb dX0_unmixColumn_156 (by decide) ?_
    refine lv_iload_n hx hb dX0_unmixColumn_2 rfl (lv_at hl_621 0 rfl) ?_
    refine lv_iconst (v := 4) hx hb dX0_unmixColumn_3 (by decide) ?_
    refine lv_icmp_ge (tgt := 159) hx hb dX0_unmixColumn_4 (by decide) (fun c_622 => ?_) (fun c_622 => absurd (by decide) c_622)
    have hpost : ((upd (upd (upd (upd mv ((column + 0) &&& 15).toNatClampNeg (cl ((column + 0) &&& 15).toNatClampNeg)) ((column + 1) &&& 15).toNatClampNeg (cl ((column + 1) &&& 15).toNatClampNeg)) ((column + 2) &&& 15).toNatClampNeg (cl ((column + 2) &&& 15).toNatClampNeg)) ((column + 3) &&& 15).toNatClampNeg (cl ((column + 3) &&& 15).toNatClampNeg)) : Nat → Int32) = F_X0_unmixColumn cl mv column mixing := (show F_X0_unmixColumn cl mv column mixing = ((upd (upd (upd (upd mv ((column + 0) &&& 15).toNatClampNeg (cl ((column + 0) &&& 15).toNatClampNeg)) ((column + 1) &&& 15).toNatClampNeg (cl ((column + 1) &&& 15).toNatClampNeg)) ((column + 2) &&& 15).toNatClampNeg (cl ((column + 2) &&& 15).toNatClampNeg)) ((column + 3) &&& 15).toNatClampNeg (cl ((column + 3) &&& 15).toNatClampNeg)) : Nat → Int32) from (gLet_eq ev_501 (gLet_eq ev_502 (gLet_eq er_503 (gLet_eq er_505 (gLet_eq er_507 (gLet_eq ev_510 (gLet_eq er_511 (gLet_eq er_513 (gLet_eq ev_516 (gLet_eq er_517 ((if_pos c_520).trans (gLet_eq ev_534 (gLet_eq ev_535 (gLet_eq er_536 (gLet_eq er_538 (gLet_eq er_540 (gLet_eq ev_543 (gLet_eq er_544 (gLet_eq er_546 (gLet_eq ev_549 (gLet_eq er_550 (gLet_eq ev_567 (gLet_eq ev_568 (gLet_eq er_569 (gLet_eq er_571 (gLet_eq er_573 (gLet_eq ev_576 (gLet_eq er_577 (gLet_eq er_579 (gLet_eq ev_582 (gLet_eq er_583 (gLet_eq ev_600 (gLet_eq ev_601 (gLet_eq er_602 (gLet_eq er_604 (gLet_eq er_606 (gLet_eq ev_609 (gLet_eq er_610 (gLet_eq er_612 (gLet_eq ev_615 (gLet_eq er_616 rfl)))))))))))))))))))))))))))))))))))))))))).symm
    have hP9 := hP_620.sub (ws' := [(h, .inr (2, [.ref qk, .ref qc, .ref qv, .ref qt, .int rd])), (qc, .inl (E.2.1, 16, .inl cl)), (qv, .inl (E.2.1, 16, .inl (upd (upd (upd (upd mv ((column + 0) &&& 15).toNatClampNeg (cl ((column + 0) &&& 15).toNatClampNeg)) ((column + 1) &&& 15).toNatClampNeg (cl ((column + 1) &&& 15).toNatClampNeg)) ((column + 2) &&& 15).toNatClampNeg (cl ((column + 2) &&& 15).toNatClampNeg)) ((column + 3) &&& 15).toNatClampNeg (cl ((column + 3) &&& 15).toNatClampNeg))))]) [0, 1, 2] rfl
    have hD9 := hD_620.sub (ws' := [(h, .inr (2, [.ref qk, .ref qc, .ref qv, .ref qt, .int rd])), (qc, .inl (E.2.1, 16, .inl cl)), (qv, .inl (E.2.1, 16, .inl (upd (upd (upd (upd mv ((column + 0) &&& 15).toNatClampNeg (cl ((column + 0) &&& 15).toNatClampNeg)) ((column + 1) &&& 15).toNatClampNeg (cl ((column + 1) &&& 15).toNatClampNeg)) ((column + 2) &&& 15).toNatClampNeg (cl ((column + 2) &&& 15).toNatClampNeg)) ((column + 3) &&& 15).toNatClampNeg (cl ((column + 3) &&& 15).toNatClampNeg))))]) [0, 1, 2] (by decide) rfl
    exact W.vret hx hb hr (fun t ht hW => ⟨⟨(upd (upd (upd (upd mv ((column + 0) &&& 15).toNatClampNeg (cl ((column + 0) &&& 15).toNatClampNeg)) ((column + 1) &&& 15).toNatClampNeg (cl ((column + 1) &&& 15).toNatClampNeg)) ((column + 2) &&& 15).toNatClampNeg (cl ((column + 2) &&& 15).toNatClampNeg)) ((column + 3) &&& 15).toNatClampNeg (cl ((column + 3) &&& 15).toNatClampNeg)), rfl, hpost, by rw [ht]; exact hP9, hD9⟩, hS_620.F ht⟩) hS_620.2.2 dX0_unmixColumn_159
  · replace c_520 : ¬ (mixing = 0) := c_520
    refine lv_iload hx hb dX0_unmixColumn_130 (lv_at hl_519 2 rfl) ?_
    refine lv_iload hx hb dX0_unmixColumn_132 (lv_at hl_519 1 rfl) ?_
    refine lv_ixor hx hb dX0_unmixColumn_134 ?_
    refine lv_iload hx hb dX0_unmixColumn_135 (lv_at hl_519 0 rfl) ?_
    refine lv_ixor hx hb dX0_unmixColumn_137 ?_
    refine lv_iload hx hb dX0_unmixColumn_138 (lv_at hl_519 5 rfl) ?_
    refine lv_ixor hx hb dX0_unmixColumn_140 ?_
    refine lv_topi (fun v_623 ev_623 => ?_)
    refine lv_iload hx hb dX0_unmixColumn_141 (lv_at hl_519 4 rfl) ?_
    refine lv_ixor hx hb dX0_unmixColumn_143 ?_
    refine lv_iload hx hb dX0_unmixColumn_144 (lv_at hl_519 3 rfl) ?_
    refine lv_ixor hx hb dX0_unmixColumn_146 ?_
    refine lv_topi (fun v_624 ev_624 => ?_)
    refine lv_goto (tgt := 152) hx hb dX0_unmixColumn_147 (by decide) ?_
    refine va_iast hx hb hK hP_518 hD_518 hS_518 2 0 rfl rfl (pk_andIn _ 4 (by decide) (by decide)) dX0_unmixColumn_152 (fun H_625 locs_625 hP_625 hD_625 hS_625 => ?_)
    replace hP_625 : va_P E.1 vwCl [(h, .inr (2, [.ref qk, .ref qc, .ref qv, .ref qt, .int rd])), (qc, .inl (E.2.1, 16, .inl cl)), (qv, .inl (E.2.1, 16, .inl (upd mv ((column + 0) &&& 15).toNatClampNeg v_624)))] H_625 := hP_625
    replace hD_625 : va_D A [(h, .inr (2, [.ref qk, .ref qc, .ref qv, .ref qt, .int rd])), (qc, .inl (E.2.1, 16, .inl cl)), (qv, .inl (E.2.1, 16, .inl (upd mv ((column + 0) &&& 15).toNatClampNeg v_624)))] := hD_625
    clear hP_518 hD_518 hS_518
    refine lv_iinc (v := 1) (lv' := [(3, .int 1), (10, .int r_517), (9, .int r_513), (8, .int r_507), (7, .int (cl ((column + 3) &&& 15).toNatClampNeg)), (6, .int (cl ((column + 2) &&& 15).toNatClampNeg)), (5, .int (cl ((column + 1) &&& 15).toNatClampNeg)), (4, .int (cl ((column + 0) &&& 15).toNatClampNeg)), (0, .ref h), (1, .int column), (2, .int mixing)]) hx hb dX0_unmixColumn_153 hl_519 (k := 7) rfl (by decide) (by decide) rfl (fun ls_626 hl_626 => ?_)
    clear hl_519
    refine lv_goto (tgt := 2) hx hb dX0_unmixColumn_156 (by decide) ?_
    refine lv_iload_n hx hb dX0_unmixColumn_2 rfl (lv_at hl_626 0 rfl) ?_
    refine lv_iconst (v := 4) hx hb dX0_unmixColumn_3 (by decide) ?_
    refine lv_icmp_ge (tgt := 159) hx hb dX0_unmixColumn_4 (by decide) (fun c_627 => absurd c_627 (by decide)) (fun c_627 => ?_)
    refine lv_aload_n hx hb dX0_unmixColumn_7 rfl (lv_at hl_626 8 rfl) ?_
    refine va_get (D := E.1) (ci := 2) (v := .ref qc) (C := RX0) (T := TX0) (N := 5) hx hb hts in_X0 hown hK hP_625 0 rfl rfl 1 (by decide) w_0 (fun _ h9 => h9) rfl dX0_unmixColumn_8 ?_
    refine lv_iload_n hx hb dX0_unmixColumn_11 rfl (lv_at hl_626 9 rfl) ?_
    refine lv_iload_n hx hb dX0_unmixColumn_12 rfl (lv_at hl_626 0 rfl) ?_
    refine lv_iadd hx hb dX0_unmixColumn_13 ?_
    refine lv_bipush (v := 15) hx hb dX0_unmixColumn_14 (by decide) ?_
    refine lv_iand hx hb dX0_unmixColumn_16 ?_
    refine va_iald hx hb hK hP_625 1 0 rfl rfl (pk_andIn _ 4 (by decide) (by decide)) dX0_unmixColumn_17 ?_
    refine lv_istore (lv' := [(4, .int (cl ((column + 1) &&& 15).toNatClampNeg)), (3, .int 1), (10, .int r_517), (9, .int r_513), (8, .int r_507), (7, .int (cl ((column + 3) &&& 15).toNatClampNeg)), (6, .int (cl ((column + 2) &&& 15).toNatClampNeg)), (5, .int (cl ((column + 1) &&& 15).toNatClampNeg)), (0, .ref h), (1, .int column), (2, .int mixing)]) hx hb dX0_unmixColumn_18 hl_626 (by decide) rfl (fun ls_628 hl_628 => ?_)
    clear hl_626
    refine lv_aload_n hx hb dX0_unmixColumn_20 rfl (lv_at hl_628 8 rfl) ?_
    refine va_get (D := E.1) (ci := 2) (v := .ref qc) (C := RX0) (T := TX0) (N := 5) hx hb hts in_X0 hown hK hP_625 0 rfl rfl 1 (by decide) w_0 (fun _ h9 => h9) rfl dX0_unmixColumn_21 ?_
    refine lv_iload_n hx hb dX0_unmixColumn_24 rfl (lv_at hl_628 9 rfl) ?_
    refine lv_iload_n hx hb dX0_unmixColumn_25 rfl (lv_at hl_628 1 rfl) ?_
    refine lv_iconst (v := 1) hx hb dX0_unmixColumn_26 (by decide) ?_
    refine lv_iadd hx hb dX0_unmixColumn_27 ?_
    refine lv_topi (fun y_629 ey_629 => ?_)
    obtain rfl : y_629 = 2 := ey_629.trans (by decide)
    refine lv_iconst (v := 3) hx hb dX0_unmixColumn_28 (by decide) ?_
    refine lv_iand hx hb dX0_unmixColumn_29 ?_
    refine lv_topi (fun y_630 ey_630 => ?_)
    obtain rfl : y_630 = 2 := ey_630.trans (by decide)
    refine lv_iadd hx hb dX0_unmixColumn_30 ?_
    refine lv_bipush (v := 15) hx hb dX0_unmixColumn_31 (by decide) ?_
    refine lv_iand hx hb dX0_unmixColumn_33 ?_
    refine va_iald hx hb hK hP_625 1 0 rfl rfl (pk_andIn _ 4 (by decide) (by decide)) dX0_unmixColumn_34 ?_
    refine lv_istore (lv' := [(5, .int (cl ((column + 2) &&& 15).toNatClampNeg)), (4, .int (cl ((column + 1) &&& 15).toNatClampNeg)), (3, .int 1), (10, .int r_517), (9, .int r_513), (8, .int r_507), (7, .int (cl ((column + 3) &&& 15).toNatClampNeg)), (6, .int (cl ((column + 2) &&& 15).toNatClampNeg)), (0, .ref h), (1, .int column), (2, .int mixing)]) hx hb dX0_unmixColumn_35 hl_628 (by decide) rfl (fun ls_631 hl_631 => ?_)
    clear hl_628
    refine lv_aload_n hx hb dX0_unmixColumn_37 rfl (lv_at hl_631 8 rfl) ?_
    refine va_get (D := E.1) (ci := 2) (v := .ref qc) (C := RX0) (T := TX0) (N := 5) hx hb hts in_X0 hown hK hP_625 0 rfl rfl 1 (by decide) w_0 (fun _ h9 => h9) rfl dX0_unmixColumn_38 ?_
    refine lv_iload_n hx hb dX0_unmixColumn_41 rfl (lv_at hl_631 9 rfl) ?_
    refine lv_iload_n hx hb dX0_unmixColumn_42 rfl (lv_at hl_631 2 rfl) ?_
    refine lv_iconst (v := 2) hx hb dX0_unmixColumn_43 (by decide) ?_
    refine lv_iadd hx hb dX0_unmixColumn_44 ?_
    refine lv_topi (fun y_632 ey_632 => ?_)
    obtain rfl : y_632 = 3 := ey_632.trans (by decide)
    refine lv_iconst (v := 3) hx hb dX0_unmixColumn_45 (by decide) ?_
    refine lv_iand hx hb dX0_unmixColumn_46 ?_
    refine lv_topi (fun y_633 ey_633 => ?_)
    obtain rfl : y_633 = 3 := ey_633.trans (by decide)
    refine lv_iadd hx hb dX0_unmixColumn_47 ?_
    refine lv_bipush (v := 15) hx hb dX0_unmixColumn_48 (by decide) ?_
    refine lv_iand hx hb dX0_unmixColumn_50 ?_
    refine va_iald hx hb hK hP_625 1 0 rfl rfl (pk_andIn _ 4 (by decide) (by decide)) dX0_unmixColumn_51 ?_
    refine lv_istore (lv' := [(6, .int (cl ((column + 3) &&& 15).toNatClampNeg)), (5, .int (cl ((column + 2) &&& 15).toNatClampNeg)), (4, .int (cl ((column + 1) &&& 15).toNatClampNeg)), (3, .int 1), (10, .int r_517), (9, .int r_513), (8, .int r_507), (7, .int (cl ((column + 3) &&& 15).toNatClampNeg)), (0, .ref h), (1, .int column), (2, .int mixing)]) hx hb dX0_unmixColumn_52 hl_631 (by decide) rfl (fun ls_634 hl_634 => ?_)
    clear hl_631
    refine lv_aload_n hx hb dX0_unmixColumn_54 rfl (lv_at hl_634 8 rfl) ?_
    refine va_get (D := E.1) (ci := 2) (v := .ref qc) (C := RX0) (T := TX0) (N := 5) hx hb hts in_X0 hown hK hP_625 0 rfl rfl 1 (by decide) w_0 (fun _ h9 => h9) rfl dX0_unmixColumn_55 ?_
    refine lv_iload_n hx hb dX0_unmixColumn_58 rfl (lv_at hl_634 9 rfl) ?_
    refine lv_iload_n hx hb dX0_unmixColumn_59 rfl (lv_at hl_634 3 rfl) ?_
    refine lv_iconst (v := 3) hx hb dX0_unmixColumn_60 (by decide) ?_
    refine lv_iadd hx hb dX0_unmixColumn_61 ?_
    refine lv_topi (fun y_635 ey_635 => ?_)
    obtain rfl : y_635 = 4 := ey_635.trans (by decide)
    refine lv_iconst (v := 3) hx hb dX0_unmixColumn_62 (by decide) ?_
    refine lv_iand hx hb dX0_unmixColumn_63 ?_
    refine lv_topi (fun y_636 ey_636 => ?_)
    obtain rfl : y_636 = 0 := ey_636.trans (by decide)
    refine lv_iadd hx hb dX0_unmixColumn_64 ?_
    refine lv_bipush (v := 15) hx hb dX0_unmixColumn_65 (by decide) ?_
    refine lv_iand hx hb dX0_unmixColumn_67 ?_
    refine va_iald hx hb hK hP_625 1 0 rfl rfl (pk_andIn _ 4 (by decide) (by decide)) dX0_unmixColumn_68 ?_
    refine lv_istore (lv' := [(7, .int (cl ((column + 0) &&& 15).toNatClampNeg)), (6, .int (cl ((column + 3) &&& 15).toNatClampNeg)), (5, .int (cl ((column + 2) &&& 15).toNatClampNeg)), (4, .int (cl ((column + 1) &&& 15).toNatClampNeg)), (3, .int 1), (10, .int r_517), (9, .int r_513), (8, .int r_507), (0, .ref h), (1, .int column), (2, .int mixing)]) hx hb dX0_unmixColumn_69 hl_634 (by decide) rfl (fun ls_637 hl_637 => ?_)
    clear hl_634
    refine lv_iload hx hb dX0_unmixColumn_71 (lv_at hl_637 3 rfl) ?_
    refine lv_iload hx hb dX0_unmixColumn_73 (lv_at hl_637 2 rfl) ?_
    refine lv_ixor hx hb dX0_unmixColumn_75 ?_
    refine lv_topi (fun v_638 ev_638 => ?_)
    refine lv_iload hx hb dX0_unmixColumn_76 (lv_at hl_637 1 rfl) ?_
    refine lv_ixor hx hb dX0_unmixColumn_78 ?_
    refine lv_iload hx hb dX0_unmixColumn_79 (lv_at hl_637 0 rfl) ?_
    refine lv_ixor hx hb dX0_unmixColumn_81 ?_
    refine lv_topi (fun v_639 ev_639 => ?_)
    refine gSi hF hl_637 hV hP_625 hD_625 hS_625 hA [] [0, 1, 2] (wc := []) (wr := [(h, .inr (2, [.ref qk, .ref qc, .ref qv, .ref qt, .int rd])), (qc, .inl (E.2.1, 16, .inl cl)), (qv, .inl (E.2.1, 16, .inl (upd mv ((column + 0) &&& 15).toNatClampNeg v_624)))]) rfl rfl rfl (by decide) (k_X0_twice E l v_639) (va_cwS 1 hts gX0_unmixColumn_X0_twice rfl rfl rfl (by decide +kernel) ⟨Nat.le_of_ble_eq_true rfl, Nat.le_of_ble_eq_true rfl⟩) rfl rfl (Nat.le_of_ble_eq_true rfl) dX0_unmixColumn_82 ⟨Nat.le_of_ble_eq_true rfl, Nat.le_of_ble_eq_true rfl⟩ (fun r_640 _ H_641 locs_641 hu_640 hP_641 hD_641 hS_641 => ?_)
    have er_640 : r_640 = F_X0_twice v_639 := hu_640
    clear hu_640
    replace hP_641 : va_P E.1 vwCl [(h, .inr (2, [.ref qk, .ref qc, .ref qv, .ref qt, .int rd])), (qc, .inl (E.2.1, 16, .inl cl)), (qv, .inl (E.2.1, 16, .inl (upd mv ((column + 0) &&& 15).toNatClampNeg v_624)))] H_641 := hP_641
    replace hD_641 : va_D A [(h, .inr (2, [.ref qk, .ref qc, .ref qv, .ref qt, .int rd])), (qc, .inl (E.2.1, 16, .inl cl)), (qv, .inl (E.2.1, 16, .inl (upd mv ((column + 0) &&& 15).toNatClampNeg v_624)))] := hD_641
    clear hP_625 hD_625 hS_625
    refine gSi hF hl_637 hV hP_641 hD_641 hS_641 hA [] [0, 1, 2] (wc := []) (wr := [(h, .inr (2, [.ref qk, .ref qc, .ref qv, .ref qt, .int rd])), (qc, .inl (E.2.1, 16, .inl cl)), (qv, .inl (E.2.1, 16, .inl (upd mv ((column + 0) &&& 15).toNatClampNeg v_624)))]) rfl rfl rfl (by decide) (k_X0_twice E l r_640) (va_cwS 1 hts gX0_unmixColumn_X0_twice rfl rfl rfl (by decide +kernel) ⟨Nat.le_of_ble_eq_true rfl, Nat.le_of_ble_eq_true rfl⟩) rfl rfl (Nat.le_of_ble_eq_true rfl) dX0_unmixColumn_85 ⟨Nat.le_of_ble_eq_true rfl, Nat.le_of_ble_eq_true rfl⟩ (fun r_642 _ H_643 locs_643 hu_642 hP_643 hD_643 hS_643 => ?_)
    have er_642 : r_642 = F_X0_twice r_640 := hu_642
    clear hu_642
    replace hP_643 : va_P E.1 vwCl [(h, .inr (2, [.ref qk, .ref qc, .ref qv, .ref qt, .int rd])), (qc, .inl (E.2.1, 16, .inl cl)), (qv, .inl (E.2.1, 16, .inl (upd mv ((column + 0) &&& 15).toNatClampNeg v_624)))] H_643 := hP_643
    replace hD_643 : va_D A [(h, .inr (2, [.ref qk, .ref qc, .ref qv, .ref qt, .int rd])), (qc, .inl (E.2.1, 16, .inl cl)), (qv, .inl (E.2.1, 16, .inl (upd mv ((column + 0) &&& 15).toNatClampNeg v_624)))] := hD_643
    clear hP_641 hD_641 hS_641
    refine gSi hF hl_637 hV hP_643 hD_643 hS_643 hA [] [0, 1, 2] (wc := []) (wr := [(h, .inr (2, [.ref qk, .ref qc, .ref qv, .ref qt, .int rd])), (qc, .inl (E.2.1, 16, .inl cl)), (qv, .inl (E.2.1, 16, .inl (upd mv ((column + 0) &&& 15).toNatClampNeg v_624)))]) rfl rfl rfl (by decide) (k_X0_twice E l r_642) (va_cwS 1 hts gX0_unmixColumn_X0_twice rfl rfl rfl (by decide +kernel) ⟨Nat.le_of_ble_eq_true rfl, Nat.le_of_ble_eq_true rfl⟩) rfl rfl (Nat.le_of_ble_eq_true rfl) dX0_unmixColumn_88 ⟨Nat.le_of_ble_eq_true rfl, Nat.le_of_ble_eq_true rfl⟩ (fun r_644 _ H_645 locs_645 hu_644 hP_645 hD_645 hS_645 => ?_)
    have er_644 : r_644 = F_X0_twice r_642 := hu_644
    clear hu_644
    replace hP_645 : va_P E.1 vwCl [(h, .inr (2, [.ref qk, .ref qc, .ref qv, .ref qt, .int rd])), (qc, .inl (E.2.1, 16, .inl cl)), (qv, .inl (E.2.1, 16, .inl (upd mv ((column + 0) &&& 15).toNatClampNeg v_624)))] H_645 := hP_645
    replace hD_645 : va_D A [(h, .inr (2, [.ref qk, .ref qc, .ref qv, .ref qt, .int rd])), (qc, .inl (E.2.1, 16, .inl cl)), (qv, .inl (E.2.1, 16, .inl (upd mv ((column + 0) &&& 15).toNatClampNeg v_624)))] := hD_645
    clear hP_643 hD_643 hS_643
    refine lv_istore (lv' := [(8, .int r_644), (7, .int (cl ((column + 0) &&& 15).toNatClampNeg)), (6, .int (cl ((column + 3) &&& 15).toNatClampNeg)), (5, .int (cl ((column + 2) &&& 15).toNatClampNeg)), (4, .int (cl ((column + 1) &&& 15).toNatClampNeg)), (3, .int 1), (10, .int r_517), (9, .int r_513), (0, .ref h), (1, .int column), (2, .int mixing)]) hx hb dX0_unmixColumn_91 hl_637 (by decide) rfl (fun ls_646 hl_646 => ?_)
    clear hl_637
    refine lv_iload hx hb dX0_unmixColumn_93 (lv_at hl_646 4 rfl) ?_
    refine lv_iload hx hb dX0_unmixColumn_95 (lv_at hl_646 2 rfl) ?_
    refine lv_ixor hx hb dX0_unmixColumn_97 ?_
    refine lv_topi (fun v_647 ev_647 => ?_)
    refine gSi hF hl_646 hV hP_645 hD_645 hS_645 hA [] [0, 1, 2] (wc := []) (wr := [(h, .inr (2, [.ref qk, .ref qc, .ref qv, .ref qt, .int rd])), (qc, .inl (E.2.1, 16, .inl cl)), (qv, .inl (E.2.1, 16, .inl (upd mv ((column + 0) &&& 15).toNatClampNeg v_624)))]) rfl rfl rfl (by decide) (k_X0_twice E l v_647) (va_cwS 1 hts gX0_unmixColumn_X0_twice rfl rfl rfl (by decide +kernel) ⟨Nat.le_of_ble_eq_true rfl, Nat.le_of_ble_eq_true rfl⟩) rfl rfl (Nat.le_of_ble_eq_true rfl) dX0_unmixColumn_98 ⟨Nat.le_of_ble_eq_true rfl, Nat.le_of_ble_eq_true rfl⟩ (fun r_648 _ H_649 locs_649 hu_648 hP_649 hD_649 hS_649 => ?_)
    have er_648 : r_648 = F_X0_twice v_647 := hu_648
    clear hu_648
    replace hP_649 : va_P E.1 vwCl [(h, .inr (2, [.ref qk, .ref qc, .ref qv, .ref qt, .int rd])), (qc, .inl (E.2.1, 16, .inl cl)), (qv, .inl (E.2.1, 16, .inl (upd mv ((column + 0) &&& 15).toNatClampNeg v_624)))] H_649 := hP_649
    replace hD_649 : va_D A [(h, .inr (2, [.ref qk, .ref qc, .ref qv, .ref qt, .int rd])), (qc, .inl (E.2.1, 16, .inl cl)), (qv, .inl (E.2.1, 16, .inl (upd mv ((column + 0) &&& 15).toNatClampNeg v_624)))] := hD_649
    clear hP_645 hD_645 hS_645
    refine gSi hF hl_646 hV hP_649 hD_649 hS_649 hA [] [0, 1, 2] (wc := []) (wr := [(h, .inr (2, [.ref qk, .ref qc, .ref qv, .ref qt, .int rd])), (qc, .inl (E.2.1, 16, .inl cl)), (qv, .inl (E.2.1, 16, .inl (upd mv ((column + 0) &&& 15).toNatClampNeg v_624)))]) rfl rfl rfl (by decide) (k_X0_twice E l r_648) (va_cwS 1 hts gX0_unmixColumn_X0_twice rfl rfl rfl (by decide +kernel) ⟨Nat.le_of_ble_eq_true rfl, Nat.le_of_ble_eq_true rfl⟩) rfl rfl (Nat.le_of_ble_eq_true rfl) dX0_unmixColumn_101 ⟨Nat.le_of_ble_eq_true rfl, Nat.le_of_ble_eq_true rfl⟩ (fun r_650 _ H_651 locs_651 hu_650 hP_651 hD_651 hS_651 => ?_)
    have er_650 : r_650 = F_X0_twice r_648 := hu_650
    clear hu_650
    replace hP_651 : va_P E.1 vwCl [(h, .inr (2, [.ref qk, .ref qc, .ref qv, .ref qt, .int rd])), (qc, .inl (E.2.1, 16, .inl cl)), (qv, .inl (E.2.1, 16, .inl (upd mv ((column + 0) &&& 15).toNatClampNeg v_624)))] H_651 := hP_651
    replace hD_651 : va_D A [(h, .inr (2, [.ref qk, .ref qc, .ref qv, .ref qt, .int rd])), (qc, .inl (E.2.1, 16, .inl cl)), (qv, .inl (E.2.1, 16, .inl (upd mv ((column + 0) &&& 15).toNatClampNeg v_624)))] := hD_651
    clear hP_649 hD_649 hS_649
    refine lv_istore (lv' := [(9, .int r_650), (8, .int r_644), (7, .int (cl ((column + 0) &&& 15).toNatClampNeg)), (6, .int (cl ((column + 3) &&& 15).toNatClampNeg)), (5, .int (cl ((column + 2) &&& 15).toNatClampNeg)), (4, .int (cl ((column + 1) &&& 15).toNatClampNeg)), (3, .int 1), (10, .int r_517), (0, .ref h), (1, .int column), (2, .int mixing)]) hx hb dX0_unmixColumn_104 hl_646 (by decide) rfl (fun ls_652 hl_652 => ?_)
    clear hl_646
    refine lv_iload hx hb dX0_unmixColumn_106 (lv_at hl_652 5 rfl) ?_
    refine lv_iload hx hb dX0_unmixColumn_108 (lv_at hl_652 4 rfl) ?_
    refine lv_ixor hx hb dX0_unmixColumn_110 ?_
    refine lv_topi (fun v_653 ev_653 => ?_)
    refine gSi hF hl_652 hV hP_651 hD_651 hS_651 hA [] [0, 1, 2] (wc := []) (wr := [(h, .inr (2, [.ref qk, .ref qc, .ref qv, .ref qt, .int rd])), (qc, .inl (E.2.1, 16, .inl cl)), (qv, .inl (E.2.1, 16, .inl (upd mv ((column + 0) &&& 15).toNatClampNeg v_624)))]) rfl rfl rfl (by decide) (k_X0_twice E l v_653) (va_cwS 1 hts gX0_unmixColumn_X0_twice rfl rfl rfl (by decide +kernel) ⟨Nat.le_of_ble_eq_true rfl, Nat.le_of_ble_eq_true rfl⟩) rfl rfl (Nat.le_of_ble_eq_true rfl) dX0_unmixColumn_111 ⟨Nat.le_of_ble_eq_true rfl, Nat.le_of_ble_eq_true rfl⟩ (fun r_654 _ H_655 locs_655 hu_654 hP_655 hD_655 hS_655 => ?_)
    have er_654 : r_654 = F_X0_twice v_653 := hu_654
    clear hu_654
    replace hP_655 : va_P E.1 vwCl [(h, .inr (2, [.ref qk, .ref qc, .ref qv, .ref qt, .int rd])), (qc, .inl (E.2.1, 16, .inl cl)), (qv, .inl (E.2.1, 16, .inl (upd mv ((column + 0) &&& 15).toNatClampNeg v_624)))] H_655 := hP_655
    replace hD_655 : va_D A [(h, .inr (2, [.ref qk, .ref qc, .ref qv, .ref qt, .int rd])), (qc, .inl (E.2.1, 16, .inl cl)), (qv, .inl (E.2.1, 16, .inl (upd mv ((column + 0) &&& 15).toNatClampNeg v_624)))] := hD_655
    clear hP_651 hD_651 hS_651
    refine lv_istore (lv' := [(10, .int r_654), (9, .int r_650), (8, .int r_644), (7, .int (cl ((column + 0) &&& 15).toNatClampNeg)), (6, .int (cl ((column + 3) &&& 15).toNatClampNeg)), (5, .int (cl ((column + 2) &&& 15).toNatClampNeg)), (4, .int (cl ((column + 1) &&& 15).toNatClampNeg)), (3, .int 1), (0, .ref h), (1, .int column), (2, .int mixing)]) hx hb dX0_unmixColumn_114 hl_652 (by decide) rfl (fun ls_656 hl_656 => ?_)
    clear hl_652
    refine lv_aload_n hx hb dX0_unmixColumn_116 rfl (lv_at hl_656 8 rfl) ?_
    refine va_get (D := E.1) (ci := 2) (v := .ref qv) (C := RX0) (T := TX0) (N := 5) hx hb hts in_X0 hown hK hP_655 0 rfl rfl 2 (by decide) w_1 (fun _ h9 => h9) rfl dX0_unmixColumn_117 ?_
    refine lv_iload_n hx hb dX0_unmixColumn_120 rfl (lv_at hl_656 9 rfl) ?_
    refine lv_iload_n hx hb dX0_unmixColumn_121 rfl (lv_at hl_656 7 rfl) ?_
    refine lv_iadd hx hb dX0_unmixColumn_122 ?_
    refine lv_bipush (v := 15) hx hb dX0_unmixColumn_123 (by decide) ?_
    refine lv_iand hx hb dX0_unmixColumn_125 ?_
    refine lv_iload_n hx hb dX0_unmixColumn_126 rfl (lv_at hl_656 10 rfl) ?_
    refine lv_if_eq (tgt := 150) hx hb dX0_unmixColumn_127 (by decide) (fun c_657 => absurd c_657 c_520) (fun c_657 => ?_)
    refine lv_iload hx hb dX0_unmixColumn_130 (lv_at hl_656 2 rfl) ?_
    refine lv_iload hx hb dX0_unmixColumn_132 (lv_at hl_656 1 rfl) ?_
    refine lv_ixor hx hb dX0_unmixColumn_134 ?_
    refine lv_iload hx hb dX0_unmixColumn_135 (lv_at hl_656 0 rfl) ?_
    refine lv_ixor hx hb dX0_unmixColumn_137 ?_
    refine lv_iload hx hb dX0_unmixColumn_138 (lv_at hl_656 5 rfl) ?_
    refine lv_ixor hx hb dX0_unmixColumn_140 ?_
    refine lv_topi (fun v_658 ev_658 => ?_)
    refine lv_iload hx hb dX0_unmixColumn_141 (lv_at hl_656 4 rfl) ?_
    refine lv_ixor hx hb dX0_unmixColumn_143 ?_
    refine lv_iload hx hb dX0_unmixColumn_144 (lv_at hl_656 3 rfl) ?_
    refine lv_ixor hx hb dX0_unmixColumn_146 ?_
    refine lv_topi (fun v_659 ev_659 => ?_)
    refine lv_goto (tgt := 152) hx hb dX0_unmixColumn_147 (by decide) ?_
    refine va_iast hx hb hK hP_655 hD_655 hS_655 2 0 rfl rfl (pk_andIn _ 4 (by decide) (by decide)) dX0_unmixColumn_152 (fun H_660 locs_660 hP_660 hD_660 hS_660 => ?_)
    replace hP_660 : va_P E.1 vwCl [(h, .inr (2, [.ref qk, .ref qc, .ref qv, .ref qt, .int rd])), (qc, .inl (E.2.1, 16, .inl cl)), (qv, .inl (E.2.1, 16, .inl (upd (upd mv ((column + 0) &&& 15).toNatClampNeg v_624) ((column + 1) &&& 15).toNatClampNeg v_659)))] H_660 := hP_660
    replace hD_660 : va_D A [(h, .inr (2, [.ref qk, .ref qc, .ref qv, .ref qt, .int rd])), (qc, .inl (E.2.1, 16, .inl cl)), (qv, .inl (E.2.1, 16, .inl (upd (upd mv ((column + 0) &&& 15).toNatClampNeg v_624) ((column + 1) &&& 15).toNatClampNeg v_659)))] := hD_660
    clear hP_655 hD_655 hS_655
    refine lv_iinc (v := 2) (lv' := [(3, .int 2), (10, .int r_654), (9, .int r_650), (8, .int r_644), (7, .int (cl ((column + 0) &&& 15).toNatClampNeg)), (6, .int (cl ((column + 3) &&& 15).toNatClampNeg)), (5, .int (cl ((column + 2) &&& 15).toNatClampNeg)), (4, .int (cl ((column + 1) &&& 15).toNatClampNeg)), (0, .ref h), (1, .int column), (2, .int mixing)]) hx hb dX0_unmixColumn_153 hl_656 (k := 7) rfl (by decide) (by decide) rfl (fun ls_661 hl_661 => ?_)
    clear hl_656
    refine lv_goto (tgt := 2) hx hb dX0_unmixColumn_156 (by decide) ?_
    refine lv_iload_n hx hb dX0_unmixColumn_2 rfl (lv_at hl_661 0 rfl) ?_
    refine lv_iconst (v := 4) hx hb dX0_unmixColumn_3 (by decide) ?_
    refine lv_icmp_ge (tgt := 159) hx hb dX0_unmixColumn_4 (by decide) (fun c_662 => absurd c_662 (by decide)) (fun c_662 => ?_)
    refine lv_aload_n hx hb dX0_unmixColumn_7 rfl (lv_at hl_661 8 rfl) ?_
    refine va_get (D := E.1) (ci := 2) (v := .ref qc) (C := RX0) (T := TX0) (N := 5) hx hb hts in_X0 hown hK hP_660 0 rfl rfl 1 (by decide) w_0 (fun _ h9 => h9) rfl dX0_unmixColumn_8 ?_
    refine lv_iload_n hx hb dX0_unmixColumn_11 rfl (lv_at hl_661 9 rfl) ?_
    refine lv_iload_n hx hb dX0_unmixColumn_12 rfl (lv_at hl_661 0 rfl) ?_
    refine lv_iadd hx hb dX0_unmixColumn_13 ?_
    refine lv_bipush (v := 15) hx hb dX0_unmixColumn_14 (by decide) ?_
    refine lv_iand hx hb dX0_unmixColumn_16 ?_
    refine va_iald hx hb hK hP_660 1 0 rfl rfl (pk_andIn _ 4 (by decide) (by decide)) dX0_unmixColumn_17 ?_
    refine lv_istore (lv' := [(4, .int (cl ((column + 2) &&& 15).toNatClampNeg)), (3, .int 2), (10, .int r_654), (9, .int r_650), (8, .int r_644), (7, .int (cl ((column + 0) &&& 15).toNatClampNeg)), (6, .int (cl ((column + 3) &&& 15).toNatClampNeg)), (5, .int (cl ((column + 2) &&& 15).toNatClampNeg)), (0, .ref h), (1, .int column), (2, .int mixing)]) hx hb dX0_unmixColumn_18 hl_661 (by decide) rfl (fun ls_663 hl_663 => ?_)
    clear hl_661
    refine lv_aload_n hx hb dX0_unmixColumn_20 rfl (lv_at hl_663 8 rfl) ?_
    refine va_get (D := E.1) (ci := 2) (v := .ref qc) (C := RX0) (T := TX0) (N := 5) hx hb hts in_X0 hown hK hP_660 0 rfl rfl 1 (by decide) w_0 (fun _ h9 => h9) rfl dX0_unmixColumn_21 ?_
    refine lv_iload_n hx hb dX0_unmixColumn_24 rfl (lv_at hl_663 9 rfl) ?_
    refine lv_iload_n hx hb dX0_unmixColumn_25 rfl (lv_at hl_663 1 rfl) ?_
    refine lv_iconst (v := 1) hx hb dX0_unmixColumn_26 (by decide) ?_
    refine lv_iadd hx hb dX0_unmixColumn_27 ?_
    refine lv_topi (fun y_664 ey_664 => ?_)
    obtain rfl : y_664 = 3 := ey_664.trans (by decide)
    refine lv_iconst (v := 3) hx hb dX0_unmixColumn_28 (by decide) ?_
    refine lv_iand hx hb dX0_unmixColumn_29 ?_
    refine lv_topi (fun y_665 ey_665 => ?_)
    obtain rfl : y_665 = 3 := ey_665.trans (by decide)
    refine lv_iadd hx hb dX0_unmixColumn_30 ?_
    refine lv_bipush (v := 15) hx hb dX0_unmixColumn_31 (by decide) ?_
    refine lv_iand hx hb dX0_unmixColumn_33 ?_
    refine va_iald hx hb hK hP_660 1 0 rfl rfl (pk_andIn _ 4 (by decide) (by decide)) dX0_unmixColumn_34 ?_
    refine lv_istore (lv' := [(5, .int (cl ((column + 3) &&& 15).toNatClampNeg)), (4, .int (cl ((column + 2) &&& 15).toNatClampNeg)), (3, .int 2), (10, .int r_654), (9, .int r_650), (8, .int r_644), (7, .int (cl ((column + 0) &&& 15).toNatClampNeg)), (6, .int (cl ((column + 3) &&& 15).toNatClampNeg)), (0, .ref h), (1, .int column), (2, .int mixing)]) hx hb dX0_unmixColumn_35 hl_663 (by decide) rfl (fun ls_666 hl_666 => ?_)
    clear hl_663
    refine lv_aload_n hx hb dX0_unmixColumn_37 rfl (lv_at hl_666 8 rfl) ?_
    refine va_get (D := E.1) (ci := 2) (v := .ref qc) (C := RX0) (T := TX0) (N := 5) hx hb hts in_X0 hown hK hP_660 0 rfl rfl 1 (by decide) w_0 (fun _ h9 => h9) rfl dX0_unmixColumn_38 ?_
    refine lv_iload_n hx hb dX0_unmixColumn_41 rfl (lv_at hl_666 9 rfl) ?_
    refine lv_iload_n hx hb dX0_unmixColumn_42 rfl (lv_at hl_666 2 rfl) ?_
    refine lv_iconst (v := 2) hx hb dX0_unmixColumn_43 (by decide) ?_
    refine lv_iadd hx hb dX0_unmixColumn_44 ?_
    refine lv_topi (fun y_667 ey_667 => ?_)
    obtain rfl : y_667 = 4 := ey_667.trans (by decide)
    refine lv_iconst (v := 3) hx hb dX0_unmixColumn_45 (by decide) ?_
    refine lv_iand hx hb dX0_unmixColumn_46 ?_
    refine lv_topi (fun y_668 ey_668 => ?_)
    obtain rfl : y_668 = 0 := ey_668.trans (by decide)
    refine lv_iadd hx hb dX0_unmixColumn_47 ?_
    refine lv_bipush (v := 15) hx hb dX0_unmixColumn_48 (by decide) ?_
    refine lv_iand hx hb dX0_unmixColumn_50 ?_
    refine va_iald hx hb hK hP_660 1 0 rfl rfl (pk_andIn _ 4 (by decide) (by decide)) dX0_unmixColumn_51 ?_
    refine lv_istore (lv' := [(6, .int (cl ((column + 0) &&& 15).toNatClampNeg)), (5, .int (cl ((column + 3) &&& 15).toNatClampNeg)), (4, .int (cl ((column + 2) &&& 15).toNatClampNeg)), (3, .int 2), (10, .int r_654), (9, .int r_650), (8, .int r_644), (7, .int (cl ((column + 0) &&& 15).toNatClampNeg)), (0, .ref h), (1, .int column), (2, .int mixing)]) hx hb dX0_unmixColumn_52 hl_666 (by decide) rfl (fun ls_669 hl_669 => ?_)
    clear hl_666
    refine lv_aload_n hx hb dX0_unmixColumn_54 rfl (lv_at hl_669 8 rfl) ?_
    refine va_get (D := E.1) (ci := 2) (v := .ref qc) (C := RX0) (T := TX0) (N := 5) hx hb hts in_X0 hown hK hP_660 0 rfl rfl 1 (by decide) w_0 (fun _ h9 => h9) rfl dX0_unmixColumn_55 ?_
    refine lv_iload_n hx hb dX0_unmixColumn_58 rfl (lv_at hl_669 9 rfl) ?_
    refine lv_iload_n hx hb dX0_unmixColumn_59 rfl (lv_at hl_669 3 rfl) ?_
    refine lv_iconst (v := 3) hx hb dX0_unmixColumn_60 (by decide) ?_
    refine lv_iadd hx hb dX0_unmixColumn_61 ?_
    refine lv_topi (fun y_670 ey_670 => ?_)
    obtain rfl : y_670 = 5 := ey_670.trans (by decide)
    refine lv_iconst (v := 3) hx hb dX0_unmixColumn_62 (by decide) ?_
    refine lv_iand hx hb dX0_unmixColumn_63 ?_
    refine lv_topi (fun y_671 ey_671 => ?_)
    obtain rfl : y_671 = 1 := ey_671.trans (by decide)
    refine lv_iadd hx hb dX0_unmixColumn_64 ?_
    refine lv_bipush (v := 15) hx hb dX0_unmixColumn_65 (by decide) ?_
    refine lv_iand hx hb dX0_unmixColumn_67 ?_
    refine va_iald hx hb hK hP_660 1 0 rfl rfl (pk_andIn _ 4 (by decide) (by decide)) dX0_unmixColumn_68 ?_
    refine lv_istore (lv' := [(7, .int (cl ((column + 1) &&& 15).toNatClampNeg)), (6, .int (cl ((column + 0) &&& 15).toNatClampNeg)), (5, .int (cl ((column + 3) &&& 15).toNatClampNeg)), (4, .int (cl ((column + 2) &&& 15).toNatClampNeg)), (3, .int 2), (10, .int r_654), (9, .int r_650), (8, .int r_644), (0, .ref h), (1, .int column), (2, .int mixing)]) hx hb dX0_unmixColumn_69 hl_669 (by decide) rfl (fun ls_672 hl_672 => ?_)
    clear hl_669
    refine lv_iload hx hb dX0_unmixColumn_71 (lv_at hl_672 3 rfl) ?_
    refine lv_iload hx hb dX0_unmixColumn_73 (lv_at hl_672 2 rfl) ?_
    refine lv_ixor hx hb dX0_unmixColumn_75 ?_
    refine lv_topi (fun v_673 ev_673 => ?_)
    refine lv_iload hx hb dX0_unmixColumn_76 (lv_at hl_672 1 rfl) ?_
    refine lv_ixor hx hb dX0_unmixColumn_78 ?_
    refine lv_iload hx hb dX0_unmixColumn_79 (lv_at hl_672 0 rfl) ?_
    refine lv_ixor hx hb dX0_unmixColumn_81 ?_
    refine lv_topi (fun v_674 ev_674 => ?_)
    refine gSi hF hl_672 hV hP_660 hD_660 hS_660 hA [] [0, 1, 2] (wc := []) (wr := [(h, .inr (2, [.ref qk, .ref qc, .ref qv, .ref qt, .int rd])), (qc, .inl (E.2.1, 16, .inl cl)), (qv, .inl (E.2.1, 16, .inl (upd (upd mv ((column + 0) &&& 15).toNatClampNeg v_624) ((column + 1) &&& 15).toNatClampNeg v_659)))]) rfl rfl rfl (by decide) (k_X0_twice E l v_674) (va_cwS 1 hts gX0_unmixColumn_X0_twice rfl rfl rfl (by decide +kernel) ⟨Nat.le_of_ble_eq_true rfl, Nat.le_of_ble_eq_true rfl⟩) rfl rfl (Nat.le_of_ble_eq_true rfl) dX0_unmixColumn_82 ⟨Nat.le_of_ble_eq_true rfl, Nat.le_of_ble_eq_true rfl⟩ (fun r_675 _ H_676 locs_676 hu_675 hP_676 hD_676 hS_676 => ?_)
    have er_675 : r_675 = F_X0_twice v_674 := hu_675
    clear hu_675
    replace hP_676 : va_P E.1 vwCl [(h, .inr (2, [.ref qk, .ref qc, .ref qv, .ref qt, .int rd])), (qc, .inl (E.2.1, 16, .inl cl)), (qv, .inl (E.2.1, 16, .inl (upd (upd mv ((column + 0) &&& 15).toNatClampNeg v_624) ((column + 1) &&& 15).toNatClampNeg v_659)))] H_676 := hP_676
    replace hD_676 : va_D A [(h, .inr (2, [.ref qk, .ref qc, .ref qv, .ref qt, .int rd])), (qc, .inl (E.2.1, 16, .inl cl)), (qv, .inl (E.2.1, 16, .inl (upd (upd mv ((column + 0) &&& 15).toNatClampNeg v_624) ((column + 1) &&& 15).toNatClampNeg v_659)))] := hD_676
    clear hP_660 hD_660 hS_660
    refine gSi hF hl_672 hV hP_676 hD_676 hS_676 hA [] [0, 1, 2] (wc := []) (wr := [(h, .inr (2, [.ref qk, .ref qc, .ref qv, .ref qt, .int rd])), (qc, .inl (E.2.1, 16, .inl cl)), (qv, .inl (E.2.1, 16, .inl (upd (upd mv ((column + 0) &&& 15).toNatClampNeg v_624) ((column + 1) &&& 15).toNatClampNeg v_659)))]) rfl rfl rfl (by decide) (k_X0_twice E l r_675) (va_cwS 1 hts gX0_unmixColumn_X0_twice rfl rfl rfl (by decide +kernel) ⟨Nat.le_of_ble_eq_true rfl, Nat.le_of_ble_eq_true rfl⟩) rfl rfl (Nat.le_of_ble_eq_true rfl) dX0_unmixColumn_85 ⟨Nat.le_of_ble_eq_true rfl, Nat.le_of_ble_eq_true rfl⟩ (fun r_677 _ H_678 locs_678 hu_677 hP_678 hD_678 hS_678 => ?_)
    have er_677 : r_677 = F_X0_twice r_675 := hu_677
    clear hu_677
    replace hP_678 : va_P E.1 vwCl [(h, .inr (2, [.ref qk, .ref qc, .ref qv, .ref qt, .int rd])), (qc, .inl (E.2.1, 16, .inl cl)), (qv, .inl (E.2.1, 16, .inl (upd (upd mv ((column + 0) &&& 15).toNatClampNeg v_624) ((column + 1) &&& 15).toNatClampNeg v_659)))] H_678 := hP_678
    replace hD_678 : va_D A [(h, .inr (2, [.ref qk, .ref qc, .ref qv, .ref qt, .int rd])), (qc, .inl (E.2.1, 16, .inl cl)), (qv, .inl (E.2.1, 16, .inl (upd (upd mv ((column + 0) &&& 15).toNatClampNeg v_624) ((column + 1) &&& 15).toNatClampNeg v_659)))] := hD_678
    clear hP_676 hD_676 hS_676
    refine gSi hF hl_672 hV hP_678 hD_678 hS_678 hA [] [0, 1, 2] (wc := []) (wr := [(h, .inr (2, [.ref qk, .ref qc, .ref qv, .ref qt, .int rd])), (qc, .inl (E.2.1, 16, .inl cl)), (qv, .inl (E.2.1, 16, .inl (upd (upd mv ((column + 0) &&& 15).toNatClampNeg v_624) ((column + 1) &&& 15).toNatClampNeg v_659)))]) rfl rfl rfl (by decide) (k_X0_twice E l r_677) (va_cwS 1 hts gX0_unmixColumn_X0_twice rfl rfl rfl (by decide +kernel) ⟨Nat.le_of_ble_eq_true rfl, Nat.le_of_ble_eq_true rfl⟩) rfl rfl (Nat.le_of_ble_eq_true rfl) dX0_unmixColumn_88 ⟨Nat.le_of_ble_eq_true rfl, Nat.le_of_ble_eq_true rfl⟩ (fun r_679 _ H_680 locs_680 hu_679 hP_680 hD_680 hS_680 => ?_)
    have er_679 : r_679 = F_X0_twice r_677 := hu_679
    clear hu_679
    replace hP_680 : va_P E.1 vwCl [(h, .inr (2, [.ref qk, .ref qc, .ref qv, .ref qt, .int rd])), (qc, .inl (E.2.1, 16, .inl cl)), (qv, .inl (E.2.1, 16, .inl (upd (upd mv ((column + 0) &&& 15).toNatClampNeg v_624) ((column + 1) &&& 15).toNatClampNeg v_659)))] H_680 := hP_680
    replace hD_680 : va_D A [(h, .inr (2, [.ref qk, .ref qc, .ref qv, .ref qt, .int rd])), (qc, .inl (E.2.1, 16, .inl cl)), (qv, .inl (E.2.1, 16, .inl (upd (upd mv ((column + 0) &&& 15).toNatClampNeg v_624) ((column + 1) &&& 15).toNatClampNeg v_659)))] := hD_680
    clear hP_678 hD_678 hS_678
    refine lv_istore (lv' := [(8, .int r_679), (7, .int (cl ((column + 1) &&& 15).toNatClampNeg)), (6, .int (cl ((column + 0) &&& 15).toNatClampNeg)), (5, .int (cl ((column + 3) &&& 15).toNatClampNeg)), (4, .int (cl ((column + 2) &&& 15).toNatClampNeg)), (3, .int 2), (10, .int r_654), (9, .int r_650), (0, .ref h), (1, .int column), (2, .int mixing)]) hx hb dX0_unmixColumn_91 hl_672 (by decide) rfl (fun ls_681 hl_681 => ?_)
    clear hl_672
    refine lv_iload hx hb dX0_unmixColumn_93 (lv_at hl_681 4 rfl) ?_
    refine lv_iload hx hb dX0_unmixColumn_95 (lv_at hl_681 2 rfl) ?_
    refine lv_ixor hx hb dX0_unmixColumn_97 ?_
    refine lv_topi (fun v_682 ev_682 => ?_)
    refine gSi hF hl_681 hV hP_680 hD_680 hS_680 hA [] [0, 1, 2] (wc := []) (wr := [(h, .inr (2, [.ref qk, .ref qc, .ref qv, .ref qt, .int rd])), (qc, .inl (E.2.1, 16, .inl cl)), (qv, .inl (E.2.1, 16, .inl (upd (upd mv ((column + 0) &&& 15).toNatClampNeg v_624) ((column + 1) &&& 15).toNatClampNeg v_659)))]) rfl rfl rfl (by decide) (k_X0_twice E l v_682) (va_cwS 1 hts gX0_unmixColumn_X0_twice rfl rfl rfl (by decide +kernel) ⟨Nat.le_of_ble_eq_true rfl, Nat.le_of_ble_eq_true rfl⟩) rfl rfl (Nat.le_of_ble_eq_true rfl) dX0_unmixColumn_98 ⟨Nat.le_of_ble_eq_true rfl, Nat.le_of_ble_eq_true rfl⟩ (fun r_683 _ H_684 locs_684 hu_683 hP_684 hD_684 hS_684 => ?_)
    have er_683 : r_683 = F_X0_twice v_682 := hu_683
    clear hu_683
    replace hP_684 : va_P E.1 vwCl [(h, .inr (2, [.ref qk, .ref qc, .ref qv, .ref qt, .int rd])), (qc, .inl (E.2.1, 16, .inl cl)), (qv, .inl (E.2.1, 16, .inl (upd (upd mv ((column + 0) &&& 15).toNatClampNeg v_624) ((column + 1) &&& 15).toNatClampNeg v_659)))] H_684 := hP_684
    replace hD_684 : va_D A [(h, .inr (2, [.ref qk, .ref qc, .ref qv, .ref qt, .int rd])), (qc, .inl (E.2.1, 16, .inl cl)), (qv, .inl (E.2.1, 16, .inl (upd (upd mv ((column + 0) &&& 15).toNatClampNeg v_624) ((column + 1) &&& 15).toNatClampNeg v_659)))] := hD_684
    clear hP_680 hD_680 hS_680
    refine gSi hF hl_681 hV hP_684 hD_684 hS_684 hA [] [0, 1, 2] (wc := []) (wr := [(h, .inr (2, [.ref qk, .ref qc, .ref qv, .ref qt, .int rd])), (qc, .inl (E.2.1, 16, .inl cl)), (qv, .inl (E.2.1, 16, .inl (upd (upd mv ((column + 0) &&& 15).toNatClampNeg v_624) ((column + 1) &&& 15).toNatClampNeg v_659)))]) rfl rfl rfl (by decide) (k_X0_twice E l r_683) (va_cwS 1 hts gX0_unmixColumn_X0_twice rfl rfl rfl (by decide +kernel) ⟨Nat.le_of_ble_eq_true rfl, Nat.le_of_ble_eq_true rfl⟩) rfl rfl (Nat.le_of_ble_eq_true rfl) dX0_unmixColumn_101 ⟨Nat.le_of_ble_eq_true rfl, Nat.le_of_ble_eq_true rfl⟩ (fun r_685 _ H_686 locs_686 hu_685 hP_686 hD_686 hS_686 => ?_)
    have er_685 : r_685 = F_X0_twice r_683 := hu_685
    clear hu_685
    replace hP_686 : va_P E.1 vwCl [(h, .inr (2, [.ref qk, .ref qc, .ref qv, .ref qt, .int rd])), (qc, .inl (E.2.1, 16, .inl cl)), (qv, .inl (E.2.1, 16, .inl (upd (upd mv ((column + 0) &&& 15).toNatClampNeg v_624) ((column + 1) &&& 15).toNatClampNeg v_659)))] H_686 := hP_686
    replace hD_686 : va_D A [(h, .inr (2, [.ref qk, .ref qc, .ref qv, .ref qt, .int rd])), (qc, .inl (E.2.1, 16, .inl cl)), (qv, .inl (E.2.1, 16, .inl (upd (upd mv ((column + 0) &&& 15).toNatClampNeg v_624) ((column + 1) &&& 15).toNatClampNeg v_659)))] := hD_686
    clear hP_684 hD_684 hS_684
    refine lv_istore (lv' := [(9, .int r_685), (8, .int r_679), (7, .int (cl ((column + 1) &&& 15).toNatClampNeg)), (6, .int (cl ((column + 0) &&& 15).toNatClampNeg)), (5, .int (cl ((column + 3) &&& 15).toNatClampNeg)), (4, .int (cl ((column + 2) &&& 15).toNatClampNeg)), (3, .int 2), (10, .int r_654), (0, .ref h), (1, .int column), (2, .int mixing)]) hx hb dX0_unmixColumn_104 hl_681 (by decide) rfl (fun ls_687 hl_687 => ?_)
    clear hl_681
    refine lv_iload hx hb dX0_unmixColumn_106 (lv_at hl_687 5 rfl) ?_
    refine lv_iload hx hb dX0_unmixColumn_108 (lv_at hl_687 4 rfl) ?_
    refine lv_ixor hx hb dX0_unmixColumn_110 ?_
    refine lv_topi (fun v_688 ev_688 => ?_)
    refine gSi hF hl_687 hV hP_686 hD_686 hS_686 hA [] [0, 1, 2] (wc := []) (wr := [(h, .inr (2, [.ref qk, .ref qc, .ref qv, .ref qt, .int rd])), (qc, .inl (E.2.1, 16, .inl cl)), (qv, .inl (E.2.1, 16, .inl (upd (upd mv ((column + 0) &&& 15).toNatClampNeg v_624) ((column + 1) &&& 15).toNatClampNeg v_659)))]) rfl rfl rfl (by decide) (k_X0_twice E l v_688) (va_cwS 1 hts gX0_unmixColumn_X0_twice rfl rfl rfl (by decide +kernel) ⟨Nat.le_of_ble_eq_true rfl, Nat.le_of_ble_eq_true rfl⟩) rfl rfl (Nat.le_of_ble_eq_true rfl) dX0_unmixColumn_111 ⟨Nat.le_of_ble_eq_true rfl, Nat.le_of_ble_eq_true rfl⟩ (fun r_689 _ H_690 locs_690 hu_689 hP_690 hD_690 hS_690 => ?_)
    have er_689 : r_689 = F_X0_twice v_688 := hu_689
    clear hu_689
    replace hP_690 : va_P E.1 vwCl [(h, .inr (2, [.ref qk, .ref qc, .ref qv, .ref qt, .int rd])), (qc, .inl (E.2.1, 16, .inl cl)), (qv, .inl (E.2.1, 16, .inl (upd (upd mv ((column + 0) &&& 15).toNatClampNeg v_624) ((column + 1) &&& 15).toNatClampNeg v_659)))] H_690 := hP_690
    replace hD_690 : va_D A [(h, .inr (2, [.ref qk, .ref qc, .ref qv, .ref qt, .int rd])), (qc, .inl (E.2.1, 16, .inl cl)), (qv, .inl (E.2.1, 16, .inl (upd (upd mv ((column + 0) &&& 15).toNatClampNeg v_624) ((column + 1) &&& 15).toNatClampNeg v_659)))] := hD_690
    clear hP_686 hD_686 hS_686
    refine lv_istore (lv' := [(10, .int r_689), (9, .int r_685), (8, .int r_679), (7, .int (cl ((column + 1) &&& 15).toNatClampNeg)), (6, .int (cl ((column + 0) &&& 15).toNatClampNeg)), (5, .int (cl ((column + 3) &&& 15).toNatClampNeg)), (4, .int (cl ((column + 2) &&& 15).toNatClampNeg)), (3, .int 2), (0, .ref h), (1, .int column), (2, .int mixing)]) hx hb dX0_unmixColumn_114 hl_687 (by decide) rfl (fun ls_691 hl_691 => ?_)
    clear hl_687
    refine lv_aload_n hx hb dX0_unmixColumn_116 rfl (lv_at hl_691 8 rfl) ?_
    refine va_get (D := E.1) (ci := 2) (v := .ref qv) (C := RX0) (T := TX0) (N := 5) hx hb hts in_X0 hown hK hP_690 0 rfl rfl 2 (by decide) w_1 (fun _ h9 => h9) rfl dX0_unmixColumn_117 ?_
    refine lv_iload_n hx hb dX0_unmixColumn_120 rfl (lv_at hl_691 9 rfl) ?_
    refine lv_iload_n hx hb dX0_unmixColumn_121 rfl (lv_at hl_691 7 rfl) ?_
    refine lv_iadd hx hb dX0_unmixColumn_122 ?_
    refine lv_bipush (v := 15) hx hb dX0_unmixColumn_123 (by decide) ?_
    refine lv_iand hx hb dX0_unmixColumn_125 ?_
    refine lv_iload_n hx hb dX0_unmixColumn_126 rfl (lv_at hl_691 10 rfl) ?_
    refine lv_if_eq (tgt := 150) hx hb dX0_unmixColumn_127 (by decide) (fun c_692 => absurd c_692 c_520) (fun c_692 => ?_)
    refine lv_iload hx hb dX0_unmixColumn_130 (lv_at hl_691 2 rfl) ?_
    refine lv_iload hx hb dX0_unmixColumn_132 (lv_at hl_691 1 rfl) ?_
    refine lv_ixor hx hb dX0_unmixColumn_134 ?_
    refine lv_iload hx hb dX0_unmixColumn_135 (lv_at hl_691 0 rfl) ?_
    refine lv_ixor hx hb dX0_unmixColumn_137 ?_
    refine lv_iload hx hb dX0_unmixColumn_138 (lv_at hl_691 5 rfl) ?_
    refine lv_ixor hx hb dX0_unmixColumn_140 ?_
    refine lv_topi (fun v_693 ev_693 => ?_)
    refine lv_iload hx hb dX0_unmixColumn_141 (lv_at hl_691 4 rfl) ?_
    refine lv_ixor hx hb dX0_unmixColumn_143 ?_
    refine lv_iload hx hb dX0_unmixColumn_144 (lv_at hl_691 3 rfl) ?_
    refine lv_ixor hx hb dX0_unmixColumn_146 ?_
    refine lv_topi (fun v_694 ev_694 => ?_)
    refine lv_goto (tgt := 152) hx hb dX0_unmixColumn_147 (by decide) ?_
    refine va_iast hx hb hK hP_690 hD_690 hS_690 2 0 rfl rfl (pk_andIn _ 4 (by decide) (by decide)) dX0_unmixColumn_152 (fun H_695 locs_695 hP_695 hD_695 hS_695 => ?_)
    replace hP_695 : va_P E.1 vwCl [(h, .inr (2, [.ref qk, .ref qc, .ref qv, .ref qt, .int rd])), (qc, .inl (E.2.1, 16, .inl cl)), (qv, .inl (E.2.1, 16, .inl (upd (upd (upd mv ((column + 0) &&& 15).toNatClampNeg v_624) ((column + 1) &&& 15).toNatClampNeg v_659) ((column + 2) &&& 15).toNatClampNeg v_694)))] H_695 := hP_695
    replace hD_695 : va_D A [(h, .inr (2, [.ref qk, .ref qc, .ref qv, .ref qt, .int rd])), (qc, .inl (E.2.1, 16, .inl cl)), (qv, .inl (E.2.1, 16, .inl (upd (upd (upd mv ((column + 0) &&& 15).toNatClampNeg v_624) ((column + 1) &&& 15).toNatClampNeg v_659) ((column + 2) &&& 15).toNatClampNeg v_694)))] := hD_695
    clear hP_690 hD_690 hS_690
    refine lv_iinc (v := 3) (lv' := [(3, .int 3), (10, .int r_689), (9, .int r_685), (8, .int r_679), (7, .int (cl ((column + 1) &&& 15).toNatClampNeg)), (6, .int (cl ((column + 0) &&& 15).toNatClampNeg)), (5, .int (cl ((column + 3) &&& 15).toNatClampNeg)), (4, .int (cl ((column + 2) &&& 15).toNatClampNeg)), (0, .ref h), (1, .int column), (2, .int mixing)]) hx hb dX0_unmixColumn_153 hl_691 (k := 7) rfl (by decide) (by decide) rfl (fun ls_696 hl_696 => ?_)
    clear hl_691
    refine lv_goto (tgt := 2) hx hb dX0_unmixColumn_156 (by decide) ?_
    refine lv_iload_n hx hb dX0_unmixColumn_2 rfl (lv_at hl_696 0 rfl) ?_
    refine lv_iconst (v := 4) hx hb dX0_unmixColumn_3 (by decide) ?_
    refine lv_icmp_ge (tgt := 159) hx hb dX0_unmixColumn_4 (by decide) (fun c_697 => absurd c_697 (by decide)) (fun c_697 => ?_)
    refine lv_aload_n hx hb dX0_unmixColumn_7 rfl (lv_at hl_696 8 rfl) ?_
    refine va_get (D := E.1) (ci := 2) (v := .ref qc) (C := RX0) (T := TX0) (N := 5) hx hb hts in_X0 hown hK hP_695 0 rfl rfl 1 (by decide) w_0 (fun _ h9 => h9) rfl dX0_unmixColumn_8 ?_
    refine lv_iload_n hx hb dX0_unmixColumn_11 rfl (lv_at hl_696 9 rfl) ?_
    refine lv_iload_n hx hb dX0_unmixColumn_12 rfl (lv_at hl_696 0 rfl) ?_
    refine lv_iadd hx hb dX0_unmixColumn_13 ?_
    refine lv_bipush (v := 15) hx hb dX0_unmixColumn_14 (by decide) ?_
    refine lv_iand hx hb dX0_unmixColumn_16 ?_
    refine va_iald hx hb hK hP_695 1 0 rfl rfl (pk_andIn _ 4 (by decide) (by decide)) dX0_unmixColumn_17 ?_
    refine lv_istore (lv' := [(4, .int (cl ((column + 3) &&& 15).toNatClampNeg)), (3, .int 3), (10, .int r_689), (9, .int r_685), (8, .int r_679), (7, .int (cl ((column + 1) &&& 15).toNatClampNeg)), (6, .int (cl ((column + 0) &&& 15).toNatClampNeg)), (5, .int (cl ((column + 3) &&& 15).toNatClampNeg)), (0, .ref h), (1, .int column), (2, .int mixing)]) hx hb dX0_unmixColumn_18 hl_696 (by decide) rfl (fun ls_698 hl_698 => ?_)
    clear hl_696
    refine lv_aload_n hx hb dX0_unmixColumn_20 rfl (lv_at hl_698 8 rfl) ?_
    refine va_get (D := E.1) (ci := 2) (v := .ref qc) (C := RX0) (T := TX0) (N := 5) hx hb hts in_X0 hown hK hP_695 0 rfl rfl 1 (by decide) w_0 (fun _ h9 => h9) rfl dX0_unmixColumn_21 ?_
    refine lv_iload_n hx hb dX0_unmixColumn_24 rfl (lv_at hl_698 9 rfl) ?_
    refine lv_iload_n hx hb dX0_unmixColumn_25 rfl (lv_at hl_698 1 rfl) ?_
    refine lv_iconst (v := 1) hx hb dX0_unmixColumn_26 (by decide) ?_
    refine lv_iadd hx hb dX0_unmixColumn_27 ?_
    refine lv_topi (fun y_699 ey_699 => ?_)
    obtain rfl : y_699 = 4 := ey_699.trans (by decide)
    refine lv_iconst (v := 3) hx hb dX0_unmixColumn_28 (by decide) ?_
    refine lv_iand hx hb dX0_unmixColumn_29 ?_
    refine lv_topi (fun y_700 ey_700 => ?_)
    obtain rfl : y_700 = 0 := ey_700.trans (by decide)
    refine lv_iadd hx hb dX0_unmixColumn_30 ?_
    refine lv_bipush (v := 15) hx hb dX0_unmixColumn_31 (by decide) ?_
    refine lv_iand hx hb dX0_unmixColumn_33 ?_
    refine va_iald hx hb hK hP_695 1 0 rfl rfl (pk_andIn _ 4 (by decide) (by decide)) dX0_unmixColumn_34 ?_
    refine lv_istore (lv' := [(5, .int (cl ((column + 0) &&& 15).toNatClampNeg)), (4, .int (cl ((column + 3) &&& 15).toNatClampNeg)), (3, .int 3), (10, .int r_689), (9, .int r_685), (8, .int r_679), (7, .int (cl ((column + 1) &&& 15).toNatClampNeg)), (6, .int (cl ((column + 0) &&& 15).toNatClampNeg)), (0, .ref h), (1, .int column), (2, .int mixing)]) hx hb dX0_unmixColumn_35 hl_698 (by decide) rfl (fun ls_701 hl_701 => ?_)
    clear hl_698
    refine lv_aload_n hx hb dX0_unmixColumn_37 rfl (lv_at hl_701 8 rfl) ?_
    refine va_get (D := E.1) (ci := 2) (v := .ref qc) (C := RX0) (T := TX0) (N := 5) hx hb hts in_X0 hown hK hP_695 0 rfl rfl 1 (by decide) w_0 (fun _ h9 => h9) rfl dX0_unmixColumn_38 ?_
    refine lv_iload_n hx hb dX0_unmixColumn_41 rfl (lv_at hl_701 9 rfl) ?_
    refine lv_iload_n hx hb dX0_unmixColumn_42 rfl (lv_at hl_701 2 rfl) ?_
    refine lv_iconst (v := 2) hx hb dX0_unmixColumn_43 (by decide) ?_
    refine lv_iadd hx hb dX0_unmixColumn_44 ?_
    refine lv_topi (fun y_702 ey_702 => ?_)
    obtain rfl : y_702 = 5 := ey_702.trans (by decide)
    refine lv_iconst (v := 3) hx hb dX0_unmixColumn_45 (by decide) ?_
    refine lv_iand hx hb dX0_unmixColumn_46 ?_
    refine lv_topi (fun y_703 ey_703 => ?_)
    obtain rfl : y_703 = 1 := ey_703.trans (by decide)
    refine lv_iadd hx hb dX0_unmixColumn_47 ?_
    refine lv_bipush (v := 15) hx hb dX0_unmixColumn_48 (by decide) ?_
    refine lv_iand hx hb dX0_unmixColumn_50 ?_
    refine va_iald hx hb hK hP_695 1 0 rfl rfl (pk_andIn _ 4 (by decide) (by decide)) dX0_unmixColumn_51 ?_
    refine lv_istore (lv' := [(6, .int (cl ((column + 1) &&& 15).toNatClampNeg)), (5, .int (cl ((column + 0) &&& 15).toNatClampNeg)), (4, .int (cl ((column + 3) &&& 15).toNatClampNeg)), (3, .int 3), (10, .int r_689), (9, .int r_685), (8, .int r_679), (7, .int (cl ((column + 1) &&& 15).toNatClampNeg)), (0, .ref h), (1, .int column), (2, .int mixing)]) hx hb dX0_unmixColumn_52 hl_701 (by decide) rfl (fun ls_704 hl_704 => ?_)
    clear hl_701
    refine lv_aload_n hx hb dX0_unmixColumn_54 rfl (lv_at hl_704 8 rfl) ?_
    refine va_get (D := E.1) (ci := 2) (v := .ref qc) (C := RX0) (T := TX0) (N := 5) hx hb hts in_X0 hown hK hP_695 0 rfl rfl 1 (by decide) w_0 (fun _ h9 => h9) rfl dX0_unmixColumn_55 ?_
    refine lv_iload_n hx hb dX0_unmixColumn_58 rfl (lv_at hl_704 9 rfl) ?_
    refine lv_iload_n hx hb dX0_unmixColumn_59 rfl (lv_at hl_704 3 rfl) ?_
    refine lv_iconst (v := 3) hx hb dX0_unmixColumn_60 (by decide) ?_
    refine lv_iadd hx hb dX0_unmixColumn_61 ?_
    refine lv_topi (fun y_705 ey_705 => ?_)
    obtain rfl : y_705 = 6 := ey_705.trans (by decide)
    refine lv_iconst (v := 3) hx hb dX0_unmixColumn_62 (by decide) ?_
    refine lv_iand hx hb dX0_unmixColumn_63 ?_
    refine lv_topi (fun y_706 ey_706 => ?_)
    obtain rfl : y_706 = 2 := ey_706.trans (by decide)
    refine lv_iadd hx hb dX0_unmixColumn_64 ?_
    refine lv_bipush (v := 15) hx hb dX0_unmixColumn_65 (by decide) ?_
    refine lv_iand hx hb dX0_unmixColumn_67 ?_
    refine va_iald hx hb hK hP_695 1 0 rfl rfl (pk_andIn _ 4 (by decide) (by decide)) dX0_unmixColumn_68 ?_
    refine lv_istore (lv' := [(7, .int (cl ((column + 2) &&& 15).toNatClampNeg)), (6, .int (cl ((column + 1) &&& 15).toNatClampNeg)), (5, .int (cl ((column + 0) &&& 15).toNatClampNeg)), (4, .int (cl ((column + 3) &&& 15).toNatClampNeg)), (3, .int 3), (10, .int r_689), (9, .int r_685), (8, .int r_679), (0, .ref h), (1, .int column), (2, .int mixing)]) hx hb dX0_unmixColumn_69 hl_704 (by decide) rfl (fun ls_707 hl_707 => ?_)
    clear hl_704
    refine lv_iload hx hb dX0_unmixColumn_71 (lv_at hl_707 3 rfl) ?_
    refine lv_iload hx hb dX0_unmixColumn_73 (lv_at hl_707 2 rfl) ?_
    refine lv_ixor hx hb dX0_unmixColumn_75 ?_
    refine lv_topi (fun v_708 ev_708 => ?_)
    refine lv_iload hx hb dX0_unmixColumn_76 (lv_at hl_707 1 rfl) ?_
    refine lv_ixor hx hb dX0_unmixColumn_78 ?_
    refine lv_iload hx hb dX0_unmixColumn_79 (lv_at hl_707 0 rfl) ?_
    refine lv_ixor hx hb dX0_unmixColumn_81 ?_
    refine lv_topi (fun v_709 ev_709 => ?_)
    refine gSi hF hl_707 hV hP_695 hD_695 hS_695 hA [] [0, 1, 2] (wc := []) (wr := [(h, .inr (2, [.ref qk, .ref qc, .ref qv, .ref qt, .int rd])), (qc, .inl (E.2.1, 16, .inl cl)), (qv, .inl (E.2.1, 16, .inl (upd (upd (upd mv ((column + 0) &&& 15).toNatClampNeg v_624) ((column + 1) &&& 15).toNatClampNeg v_659) ((column + 2) &&& 15).toNatClampNeg v_694)))]) rfl rfl rfl (by decide) (k_X0_twice E l v_709) (va_cwS 1 hts gX0_unmixColumn_X0_twice rfl rfl rfl (by decide +kernel) ⟨Nat.le_of_ble_eq_true rfl, Nat.le_of_ble_eq_true rfl⟩) rfl rfl (Nat.le_of_ble_eq_true rfl) dX0_unmixColumn_82 ⟨Nat.le_of_ble_eq_true rfl, Nat.le_of_ble_eq_true rfl⟩ (fun r_710 _ H_711 locs_711 hu_710 hP_711 hD_711 hS_711 => ?_)
    have er_710 : r_710 = F_X0_twice v_709 := hu_710
    clear hu_710
    replace hP_711 : va_P E.1 vwCl [(h, .inr (2, [.ref qk, .ref qc, .ref qv, .ref qt, .int rd])), (qc, .inl (E.2.1, 16, .inl cl)), (qv, .inl (E.2.1, 16, .inl (upd (upd (upd mv ((column + 0) &&& 15).toNatClampNeg v_624) ((column + 1) &&& 15).toNatClampNeg v_659) ((column + 2) &&& 15).toNatClampNeg v_694)))] H_711 := hP_711
    replace hD_711 : va_D A [(h, .inr (2, [.ref qk, .ref qc, .ref qv, .ref qt, .int rd])), (qc, .inl (E.2.1, 16, .inl cl)), (qv, .inl (E.2.1, 16, .inl (upd (upd (upd mv ((column + 0) &&& 15).toNatClampNeg v_624) ((column + 1) &&& 15).toNatClampNeg v_659) ((column + 2) &&& 15).toNatClampNeg v_694)))] := hD_711
    clear hP_695 hD_695 hS_695
    refine gSi hF hl_707 hV hP_711 hD_711 hS_711 hA [] [0, 1, 2] (wc := []) (wr := [(h, .inr (2, [.ref qk, .ref qc, .ref qv, .ref qt, .int rd])), (qc, .inl (E.2.1, 16, .inl cl)), (qv, .inl (E.2.1, 16, .inl (upd (upd (upd mv ((column + 0) &&& 15).toNatClampNeg v_624) ((column + 1) &&& 15).toNatClampNeg v_659) ((column + 2) &&& 15).toNatClampNeg v_694)))]) rfl rfl rfl (by decide) (k_X0_twice E l r_710) (va_cwS 1 hts gX0_unmixColumn_X0_twice rfl rfl rfl (by decide +kernel) ⟨Nat.le_of_ble_eq_true rfl, Nat.le_of_ble_eq_true rfl⟩) rfl rfl (Nat.le_of_ble_eq_true rfl) dX0_unmixColumn_85 ⟨Nat.le_of_ble_eq_true rfl, Nat.le_of_ble_eq_true rfl⟩ (fun r_712 _ H_713 locs_713 hu_712 hP_713 hD_713 hS_713 => ?_)
    have er_712 : r_712 = F_X0_twice r_710 := hu_712
    clear hu_712
    replace hP_713 : va_P E.1 vwCl [(h, .inr (2, [.ref qk, .ref qc, .ref qv, .ref qt, .int rd])), (qc, .inl (E.2.1, 16, .inl cl)), (qv, .inl (E.2.1, 16, .inl (upd (upd (upd mv ((column + 0) &&& 15).toNatClampNeg v_624) ((column + 1) &&& 15).toNatClampNeg v_659) ((column + 2) &&& 15).toNatClampNeg v_694)))] H_713 := hP_713
    replace hD_713 : va_D A [(h, .inr (2, [.ref qk, .ref qc, .ref qv, .ref qt, .int rd])), (qc, .inl (E.2.1, 16, .inl cl)), (qv, .inl (E.2.1, 16, .inl (upd (upd (upd mv ((column + 0) &&& 15).toNatClampNeg v_624) ((column + 1) &&& 15).toNatClampNeg v_659) ((column + 2) &&& 15).toNatClampNeg v_694)))] := hD_713
    clear hP_711 hD_711 hS_711
    refine gSi hF hl_707 hV hP_713 hD_713 hS_713 hA [] [0, 1, 2] (wc := []) (wr := [(h, .inr (2, [.ref qk, .ref qc, .ref qv, .ref qt, .int rd])), (qc, .inl (E.2.1, 16, .inl cl)), (qv, .inl (E.2.1, 16, .inl (upd (upd (upd mv ((column + 0) &&& 15).toNatClampNeg v_624) ((column + 1) &&& 15).toNatClampNeg v_659) ((column + 2) &&& 15).toNatClampNeg v_694)))]) rfl rfl rfl (by decide) (k_X0_twice E l r_712) (va_cwS 1 hts gX0_unmixColumn_X0_twice rfl rfl rfl (by decide +kernel) ⟨Nat.le_of_ble_eq_true rfl, Nat.le_of_ble_eq_true rfl⟩) rfl rfl (Nat.le_of_ble_eq_true rfl) dX0_unmixColumn_88 ⟨Nat.le_of_ble_eq_true rfl, Nat.le_of_ble_eq_true rfl⟩ (fun r_714 _ H_715 locs_715 hu_714 hP_715 hD_715 hS_715 => ?_)
    have er_714 : r_714 = F_X0_twice r_712 := hu_714
    clear hu_714
    replace hP_715 : va_P E.1 vwCl [(h, .inr (2, [.ref qk, .ref qc, .ref qv, .ref qt, .int rd])), (qc, .inl (E.2.1, 16, .inl cl)), (qv, .inl (E.2.1, 16, .inl (upd (upd (upd mv ((column + 0) &&& 15).toNatClampNeg v_624) ((column + 1) &&& 15).toNatClampNeg v_659) ((column + 2) &&& 15).toNatClampNeg v_694)))] H_715 := hP_715
    replace hD_715 : va_D A [(h, .inr (2, [.ref qk, .ref qc, .ref qv, .ref qt, .int rd])), (qc, .inl (E.2.1, 16, .inl cl)), (qv, .inl (E.2.1, 16, .inl (upd (upd (upd mv ((column + 0) &&& 15).toNatClampNeg v_624) ((column + 1) &&& 15).toNatClampNeg v_659) ((column + 2) &&& 15).toNatClampNeg v_694)))] := hD_715
    clear hP_713 hD_713 hS_713
    refine lv_istore (lv' := [(8, .int r_714), (7, .int (cl ((column + 2) &&& 15).toNatClampNeg)), (6, .int (cl ((column + 1) &&& 15).toNatClampNeg)), (5, .int (cl ((column + 0) &&& 15).toNatClampNeg)), (4, .int (cl ((column + 3) &&& 15).toNatClampNeg)), (3, .int 3), (10, .int r_689), (9, .int r_685), (0, .ref h), (1, .int column), (2, .int mixing)]) hx hb dX0_unmixColumn_91 hl_707 (by decide) rfl (fun ls_716 hl_716 => ?_)
    clear hl_707
    refine lv_iload hx hb dX0_unmixColumn_93 (lv_at hl_716 4 rfl) ?_
    refine lv_iload hx hb dX0_unmixColumn_95 (lv_at hl_716 2 rfl) ?_
    refine lv_ixor hx hb dX0_unmixColumn_97 ?_
    refine lv_topi (fun v_717 ev_717 => ?_)
    refine gSi hF hl_716 hV hP_715 hD_715 hS_715 hA [] [0, 1, 2] (wc := []) (wr := [(h, .inr (2, [.ref qk, .ref qc, .ref qv, .ref qt, .int rd])), (qc, .inl (E.2.1, 16, .inl cl)), (qv, .inl (E.2.1, 16, .inl (upd (upd (upd mv ((column + 0) &&& 15).toNatClampNeg v_624) ((column + 1) &&& 15).toNatClampNeg v_659) ((column + 2) &&& 15).toNatClampNeg v_694)))]) rfl rfl rfl (by decide) (k_X0_twice E l v_717) (va_cwS 1 hts gX0_unmixColumn_X0_twice rfl rfl rfl (by decide +kernel) ⟨Nat.le_of_ble_eq_true rfl, Nat.le_of_ble_eq_true rfl⟩) rfl rfl (Nat.le_of_ble_eq_true rfl) dX0_unmixColumn_98 ⟨Nat.le_of_ble_eq_true rfl, Nat.le_of_ble_eq_true rfl⟩ (fun r_718 _ H_719 locs_719 hu_718 hP_719 hD_719 hS_719 => ?_)
    have er_718 : r_718 = F_X0_twice v_717 := hu_718
    clear hu_718
    replace hP_719 : va_P E.1 vwCl [(h, .inr (2, [.ref qk, .ref qc, .ref qv, .ref qt, .int rd])), (qc, .inl (E.2.1, 16, .inl cl)), (qv, .inl (E.2.1, 16, .inl (upd (upd (upd mv ((column + 0) &&& 15).toNatClampNeg v_624) ((column + 1) &&& 15).toNatClampNeg v_659) ((column + 2) &&& 15).toNatClampNeg v_694)))] H_719 := hP_719
    replace hD_719 : va_D A [(h, .inr (2, [.ref qk, .ref qc, .ref qv, .ref qt, .int rd])), (qc, .inl (E.2.1, 16, .inl cl)), (qv, .inl (E.2.1, 16, .inl (upd (upd (upd mv ((column + 0) &&& 15).toNatClampNeg v_624) ((column + 1) &&& 15).toNatClampNeg v_659) ((column + 2) &&& 15).toNatClampNeg v_694)))] := hD_719
    clear hP_715 hD_715 hS_715
    refine gSi hF hl_716 hV hP_719 hD_719 hS_719 hA [] [0, 1, 2] (wc := []) (wr := [(h, .inr (2, [.ref qk, .ref qc, .ref qv, .ref qt, .int rd])), (qc, .inl (E.2.1, 16, .inl cl)), (qv, .inl (E.2.1, 16, .inl (upd (upd (upd mv ((column + 0) &&& 15).toNatClampNeg v_624) ((column + 1) &&& 15).toNatClampNeg v_659) ((column + 2) &&& 15).toNatClampNeg v_694)))]) rfl rfl rfl (by decide) (k_X0_twice E l r_718) (va_cwS 1 hts gX0_unmixColumn_X0_twice rfl rfl rfl (by decide +kernel) ⟨Nat.le_of_ble_eq_true rfl, Nat.le_of_ble_eq_true rfl⟩) rfl rfl (Nat.le_of_ble_eq_true rfl) dX0_unmixColumn_101 ⟨Nat.le_of_ble_eq_true rfl, Nat.le_of_ble_eq_true rfl⟩ (fun r_720 _ H_721 locs_721 hu_720 hP_721 hD_721 hS_721 => ?_)
    have er_720 : r_720 = F_X0_twice r_718 := hu_720
    clear hu_720
    replace hP_721 : va_P E.1 vwCl [(h, .inr (2, [.ref qk, .ref qc, .ref qv, .ref qt, .int rd])), (qc, .inl (E.2.1, 16, .inl cl)), (qv, .inl (E.2.1, 16, .inl (upd (upd (upd mv ((column + 0) &&& 15).toNatClampNeg v_624) ((column + 1) &&& 15).toNatClampNeg v_659) ((column + 2) &&& 15).toNatClampNeg v_694)))] H_721 := hP_721
    replace hD_721 : va_D A [(h, .inr (2, [.ref qk, .ref qc, .ref qv, .ref qt, .int rd])), (qc, .inl (E.2.1, 16, .inl cl)), (qv, .inl (E.2.1, 16, .inl (upd (upd (upd mv ((column + 0) &&& 15).toNatClampNeg v_624) ((column + 1) &&& 15).toNatClampNeg v_659) ((column + 2) &&& 15).toNatClampNeg v_694)))] := hD_721
    clear hP_719 hD_719 hS_719
    refine lv_istore (lv' := [(9, .int r_720), (8, .int r_714), (7, .int (cl ((column + 2) &&& 15).toNatClampNeg)), (6, .int (cl ((column + 1) &&& 15).toNatClampNeg)), (5, .int (cl ((column + 0) &&& 15).toNatClampNeg)), (4, .int (cl ((column + 3) &&& 15).toNatClampNeg)), (3, .int 3), (10, .int r_689), (0, .ref h), (1, .int column), (2, .int mixing)]) hx hb dX0_unmixColumn_104 hl_716 (by decide) rfl (fun ls_722 hl_722 => ?_)
    clear hl_716
    refine lv_iload hx hb dX0_unmixColumn_106 (lv_at hl_722 5 rfl) ?_
    refine lv_iload hx hb dX0_unmixColumn_108 (lv_at hl_722 4 rfl) ?_
    refine lv_ixor hx hb dX0_unmixColumn_110 ?_
    refine lv_topi (fun v_723 ev_723 => ?_)
    refine gSi hF hl_722 hV hP_721 hD_721 hS_721 hA [] [0, 1, 2] (wc := []) (wr := [(h, .inr (2, [.ref qk, .ref qc, .ref qv, .ref qt, .int rd])), (qc, .inl (E.2.1, 16, .inl cl)), (qv, .inl (E.2.1, 16, .inl (upd (upd (upd mv ((column + 0) &&& 15).toNatClampNeg v_624) ((column + 1) &&& 15).toNatClampNeg v_659) ((column + 2) &&& 15).toNatClampNeg v_694)))]) rfl rfl rfl (by decide) (k_X0_twice E l v_723) (va_cwS 1 hts gX0_unmixColumn_X0_twice rfl rfl rfl (by decide +kernel) ⟨Nat.le_of_ble_eq_true rfl, Nat.le_of_ble_eq_true rfl⟩) rfl rfl (Nat.le_of_ble_eq_true rfl) dX0_unmixColumn_111 ⟨Nat.le_of_ble_eq_true rfl, Nat.le_of_ble_eq_true rfl⟩ (fun r_724 _ H_725 locs_725 hu_724 hP_725 hD_725 hS_725 => ?_)
    have er_724 : r_724 = F_X0_twice v_723 := hu_724
    clear hu_724
    replace hP_725 : va_P E.1 vwCl [(h, .inr (2, [.ref qk, .ref qc, .ref qv, .ref qt, .int rd])), (qc, .inl (E.2.1, 16, .inl cl)), (qv, .inl (E.2.1, 16, .inl (upd (upd (upd mv ((column + 0) &&& 15).toNatClampNeg v_624) ((column + 1) &&& 15).toNatClampNeg v_659) ((column + 2) &&& 15).toNatClampNeg v_694)))] H_725 := hP_725
    replace hD_725 : va_D A [(h, .inr (2, [.ref qk, .ref qc, .ref qv, .ref qt, .int rd])), (qc, .inl (E.2.1, 16, .inl cl)), (qv, .inl (E.2.1, 16, .inl (upd (upd (upd mv ((column + 0) &&& 15).toNatClampNeg v_624) ((column + 1) &&& 15).toNatClampNeg v_659) ((column + 2) &&& 15).toNatClampNeg v_694)))] := hD_725
    clear hP_721 hD_721 hS_721
    refine lv_istore (lv' := [(10, .int r_724), (9, .int r_720), (8, .int r_714), (7, .int (cl ((column + 2) &&& 15).toNatClampNeg)), (6, .int (cl ((column + 1) &&& 15).toNatClampNeg)), (5, .int (cl ((column + 0) &&& 15).toNatClampNeg)), (4, .int (cl ((column + 3) &&& 15).toNatClampNeg)), (3, .int 3), (0, .ref h), (1, .int column), (2, .int mixing)]) hx hb dX0_unmixColumn_114 hl_722 (by decide) rfl (fun ls_726 hl_726 => ?_)
    clear hl_722
    refine lv_aload_n hx hb dX0_unmixColumn_116 rfl (lv_at hl_726 8 rfl) ?_
    refine va_get (D := E.1) (ci := 2) (v := .ref qv) (C := RX0) (T := TX0) (N := 5) hx hb hts in_X0 hown hK hP_725 0 rfl rfl 2 (by decide) w_1 (fun _ h9 => h9) rfl dX0_unmixColumn_117 ?_
    refine lv_iload_n hx hb dX0_unmixColumn_120 rfl (lv_at hl_726 9 rfl) ?_
    refine lv_iload_n hx hb dX0_unmixColumn_121 rfl (lv_at hl_726 7 rfl) ?_
    refine lv_iadd hx hb dX0_unmixColumn_122 ?_
    refine lv_bipush (v := 15) hx hb dX0_unmixColumn_123 (by decide) ?_
    refine lv_iand hx hb dX0_unmixColumn_125 ?_
    refine lv_iload_n hx hb dX0_unmixColumn_126 rfl (lv_at hl_726 10 rfl) ?_
    refine lv_if_eq (tgt := 150) hx hb dX0_unmixColumn_127 (by decide) (fun c_727 => absurd c_727 c_520) (fun c_727 => ?_)
    refine lv_iload hx hb dX0_unmixColumn_130 (lv_at hl_726 2 rfl) ?_
    refine lv_iload hx hb dX0_unmixColumn_132 (lv_at hl_726 1 rfl) ?_
    refine lv_ixor hx hb dX0_unmixColumn_134 ?_
    refine lv_iload hx hb dX0_unmixColumn_135 (lv_at hl_726 0 rfl) ?_
    refine lv_ixor hx hb dX0_unmixColumn_137 ?_
    refine lv_iload hx hb dX0_unmixColumn_138 (lv_at hl_726 5 rfl) ?_
    refine lv_ixor hx hb dX0_unmixColumn_140 ?_
    refine lv_topi (fun v_728 ev_728 => ?_)
    refine lv_iload hx hb dX0_unmixColumn_141 (lv_at hl_726 4 rfl) ?_
    refine lv_ixor hx hb dX0_unmixColumn_143 ?_
    refine lv_iload hx hb dX0_unmixColumn_144 (lv_at hl_726 3 rfl) ?_
    refine lv_ixor hx hb dX0_unmixColumn_146 ?_
    refine lv_topi (fun v_729 ev_729 => ?_)
    refine lv_goto (tgt := 152) hx hb dX0_unmixColumn_147 (by decide) ?_
    refine va_iast hx hb hK hP_725 hD_725 hS_725 2 0 rfl rfl (pk_andIn _ 4 (by decide) (by decide)) dX0_unmixColumn_152 (fun H_730 locs_730 hP_730 hD_730 hS_730 => ?_)
    replace hP_730 : va_P E.1 vwCl [(h, .inr (2, [.ref qk, .ref qc, .ref qv, .ref qt, .int rd])), (qc, .inl (E.2.1, 16, .inl cl)), (qv, .inl (E.2.1, 16, .inl (upd (upd (upd (upd mv ((column + 0) &&& 15).toNatClampNeg v_624) ((column + 1) &&& 15).toNatClampNeg v_659) ((column + 2) &&& 15).toNatClampNeg v_694) ((column + 3) &&& 15).toNatClampNeg v_729)))] H_730 := hP_730
    replace hD_730 : va_D A [(h, .inr (2, [.ref qk, .ref qc, .ref qv, .ref qt, .int rd])), (qc, .inl (E.2.1, 16, .inl cl)), (qv, .inl (E.2.1, 16, .inl (upd (upd (upd (upd mv ((column + 0) &&& 15).toNatClampNeg v_624) ((column + 1) &&& 15).toNatClampNeg v_659) ((column + 2) &&& 15).toNatClampNeg v_694) ((column + 3) &&& 15).toNatClampNeg v_729)))] := hD_730
    clear hP_725 hD_725 hS_725
    refine lv_iinc (v := 4) (lv' := [(3, .int 4), (10, .int r_724), (9, .int r_720), (8, .int r_714), (7, .int (cl ((column + 2) &&& 15).toNatClampNeg)), (6, .int (cl ((column + 1) &&& 15).toNatClampNeg)), (5, .int (cl ((column + 0) &&& 15).toNatClampNeg)), (4, .int (cl ((column + 3) &&& 15).toNatClampNeg)), (0, .ref h), (1, .int column), (2, .int mixing)]) hx hb dX0_unmixColumn_153 hl_726 (k := 7) rfl (by decide) (by decide) rfl (fun ls_731 hl_731 => ?_)
    clear hl_726
    refine lv_goto (tgt := 2) hx hb dX0_unmixColumn_156 (by decide) ?_
    refine lv_iload_n hx hb dX0_unmixColumn_2 rfl (lv_at hl_731 0 rfl) ?_
    refine lv_iconst (v := 4) hx hb dX0_unmixColumn_3 (by decide) ?_
    refine lv_icmp_ge (tgt := 159) hx hb dX0_unmixColumn_4 (by decide) (fun c_732 => ?_) (fun c_732 => absurd (by decide) c_732)
    have hpost : ((upd (upd (upd (upd mv ((column + 0) &&& 15).toNatClampNeg v_624) ((column + 1) &&& 15).toNatClampNeg v_659) ((column + 2) &&& 15).toNatClampNeg v_694) ((column + 3) &&& 15).toNatClampNeg v_729) : Nat → Int32) = F_X0_unmixColumn cl mv column mixing := (show F_X0_unmixColumn cl mv column mixing = ((upd (upd (upd (upd mv ((column + 0) &&& 15).toNatClampNeg v_624) ((column + 1) &&& 15).toNatClampNeg v_659) ((column + 2) &&& 15).toNatClampNeg v_694) ((column + 3) &&& 15).toNatClampNeg v_729) : Nat → Int32) from (gLet_eq ev_501 (gLet_eq ev_502 (gLet_eq er_503 (gLet_eq er_505 (gLet_eq er_507 (gLet_eq ev_510 (gLet_eq er_511 (gLet_eq er_513 (gLet_eq ev_516 (gLet_eq er_517 ((if_neg c_520).trans (gLet_eq ev_623 (gLet_eq ev_624 (gLet_eq ev_638 (gLet_eq ev_639 (gLet_eq er_640 (gLet_eq er_642 (gLet_eq er_644 (gLet_eq ev_647 (gLet_eq er_648 (gLet_eq er_650 (gLet_eq ev_653 (gLet_eq er_654 (gLet_eq ev_658 (gLet_eq ev_659 (gLet_eq ev_673 (gLet_eq ev_674 (gLet_eq er_675 (gLet_eq er_677 (gLet_eq er_679 (gLet_eq ev_682 (gLet_eq er_683 (gLet_eq er_685 (gLet_eq ev_688 (gLet_eq er_689 (gLet_eq ev_693 (gLet_eq ev_694 (gLet_eq ev_708 (gLet_eq ev_709 (gLet_eq er_710 (gLet_eq er_712 (gLet_eq er_714 (gLet_eq ev_717 (gLet_eq er_718 (gLet_eq er_720 (gLet_eq ev_723 (gLet_eq er_724 (gLet_eq ev_728 (gLet_eq ev_729 rfl)))))))))))))))))))))))))))))))))))))))))))))))))).symm
    have hP9 := hP_730.sub (ws' := [(h, .inr (2, [.ref qk, .ref qc, .ref qv, .ref qt, .int rd])), (qc, .inl (E.2.1, 16, .inl cl)), (qv, .inl (E.2.1, 16, .inl (upd (upd (upd (upd mv ((column + 0) &&& 15).toNatClampNeg v_624) ((column + 1) &&& 15).toNatClampNeg v_659) ((column + 2) &&& 15).toNatClampNeg v_694) ((column + 3) &&& 15).toNatClampNeg v_729)))]) [0, 1, 2] rfl
    have hD9 := hD_730.sub (ws' := [(h, .inr (2, [.ref qk, .ref qc, .ref qv, .ref qt, .int rd])), (qc, .inl (E.2.1, 16, .inl cl)), (qv, .inl (E.2.1, 16, .inl (upd (upd (upd (upd mv ((column + 0) &&& 15).toNatClampNeg v_624) ((column + 1) &&& 15).toNatClampNeg v_659) ((column + 2) &&& 15).toNatClampNeg v_694) ((column + 3) &&& 15).toNatClampNeg v_729)))]) [0, 1, 2] (by decide) rfl
    exact W.vret hx hb hr (fun t ht hW => ⟨⟨(upd (upd (upd (upd mv ((column + 0) &&& 15).toNatClampNeg v_624) ((column + 1) &&& 15).toNatClampNeg v_659) ((column + 2) &&& 15).toNatClampNeg v_694) ((column + 3) &&& 15).toNatClampNeg v_729), rfl, hpost, by rw [ht]; exact hP9, hD9⟩, hS_730.F ht⟩) hS_730.2.2 dX0_unmixColumn_159
set_option maxHeartbeats 4000000 in
set_option maxRecDepth 100000 in
theorem k_X0_shutBlock (E : gE) (l : Launch) (h qk qc qv qt : Nat) (rd : Int32) (ky : Nat → Int32) (cl : Nat → Int32) (mv : Nat → Int32) (hrd : rd.toNatClampNeg ≤ 14) : gMv E l yX0_shutBlock wsX0_shutBlock ({ frames := 2, cells := 0, slots := 0, locals := 47 }) 0 0 [.ref h] [(h, .inr (2, [.ref qk, .ref qc, .ref qv, .ref qt, .int rd])), (qk, .inl (E.2.1, 240, .inl ky)), (qc, .inl (E.2.1, 16, .inl cl)), (qv, .inl (E.2.1, 16, .inl mv))] (fun (uu : (Nat → Int32) × (Nat → Int32)) => uu = F_X0_shutBlock rd ky cl mv) (fun (uu : (Nat → Int32) × (Nat → Int32)) => [(h, .inr (2, [.ref qk, .ref qc, .ref qv, .ref qt, .int rd])), (qk, .inl (E.2.1, 240, .inl ky)), (qc, .inl (E.2.1, 16, .inl uu.1)), (qv, .inl (E.2.1, 16, .inl uu.2))]) := by
  intro sz
  refine Met.ofW (cc := cX0_shutBlock) (maxL := 3) (ret := none) (by decide) rfl ?_
  intro p e s m args below meth c s₁ B hml hv
  obtain ⟨rfl, hsz, hP, hV, hD0⟩ := hv
  have hx := B.exec
  have hb := B.bytes
  have hr := B.returns
  have hts := atoms_spec (ws := wsX0_shutBlock) B.pre
  have hown : s.vm.findClass RX0 = some m.cls := findClass_of_methodNamed B.named
  have hlocks := B.notSynchronized
  subst hsz
  have hD := hD0.self (sz := s.heap.size)
  clear hD0
  generalize hAe : va_A [(h, .inr (2, [.ref qk, .ref qc, .ref qv, .ref qt, .int rd])), (qk, .inl (E.2.1, 240, .inl ky)), (qc, .inl (E.2.1, 16, .inl cl)), (qv, .inl (E.2.1, 16, .inl mv))] s.heap.size = A at hD hV ⊢
  have hA : ∀ q : Nat, s.heap.size ≤ q → A q := fun q h => by rw [← hAe]; exact Or.inr h
  have hS : va_S A s.heap s.heap [] := va_S.rf
  have hK := hV.1
  have hF : CallFix p m c cX0_shutBlock 3 s _ wsX0_shutBlock RX0 := ⟨hx, hb, hml, hown, hts⟩
  have hl := lv_entry [.ref h] (n := 3) (Nat.le_of_ble_eq_true rfl)
  rw [lg_entry_eq]
  generalize (lg_sl [.ref h] ++ List.replicate (3 - (lg_sl [.ref h]).length) Slot.unset).toArray = ls at hl ⊢
  have hl : lv_has ls 3 [(0, .ref h)] := hl
  have in_X0 : ∀ w ∈ wsX00, w ∈ wsX0_shutBlock := by decide +kernel
  have w_0 := hts (.fieldLink RX0 46 "CryptRows$Blocks" "rounds" "I") (by decide +kernel)
  have w_1 := hts (.fieldLink RX0 16 "CryptRows$Blocks" "moved" "[I") (by decide +kernel)
  have w_2 := hts (.fieldLink RX0 60 "CryptRows$Blocks" "SUBSTITUTES" "[I") (by decide +kernel)
  have w_3 := hts (.fieldLink RX0 13 "CryptRows$Blocks" "cells" "[I") (by decide +kernel)
  refine lv_aload_n hx hb dX0_shutBlock_0 rfl (lv_at hl 0 rfl) ?_
  refine lv_iconst (v := 0) hx hb dX0_shutBlock_1 (by decide) ?_
  refine gVv hF hl hV hP hD hS hA [0, 1, 2] [3] (wc := [(h, .inr (2, [.ref qk, .ref qc, .ref qv, .ref qt, .int rd])), (qk, .inl (E.2.1, 240, .inl ky)), (qc, .inl (E.2.1, 16, .inl cl))]) (wr := [(qv, .inl (E.2.1, 16, .inl mv))]) rfl rfl rfl (by decide) 0 2 rfl rfl rfl (k_X0_addKey E l h qk qc qv qt rd ky cl 0) (cwV 1 hts gX0_shutBlock_X0_addKey rfl rfl rfl (by decide +kernel) ⟨Nat.le_of_ble_eq_true rfl, Nat.le_of_ble_eq_true rfl⟩) rfl rfl rfl (Nat.le_of_ble_eq_true rfl) dX0_shutBlock_2 ⟨Nat.le_of_ble_eq_true rfl, Nat.le_of_ble_eq_true rfl⟩ (fun u_725 H_726 locs_726 hu_725 hP_726 hD_726 hS_726 => ?_)
  replace hu_725 : u_725 = F_X0_addKey ky cl 0 := hu_725
  replace hP_726 : va_P E.1 vwCl [(qv, .inl (E.2.1, 16, .inl mv)), (h, .inr (2, [.ref qk, .ref qc, .ref qv, .ref qt, .int rd])), (qk, .inl (E.2.1, 240, .inl ky)), (qc, .inl (E.2.1, 16, .inl u_725))] H_726 := hP_726
  replace hD_726 : va_D A [(qv, .inl (E.2.1, 16, .inl mv)), (h, .inr (2, [.ref qk, .ref qc, .ref qv, .ref qt, .int rd])), (qk, .inl (E.2.1, 240, .inl ky)), (qc, .inl (E.2.1, 16, .inl u_725))] := hD_726
  clear hP hD hS
  refine lv_iconst (v := 1) hx hb dX0_shutBlock_5 (by decide) ?_
  refine lv_istore_n (lv' := [(1, .int 1), (0, .ref h)]) hx hb dX0_shutBlock_6 rfl hl (by decide) rfl (fun ls_727 hl_727 => ?_)
  clear hl
  have hcl_995 := g_clamp_lt rd
  refine g_up (N := rd.toNatClampNeg) (B_X0_shutBlock_7 rd ky) ((u_725, mv) : (Nat → Int32) × (Nat → Int32)) (Inv := fun i_0 z_996 H_0 locs_0 ls_0 => lv_has ls_0 3 [(1, .int (nI (1 + i_0))), (0, .ref h)] ∧ va_P E.1 vwCl [(qv, .inl (E.2.1, 16, .inl z_996.2)), (h, .inr (2, [.ref qk, .ref qc, .ref qv, .ref qt, .int rd])), (qk, .inl (E.2.1, 240, .inl ky)), (qc, .inl (E.2.1, 16, .inl z_996.1))] H_0 ∧ va_D A [(qv, .inl (E.2.1, 16, .inl z_996.2)), (h, .inr (2, [.ref qk, .ref qc, .ref qv, .ref qt, .int rd])), (qk, .inl (E.2.1, 240, .inl ky)), (qc, .inl (E.2.1, 16, .inl z_996.1))] ∧ va_S A s.heap H_0 locs_0) (G := fun H_0 locs_0 ls_0 => W _ _ _ _ _ _ _ _ _ _ H_0 locs_0 _ _ _ (F0 _ 7 ls_0 [])) ?_ ?_ ⟨lv_sub hl_727 [0, 1] rfl, hP_726, hD_726, hS_726⟩
  · intro j_997 i_997 z_997 H_997 locs_997 ls_997 hij_997 hz_997 hI_997 ih_997
    obtain ⟨hl_997, hP_997, hD_997, hS_997⟩ := hI_997
    replace hl_997 : lv_has ls_997 3 [(1, .int (nI (1 + i_997))), (0, .ref h)] := hl_997
    replace hP_997 : va_P E.1 vwCl [(qv, .inl (E.2.1, 16, .inl z_997.2)), (h, .inr (2, [.ref qk, .ref qc, .ref qv, .ref qt, .int rd])), (qk, .inl (E.2.1, 240, .inl ky)), (qc, .inl (E.2.1, 16, .inl z_997.1))] H_997 := hP_997
    replace hD_997 : va_D A [(qv, .inl (E.2.1, 16, .inl z_997.2)), (h, .inr (2, [.ref qk, .ref qc, .ref qv, .ref qt, .int rd])), (qk, .inl (E.2.1, 240, .inl ky)), (qc, .inl (E.2.1, 16, .inl z_997.1))] := hD_997
    clear hl_727 hP_726 hD_726 hS_726
    refine lv_iload_n hx hb dX0_shutBlock_7 rfl (lv_at hl_997 0 rfl) ?_
    refine lv_aload_n hx hb dX0_shutBlock_8 rfl (lv_at hl_997 1 rfl) ?_
    refine va_get (D := E.1) (ci := 2) (v := .int rd) (C := RX0) (T := TX0) (N := 5) hx hb hts in_X0 hown hK hP_997 1 rfl rfl 4 (by decide) w_0 (fun _ h9 => h9) rfl dX0_shutBlock_9 ?_
    refine lv_icmp_gt (tgt := 101) hx hb dX0_shutBlock_12 (by decide) (fun c_998 => (by have c_998 := (g_rlt (by omega) (by omega)).mp c_998; exfalso; omega)) (fun c_998 => ?_)
    replace c_998 : ¬ rd.toNatClampNeg < 1 + i_997 := (not_congr (g_rlt (by omega) (by omega))).mp c_998
    refine lv_iconst (v := 0) hx hb dX0_shutBlock_15 (by decide) ?_
    refine lv_istore_n (lv' := [(2, .int 0), (1, .int (nI (1 + i_997))), (0, .ref h)]) hx hb dX0_shutBlock_16 rfl hl_997 (by decide) rfl (fun ls_999 hl_999 => ?_)
    clear hl_997
    refine g_up (N := 16) (B_X0_shutBlock_17 z_997) (z_997.2 : Nat → Int32) (Inv := fun i_0 z_1027 H_0 locs_0 ls_0 => lv_has ls_0 3 [(2, .int (nI i_0)), (1, .int (nI (1 + i_997))), (0, .ref h)] ∧ va_P E.1 vwCl [(qv, .inl (E.2.1, 16, .inl z_1027)), (h, .inr (2, [.ref qk, .ref qc, .ref qv, .ref qt, .int rd])), (qk, .inl (E.2.1, 240, .inl ky)), (qc, .inl (E.2.1, 16, .inl z_997.1))] H_0 ∧ va_D A [(qv, .inl (E.2.1, 16, .inl z_1027)), (h, .inr (2, [.ref qk, .ref qc, .ref qv, .ref qt, .int rd])), (qk, .inl (E.2.1, 240, .inl ky)), (qc, .inl (E.2.1, 16, .inl z_997.1))] ∧ va_S A s.heap H_0 locs_0) (G := fun H_0 locs_0 ls_0 => W _ _ _ _ _ _ _ _ _ _ H_0 locs_0 _ _ _ (F0 _ 17 ls_0 [])) ?_ ?_ ⟨lv_sub hl_999 [0, 1, 2] rfl, hP_997, hD_997, hS_997⟩
    · intro j_1028 i_1028 z_1028 H_1028 locs_1028 ls_1028 hij_1028 hz_1028 hI_1028 ih_1028
      obtain ⟨hl_1028, hP_1028, hD_1028, hS_1028⟩ := hI_1028
      replace hl_1028 : lv_has ls_1028 3 [(2, .int (nI i_1028)), (1, .int (nI (1 + i_997))), (0, .ref h)] := hl_1028
      replace hP_1028 : va_P E.1 vwCl [(qv, .inl (E.2.1, 16, .inl z_1028)), (h, .inr (2, [.ref qk, .ref qc, .ref qv, .ref qt, .int rd])), (qk, .inl (E.2.1, 240, .inl ky)), (qc, .inl (E.2.1, 16, .inl z_997.1))] H_1028 := hP_1028
      replace hD_1028 : va_D A [(qv, .inl (E.2.1, 16, .inl z_1028)), (h, .inr (2, [.ref qk, .ref qc, .ref qv, .ref qt, .int rd])), (qk, .inl (E.2.1, 240, .inl ky)), (qc, .inl (E.2.1, 16, .inl z_997.1))] := hD_1028
      clear hl_999 hP_997 hD_997 hS_997
      refine lv_iload_n hx hb dX0_shutBlock_17 rfl (lv_at hl_1028 0 rfl) ?_
      refine lv_bipush (v := 16) hx hb dX0_shutBlock_18 (by decide) ?_
      refine lv_icmp_ge (tgt := 58) hx hb dX0_shutBlock_20 (by decide) (fun c_1029 => (by have c_1029 := (nI_leI (a := 16) (b := i_1028) (by omega) (by omega)).mp c_1029; exfalso; omega)) (fun c_1029 => ?_)
      replace c_1029 : ¬ 16 ≤ i_1028 := (not_congr (nI_leI (a := 16) (b := i_1028) (by omega) (by omega))).mp c_1029
      refine lv_aload_n hx hb dX0_shutBlock_23 rfl (lv_at hl_1028 2 rfl) ?_
      refine va_get (D := E.1) (ci := 2) (v := .ref qv) (C := RX0) (T := TX0) (N := 5) hx hb hts in_X0 hown hK hP_1028 1 rfl rfl 2 (by decide) w_1 (fun _ h9 => h9) rfl dX0_shutBlock_24 ?_
      refine lv_iload_n hx hb dX0_shutBlock_27 rfl (lv_at hl_1028 0 rfl) ?_
      refine va_gets (v := .ref (E.2.2.2 5)) hx hb (hV.2.2 5 (by decide)).1 hS_1028 hown w_2 (fun _ h9 => h9) dX0_shutBlock_28 ?_
      refine lv_aload_n hx hb dX0_shutBlock_31 rfl (lv_at hl_1028 2 rfl) ?_
      refine va_get (D := E.1) (ci := 2) (v := .ref qc) (C := RX0) (T := TX0) (N := 5) hx hb hts in_X0 hown hK hP_1028 1 rfl rfl 1 (by decide) w_3 (fun _ h9 => h9) rfl dX0_shutBlock_32 ?_
      refine lv_iload_n hx hb dX0_shutBlock_35 rfl (lv_at hl_1028 0 rfl) ?_
      refine lv_iconst (v := 4) hx hb dX0_shutBlock_36 (by decide) ?_
      refine lv_iload_n hx hb dX0_shutBlock_37 rfl (lv_at hl_1028 0 rfl) ?_
      refine lv_iconst (v := 3) hx hb dX0_shutBlock_38 (by decide) ?_
      refine lv_iand hx hb dX0_shutBlock_39 ?_
      refine lv_topi (fun y_1030 ey_1030 => ?_)
      obtain rfl : y_1030 = (nI (i_1028 % 4)) := ey_1030.trans (pk_andN (n := i_1028) (by omega) 2 (by decide))
      refine lv_imul hx hb dX0_shutBlock_40 ?_
      refine lv_topi (fun y_1031 ey_1031 => ?_)
      obtain rfl : y_1031 = (nI (4 * (i_1028 % 4))) := ey_1031.trans (pk_mul _ _)
      refine lv_iadd hx hb dX0_shutBlock_41 ?_
      refine lv_topi (fun y_1032 ey_1032 => ?_)
      obtain rfl : y_1032 = (nI (i_1028 + (4 * (i_1028 % 4)))) := ey_1032.trans (nI_add _ _)
      refine lv_bipush (v := 15) hx hb dX0_shutBlock_42 (by decide) ?_
      refine lv_iand hx hb dX0_shutBlock_44 ?_
      refine lv_topi (fun y_1033 ey_1033 => ?_)
      obtain rfl : y_1033 = (nI ((i_1028 + (4 * (i_1028 % 4))) % 16)) := ey_1033.trans (pk_andN (n := i_1028 + (4 * (i_1028 % 4))) (by omega) 4 (by decide))
      refine g_iald (e0 := (i_1028 + (4 * (i_1028 % 4))) % 16) hx hb hK hP_1028 3 0 rfl rfl (by omega) (by omega) dX0_shutBlock_45 ?_
      refine lv_sipush (v := 255) hx hb dX0_shutBlock_46 (by decide) ?_
      refine lv_iand hx hb dX0_shutBlock_49 ?_
      refine va_ti (v := .int (gTf 5 ((z_997.1 ((i_1028 + (4 * (i_1028 % 4))) % 16)) &&& 255).toNatClampNeg)) hx hb (hV.2.2 5 (by decide)).2 hS_1028 (pk_andIn _ 8 (by decide) (by decide)) rfl dX0_shutBlock_50 ?_
      refine g_iast (e0 := i_1028) hx hb hK hP_1028 hD_1028 hS_1028 0 0 rfl rfl (by omega) (by omega) dX0_shutBlock_51 (fun H_1034 locs_1034 hP_1034 hD_1034 hS_1034 => ?_)
      replace hP_1034 : va_P E.1 vwCl [(qv, .inl (E.2.1, 16, .inl (upd z_1028 i_1028 (gTf 5 ((z_997.1 ((i_1028 + (4 * (i_1028 % 4))) % 16)) &&& 255).toNatClampNeg)))), (h, .inr (2, [.ref qk, .ref qc, .ref qv, .ref qt, .int rd])), (qk, .inl (E.2.1, 240, .inl ky)), (qc, .inl (E.2.1, 16, .inl z_997.1))] H_1034 := hP_1034
      replace hD_1034 : va_D A [(qv, .inl (E.2.1, 16, .inl (upd z_1028 i_1028 (gTf 5 ((z_997.1 ((i_1028 + (4 * (i_1028 % 4))) % 16)) &&& 255).toNatClampNeg)))), (h, .inr (2, [.ref qk, .ref qc, .ref qv, .ref qt, .int rd])), (qk, .inl (E.2.1, 240, .inl ky)), (qc, .inl (E.2.1, 16, .inl z_997.1))] := hD_1034
      clear hP_1028 hD_1028 hS_1028
      refine lv_iinc (v := (nI (i_1028 + 1))) (lv' := [(2, .int (nI (i_1028 + 1))), (1, .int (nI (1 + i_997))), (0, .ref h)]) hx hb dX0_shutBlock_52 hl_1028 (k := 0) rfl (nI_add _ 1) (by decide) rfl (fun ls_1035 hl_1035 => ?_)
      clear hl_1028
      refine lv_goto (tgt := 17) hx hb dX0_shutBlock_55 (by decide) ?_
      exact ih_1028 ((upd z_1028 i_1028 (gTf 5 ((z_997.1 ((i_1028 + (4 * (i_1028 % 4))) % 16)) &&& 255).toNatClampNeg)) : Nat → Int32) _ _ _ (((show (B_X0_shutBlock_17 z_997) i_1028 z_1028 = _ from rfl).symm.trans (congrArg ((B_X0_shutBlock_17 z_997) i_1028) hz_1028)).trans (itr_s _ _ _).symm) ⟨lv_sub hl_1035 [0, 1, 2] rfl, (hP_1034.sub [0, 1, 2, 3] rfl), (hD_1034.sub [0, 1, 2, 3] (by decide) rfl), hS_1034⟩
    · intro z_1036 H_1036 locs_1036 ls_1036 hz_1036 hI_1036
      obtain ⟨hl_1036, hP_1036, hD_1036, hS_1036⟩ := hI_1036
      replace hl_1036 : lv_has ls_1036 3 [(2, .int (nI 16)), (1, .int (nI (1 + i_997))), (0, .ref h)] := hl_1036
      replace hP_1036 : va_P E.1 vwCl [(qv, .inl (E.2.1, 16, .inl z_1036)), (h, .inr (2, [.ref qk, .ref qc, .ref qv, .ref qt, .int rd])), (qk, .inl (E.2.1, 240, .inl ky)), (qc, .inl (E.2.1, 16, .inl z_997.1))] H_1036 := hP_1036
      replace hD_1036 : va_D A [(qv, .inl (E.2.1, 16, .inl z_1036)), (h, .inr (2, [.ref qk, .ref qc, .ref qv, .ref qt, .int rd])), (qk, .inl (E.2.1, 240, .inl ky)), (qc, .inl (E.2.1, 16, .inl z_997.1))] := hD_1036
      clear hl_999 hP_997 hD_997 hS_997
      refine lv_iload_n hx hb dX0_shutBlock_17 rfl (lv_at hl_1036 0 rfl) ?_
      refine lv_bipush (v := 16) hx hb dX0_shutBlock_18 (by decide) ?_
      refine lv_icmp_ge (tgt := 58) hx hb dX0_shutBlock_20 (by decide) (fun c_1037 => ?_) (fun c_1037 => (by have c_1037 := (not_congr (nI_leI (a := 16) (b := 16) (by omega) (by omega))).mp c_1037; exfalso; omega))
      replace c_1037 : 16 ≤ 16 := (nI_leI (a := 16) (b := 16) (by omega) (by omega)).mp c_1037
      refine lv_iconst (v := 0) hx hb dX0_shutBlock_58 (by decide) ?_
      refine lv_istore_n (lv' := [(2, .int 0), (1, .int (nI (1 + i_997))), (0, .ref h)]) hx hb dX0_shutBlock_59 rfl hl_1036 (by decide) rfl (fun ls_1038 hl_1038 => ?_)
      clear hl_1036
      refine lv_iload_n hx hb dX0_shutBlock_60 rfl (lv_at hl_1038 0 rfl) ?_
      refine lv_bipush (v := 16) hx hb dX0_shutBlock_61 (by decide) ?_
      refine lv_icmp_ge (tgt := 90) hx hb dX0_shutBlock_63 (by decide) (fun c_1039 => absurd c_1039 (by decide)) (fun c_1039 => ?_)
      refine lv_aload_n hx hb dX0_shutBlock_66 rfl (lv_at hl_1038 2 rfl) ?_
      refine lv_iload_n hx hb dX0_shutBlock_67 rfl (lv_at hl_1038 0 rfl) ?_
      refine lv_iload_n hx hb dX0_shutBlock_68 rfl (lv_at hl_1038 1 rfl) ?_
      refine lv_aload_n hx hb dX0_shutBlock_69 rfl (lv_at hl_1038 2 rfl) ?_
      refine va_get (D := E.1) (ci := 2) (v := .int rd) (C := RX0) (T := TX0) (N := 5) hx hb hts in_X0 hown hK hP_1036 1 rfl rfl 4 (by decide) w_0 (fun _ h9 => h9) rfl dX0_shutBlock_70 ?_
      refine lv_icmp_ge (tgt := 80) hx hb dX0_shutBlock_73 (by decide) (fun c_1040 => ?_) (fun c_1040 => ?_)
      · replace c_1040 : rd ≤ (nI (1 + i_997)) := c_1040
        refine lv_iconst (v := 0) hx hb dX0_shutBlock_80 (by decide) ?_
        refine gVv hF hl_1038 hV hP_1036 hD_1036 hS_1036 hA [1, 3, 0] [2] (wc := [(h, .inr (2, [.ref qk, .ref qc, .ref qv, .ref qt, .int rd])), (qc, .inl (E.2.1, 16, .inl z_997.1)), (qv, .inl (E.2.1, 16, .inl z_1036))]) (wr := [(qk, .inl (E.2.1, 240, .inl ky))]) rfl rfl rfl (by decide) 0 2 rfl rfl rfl (k_X0_mixColumn E l h qk qc qv qt rd z_997.1 z_1036 0 0) (cwV 2 hts gX0_shutBlock_X0_mixColumn rfl rfl rfl (by decide +kernel) ⟨Nat.le_of_ble_eq_true rfl, Nat.le_of_ble_eq_true rfl⟩) rfl rfl rfl (Nat.le_of_ble_eq_true rfl) dX0_shutBlock_81 ⟨Nat.le_of_ble_eq_true rfl, Nat.le_of_ble_eq_true rfl⟩ (fun u_1041 H_1042 locs_1042 hu_1041 hP_1042 hD_1042 hS_1042 => ?_)
        replace hu_1041 : u_1041 = F_X0_mixColumn z_997.1 z_1036 0 0 := hu_1041
        replace hP_1042 : va_P E.1 vwCl [(qk, .inl (E.2.1, 240, .inl ky)), (h, .inr (2, [.ref qk, .ref qc, .ref qv, .ref qt, .int rd])), (qc, .inl (E.2.1, 16, .inl u_1041)), (qv, .inl (E.2.1, 16, .inl z_1036))] H_1042 := hP_1042
        replace hD_1042 : va_D A [(qk, .inl (E.2.1, 240, .inl ky)), (h, .inr (2, [.ref qk, .ref qc, .ref qv, .ref qt, .int rd])), (qc, .inl (E.2.1, 16, .inl u_1041)), (qv, .inl (E.2.1, 16, .inl z_1036))] := hD_1042
        clear hP_1036 hD_1036 hS_1036
        refine lv_iinc (v := 4) (lv' := [(2, .int 4), (1, .int (nI (1 + i_997))), (0, .ref h)]) hx hb dX0_shutBlock_84 hl_1038 (k := 0) rfl (by decide) (by decide) rfl (fun ls_1043 hl_1043 => ?_)
        clear hl_1038
        refine lv_goto (tgt := 60) hx hb dX0_shutBlock_87 (by decide) ?_
        refine lv_iload_n hx hb dX0_shutBlock_60 rfl (lv_at hl_1043 0 rfl) ?_
        refine lv_bipush (v := 16) hx hb dX0_shutBlock_61 (by decide) ?_
        refine lv_icmp_ge (tgt := 90) hx hb dX0_shutBlock_63 (by decide) (fun c_1044 => absurd c_1044 (by decide)) (fun c_1044 => ?_)
        refine lv_aload_n hx hb dX0_shutBlock_66 rfl (lv_at hl_1043 2 rfl) ?_
        refine lv_iload_n hx hb dX0_shutBlock_67 rfl (lv_at hl_1043 0 rfl) ?_
        refine lv_iload_n hx hb dX0_shutBlock_68 rfl (lv_at hl_1043 1 rfl) ?_
        refine lv_aload_n hx hb dX0_shutBlock_69 rfl (lv_at hl_1043 2 rfl) ?_
        refine va_get (D := E.1) (ci := 2) (v := .int rd) (C := RX0) (T := TX0) (N := 5) hx hb hts in_X0 hown hK hP_1042 1 rfl rfl 4 (by decide) w_0 (fun _ h9 => h9) rfl dX0_shutBlock_70 ?_
        refine lv_icmp_ge (tgt := 80) hx hb dX0_shutBlock_73 (by decide) (fun c_1045 => ?_) (fun c_1045 => absurd c_1040 c_1045)
        refine lv_iconst (v := 0) hx hb dX0_shutBlock_80 (by decide) ?_
        refine gVv hF hl_1043 hV hP_1042 hD_1042 hS_1042 hA [1, 2, 3] [0] (wc := [(h, .inr (2, [.ref qk, .ref qc, .ref qv, .ref qt, .int rd])), (qc, .inl (E.2.1, 16, .inl u_1041)), (qv, .inl (E.2.1, 16, .inl z_1036))]) (wr := [(qk, .inl (E.2.1, 240, .inl ky))]) rfl rfl rfl (by decide) 0 2 rfl rfl rfl (k_X0_mixColumn E l h qk qc qv qt rd u_1041 z_1036 4 0) (cwV 2 hts gX0_shutBlock_X0_mixColumn rfl rfl rfl (by decide +kernel) ⟨Nat.le_of_ble_eq_true rfl, Nat.le_of_ble_eq_true rfl⟩) rfl rfl rfl (Nat.le_of_ble_eq_true rfl) dX0_shutBlock_81 ⟨Nat.le_of_ble_eq_true rfl, Nat.le_of_ble_eq_true rfl⟩ (fun u_1046 H_1047 locs_1047 hu_1046 hP_1047 hD_1047 hS_1047 => ?_)
        replace hu_1046 : u_1046 = F_X0_mixColumn u_1041 z_1036 4 0 := hu_1046
        replace hP_1047 : va_P E.1 vwCl [(qk, .inl (E.2.1, 240, .inl ky)), (h, .inr (2, [.ref qk, .ref qc, .ref qv, .ref qt, .int rd])), (qc, .inl (E.2.1, 16, .inl u_1046)), (qv, .inl (E.2.1, 16, .inl z_1036))] H_1047 := hP_1047
        replace hD_1047 : va_D A [(qk, .inl (E.2.1, 240, .inl ky)), (h, .inr (2, [.ref qk, .ref qc, .ref qv, .ref qt, .int rd])), (qc, .inl (E.2.1, 16, .inl u_1046)), (qv, .inl (E.2.1, 16, .inl z_1036))] := hD_1047
        clear hP_1042 hD_1042 hS_1042
        refine lv_iinc (v := 8) (lv' := [(2, .int 8), (1, .int (nI (1 + i_997))), (0, .ref h)]) hx hb dX0_shutBlock_84 hl_1043 (k := 0) rfl (by decide) (by decide) rfl (fun ls_1048 hl_1048 => ?_)
        clear hl_1043
        refine lv_goto (tgt := 60) hx hb dX0_shutBlock_87 (by decide) ?_
        refine lv_iload_n hx hb dX0_shutBlock_60 rfl (lv_at hl_1048 0 rfl) ?_
        refine lv_bipush (v := 16) hx hb dX0_shutBlock_61 (by decide) ?_
        refine lv_icmp_ge (tgt := 90) hx hb dX0_shutBlock_63 (by decide) (fun c_1049 => absurd c_1049 (by decide)) (fun c_1049 => ?_)
        refine lv_aload_n hx hb dX0_shutBlock_66 rfl (lv_at hl_1048 2 rfl) ?_
        refine lv_iload_n hx hb dX0_shutBlock_67 rfl (lv_at hl_1048 0 rfl) ?_
        refine lv_iload_n hx hb dX0_shutBlock_68 rfl (lv_at hl_1048 1 rfl) ?_
        refine lv_aload_n hx hb dX0_shutBlock_69 rfl (lv_at hl_1048 2 rfl) ?_
        refine va_get (D := E.1) (ci := 2) (v := .int rd) (C := RX0) (T := TX0) (N := 5) hx hb hts in_X0 hown hK hP_1047 1 rfl rfl 4 (by decide) w_0 (fun _ h9 => h9) rfl dX0_shutBlock_70 ?_
        refine lv_icmp_ge (tgt := 80) hx hb dX0_shutBlock_73 (by decide) (fun c_1050 => ?_) (fun c_1050 => absurd c_1040 c_1050)
        refine lv_iconst (v := 0) hx hb dX0_shutBlock_80 (by decide) ?_
        refine gVv hF hl_1048 hV hP_1047 hD_1047 hS_1047 hA [1, 2, 3] [0] (wc := [(h, .inr (2, [.ref qk, .ref qc, .ref qv, .ref qt, .int rd])), (qc, .inl (E.2.1, 16, .inl u_1046)), (qv, .inl (E.2.1, 16, .inl z_1036))]) (wr := [(qk, .inl (E.2.1, 240, .inl ky))]) rfl rfl rfl (by decide) 0 2 rfl rfl rfl (k_X0_mixColumn E l h qk qc qv qt rd u_1046 z_1036 8 0) (cwV 2 hts gX0_shutBlock_X0_mixColumn rfl rfl rfl (by decide +kernel) ⟨Nat.le_of_ble_eq_true rfl, Nat.le_of_ble_eq_true rfl⟩) rfl rfl rfl (Nat.le_of_ble_eq_true rfl) dX0_shutBlock_81 ⟨Nat.le_of_ble_eq_true rfl, Nat.le_of_ble_eq_true rfl⟩ (fun u_1051 H_1052 locs_1052 hu_1051 hP_1052 hD_1052 hS_1052 => ?_)
        replace hu_1051 : u_1051 = F_X0_mixColumn u_1046 z_1036 8 0 := hu_1051
        replace hP_1052 : va_P E.1 vwCl [(qk, .inl (E.2.1, 240, .inl ky)), (h, .inr (2, [.ref qk, .ref qc, .ref qv, .ref qt, .int rd])), (qc, .inl (E.2.1, 16, .inl u_1051)), (qv, .inl (E.2.1, 16, .inl z_1036))] H_1052 := hP_1052
        replace hD_1052 : va_D A [(qk, .inl (E.2.1, 240, .inl ky)), (h, .inr (2, [.ref qk, .ref qc, .ref qv, .ref qt, .int rd])), (qc, .inl (E.2.1, 16, .inl u_1051)), (qv, .inl (E.2.1, 16, .inl z_1036))] := hD_1052
        clear hP_1047 hD_1047 hS_1047
        refine lv_iinc (v := 12) (lv' := [(2, .int 12), (1, .int (nI (1 + i_997))), (0, .ref h)]) hx hb dX0_shutBlock_84 hl_1048 (k := 0) rfl (by decide) (by decide) rfl (fun ls_1053 hl_1053 => ?_)
        clear hl_1048
        refine lv_goto (tgt := 60) hx hb dX0_shutBlock_87 (by decide) ?_
        refine lv_iload_n hx hb dX0_shutBlock_60 rfl (lv_at hl_1053 0 rfl) ?_
        refine lv_bipush (v := 16) hx hb dX0_shutBlock_61 (by decide) ?_
        refine lv_icmp_ge (tgt := 90) hx hb dX0_shutBlock_63 (by decide) (fun c_1054 => absurd c_1054 (by decide)) (fun c_1054 => ?_)
        refine lv_aload_n hx hb dX0_shutBlock_66 rfl (lv_at hl_1053 2 rfl) ?_
        refine lv_iload_n hx hb dX0_shutBlock_67 rfl (lv_at hl_1053 0 rfl) ?_
        refine lv_iload_n hx hb dX0_shutBlock_68 rfl (lv_at hl_1053 1 rfl) ?_
        refine lv_aload_n hx hb dX0_shutBlock_69 rfl (lv_at hl_1053 2 rfl) ?_
        refine va_get (D := E.1) (ci := 2) (v := .int rd) (C := RX0) (T := TX0) (N := 5) hx hb hts in_X0 hown hK hP_1052 1 rfl rfl 4 (by decide) w_0 (fun _ h9 => h9) rfl dX0_shutBlock_70 ?_
        refine lv_icmp_ge (tgt := 80) hx hb dX0_shutBlock_73 (by decide) (fun c_1055 => ?_) (fun c_1055 => absurd c_1040 c_1055)
        refine lv_iconst (v := 0) hx hb dX0_shutBlock_80 (by decide) ?_
        refine gVv hF hl_1053 hV hP_1052 hD_1052 hS_1052 hA [1, 2, 3] [0] (wc := [(h, .inr (2, [.ref qk, .ref qc, .ref qv, .ref qt, .int rd])), (qc, .inl (E.2.1, 16, .inl u_1051)), (qv, .inl (E.2.1, 16, .inl z_1036))]) (wr := [(qk, .inl (E.2.1, 240, .inl ky))]) rfl rfl rfl (by decide) 0 2 rfl rfl rfl (k_X0_mixColumn E l h qk qc qv qt rd u_1051 z_1036 12 0) (cwV 2 hts gX0_shutBlock_X0_mixColumn rfl rfl rfl (by decide +kernel) ⟨Nat.le_of_ble_eq_true rfl, Nat.le_of_ble_eq_true rfl⟩) rfl rfl rfl (Nat.le_of_ble_eq_true rfl) dX0_shutBlock_81 ⟨Nat.le_of_ble_eq_true rfl, Nat.le_of_ble_eq_true rfl⟩ (fun u_1056 H_1057 locs_1057 hu_1056 hP_1057 hD_1057 hS_1057 => ?_)
        replace hu_1056 : u_1056 = F_X0_mixColumn u_1051 z_1036 12 0 := hu_1056
        replace hP_1057 : va_P E.1 vwCl [(qk, .inl (E.2.1, 240, .inl ky)), (h, .inr (2, [.ref qk, .ref qc, .ref qv, .ref qt, .int rd])), (qc, .inl (E.2.1, 16, .inl u_1056)), (qv, .inl (E.2.1, 16, .inl z_1036))] H_1057 := hP_1057
        replace hD_1057 : va_D A [(qk, .inl (E.2.1, 240, .inl ky)), (h, .inr (2, [.ref qk, .ref qc, .ref qv, .ref qt, .int rd])), (qc, .inl (E.2.1, 16, .inl u_1056)), (qv, .inl (E.2.1, 16, .inl z_1036))] := hD_1057
        clear hP_1052 hD_1052 hS_1052
        refine lv_iinc (v := 16) (lv' := [(2, .int 16), (1, .int (nI (1 + i_997))), (0, .ref h)]) hx hb dX0_shutBlock_84 hl_1053 (k := 0) rfl (by decide) (by decide) rfl (fun ls_1058 hl_1058 => ?_)
        clear hl_1053
        refine lv_goto (tgt := 60) hx hb dX0_shutBlock_87 (by decide) ?_
        refine lv_iload_n hx hb dX0_shutBlock_60 rfl (lv_at hl_1058 0 rfl) ?_
        refine lv_bipush (v := 16) hx hb dX0_shutBlock_61 (by decide) ?_
        refine lv_icmp_ge (tgt := 90) hx hb dX0_shutBlock_63 (by decide) (fun c_1059 => ?_) (fun c_1059 => absurd (by decide) c_1059)
        refine lv_aload_n hx hb dX0_shutBlock_90 rfl (lv_at hl_1058 2 rfl) ?_
        refine lv_iload_n hx hb dX0_shutBlock_91 rfl (lv_at hl_1058 1 rfl) ?_
        refine gVv hF hl_1058 hV hP_1057 hD_1057 hS_1057 hA [1, 0, 2] [3] (wc := [(h, .inr (2, [.ref qk, .ref qc, .ref qv, .ref qt, .int rd])), (qk, .inl (E.2.1, 240, .inl ky)), (qc, .inl (E.2.1, 16, .inl u_1056))]) (wr := [(qv, .inl (E.2.1, 16, .inl z_1036))]) rfl rfl rfl (by decide) 0 2 rfl rfl rfl (k_X0_addKey E l h qk qc qv qt rd ky u_1056 (nI (1 + i_997))) (cwV 1 hts gX0_shutBlock_X0_addKey rfl rfl rfl (by decide +kernel) ⟨Nat.le_of_ble_eq_true rfl, Nat.le_of_ble_eq_true rfl⟩) rfl rfl rfl (Nat.le_of_ble_eq_true rfl) dX0_shutBlock_92 ⟨Nat.le_of_ble_eq_true rfl, Nat.le_of_ble_eq_true rfl⟩ (fun u_1060 H_1061 locs_1061 hu_1060 hP_1061 hD_1061 hS_1061 => ?_)
        replace hu_1060 : u_1060 = F_X0_addKey ky u_1056 (nI (1 + i_997)) := hu_1060
        replace hP_1061 : va_P E.1 vwCl [(qv, .inl (E.2.1, 16, .inl z_1036)), (h, .inr (2, [.ref qk, .ref qc, .ref qv, .ref qt, .int rd])), (qk, .inl (E.2.1, 240, .inl ky)), (qc, .inl (E.2.1, 16, .inl u_1060))] H_1061 := hP_1061
        replace hD_1061 : va_D A [(qv, .inl (E.2.1, 16, .inl z_1036)), (h, .inr (2, [.ref qk, .ref qc, .ref qv, .ref qt, .int rd])), (qk, .inl (E.2.1, 240, .inl ky)), (qc, .inl (E.2.1, 16, .inl u_1060))] := hD_1061
        clear hP_1057 hD_1057 hS_1057
        refine lv_iinc (v := (nI ((1 + i_997) + 1))) (lv' := [(1, .int (nI ((1 + i_997) + 1))), (2, .int 16), (0, .ref h)]) hx hb dX0_shutBlock_95 hl_1058 (k := 1) rfl (nI_add _ 1) (by decide) rfl (fun ls_1062 hl_1062 => ?_)
        clear hl_1058
        refine lv_goto (tgt := 7) hx hb dX0_shutBlock_98 (by decide) ?_
        exact ih_997 ((u_1060, z_1036) : (Nat → Int32) × (Nat → Int32)) _ _ _ (((show (B_X0_shutBlock_7 rd ky) i_997 z_997 = _ from (gLet_eq hz_1036 ((if_pos c_1040).trans (gLet_eq hu_1041 (gLet_eq hu_1046 (gLet_eq hu_1051 (gLet_eq hu_1056 (gLet_eq hu_1060 rfl)))))))).symm.trans (congrArg ((B_X0_shutBlock_7 rd ky) i_997) hz_997)).trans (itr_s _ _ _).symm) ⟨lv_sub hl_1062 [0, 2] rfl, (hP_1061.sub [0, 1, 2, 3] rfl), (hD_1061.sub [0, 1, 2, 3] (by decide) rfl), hS_1061⟩
      · replace c_1040 : ¬ (rd ≤ (nI (1 + i_997))) := c_1040
        refine lv_iconst (v := 1) hx hb dX0_shutBlock_76 (by decide) ?_
        refine lv_goto (tgt := 81) hx hb dX0_shutBlock_77 (by decide) ?_
        refine gVv hF hl_1038 hV hP_1036 hD_1036 hS_1036 hA [1, 3, 0] [2] (wc := [(h, .inr (2, [.ref qk, .ref qc, .ref qv, .ref qt, .int rd])), (qc, .inl (E.2.1, 16, .inl z_997.1)), (qv, .inl (E.2.1, 16, .inl z_1036))]) (wr := [(qk, .inl (E.2.1, 240, .inl ky))]) rfl rfl rfl (by decide) 0 2 rfl rfl rfl (k_X0_mixColumn E l h qk qc qv qt rd z_997.1 z_1036 0 1) (cwV 2 hts gX0_shutBlock_X0_mixColumn rfl rfl rfl (by decide +kernel) ⟨Nat.le_of_ble_eq_true rfl, Nat.le_of_ble_eq_true rfl⟩) rfl rfl rfl (Nat.le_of_ble_eq_true rfl) dX0_shutBlock_81 ⟨Nat.le_of_ble_eq_true rfl, Nat.le_of_ble_eq_true rfl⟩ (fun u_1063 H_1064 locs_1064 hu_1063 hP_1064 hD_1064 hS_1064 => ?_)
        replace hu_1063 : u_1063 = F_X0_mixColumn z_997.1 z_1036 0 1 := hu_1063
        replace hP_1064 : va_P E.1 vwCl [(qk, .inl (E.2.1, 240, .inl ky)), (h, .inr (2, [.ref qk, .ref qc, .ref qv, .ref qt, .int rd])), (qc, .inl (E.2.1, 16, .inl u_1063)), (qv, .inl (E.2.1, 16, .inl z_1036))] H_1064 := hP_1064
        replace hD_1064 : va_D A [(qk, .inl (E.2.1, 240, .inl ky)), (h, .inr (2, [.ref qk, .ref qc, .ref qv, .ref qt, .int rd])), (qc, .inl (E.2.1, 16, .inl u_1063)), (qv, .inl (E.2.1, 16, .inl z_1036))] := hD_1064
        clear hP_1036 hD_1036 hS_1036
        refine lv_iinc (v := 4) (lv' := [(2, .int 4), (1, .int (nI (1 + i_997))), (0, .ref h)]) hx hb dX0_shutBlock_84 hl_1038 (k := 0) rfl (by decide) (by decide) rfl (fun ls_1065 hl_1065 => ?_)
        clear hl_1038
        refine lv_goto (tgt := 60) hx hb dX0_shutBlock_87 (by decide) ?_
        refine lv_iload_n hx hb dX0_shutBlock_60 rfl (lv_at hl_1065 0 rfl) ?_
        refine lv_bipush (v := 16) hx hb dX0_shutBlock_61 (by decide) ?_
        refine lv_icmp_ge (tgt := 90) hx hb dX0_shutBlock_63 (by decide) (fun c_1066 => absurd c_1066 (by decide)) (fun c_1066 => ?_)
        refine lv_aload_n hx hb dX0_shutBlock_66 rfl (lv_at hl_1065 2 rfl) ?_
        refine lv_iload_n hx hb dX0_shutBlock_67 rfl (lv_at hl_1065 0 rfl) ?_
        refine lv_iload_n hx hb dX0_shutBlock_68 rfl (lv_at hl_1065 1 rfl) ?_
        refine lv_aload_n hx hb dX0_shutBlock_69 rfl (lv_at hl_1065 2 rfl) ?_
        refine va_get (D := E.1) (ci := 2) (v := .int rd) (C := RX0) (T := TX0) (N := 5) hx hb hts in_X0 hown hK hP_1064 1 rfl rfl 4 (by decide) w_0 (fun _ h9 => h9) rfl dX0_shutBlock_70 ?_
        refine lv_icmp_ge (tgt := 80) hx hb dX0_shutBlock_73 (by decide) (fun c_1067 => absurd c_1067 c_1040) (fun c_1067 => ?_)
        refine lv_iconst (v := 1) hx hb dX0_shutBlock_76 (by decide) ?_
        refine lv_goto (tgt := 81) hx hb dX0_shutBlock_77 (by decide) ?_
        refine gVv hF hl_1065 hV hP_1064 hD_1064 hS_1064 hA [1, 2, 3] [0] (wc := [(h, .inr (2, [.ref qk, .ref qc, .ref qv, .ref qt, .int rd])), (qc, .inl (E.2.1, 16, .inl u_1063)), (qv, .inl (E.2.1, 16, .inl z_1036))]) (wr := [(qk, .inl (E.2.1, 240, .inl ky))]) rfl rfl rfl (by decide) 0 2 rfl rfl rfl (k_X0_mixColumn E l h qk qc qv qt rd u_1063 z_1036 4 1) (cwV 2 hts gX0_shutBlock_X0_mixColumn rfl rfl rfl (by decide +kernel) ⟨Nat.le_of_ble_eq_true rfl, Nat.le_of_ble_eq_true rfl⟩) rfl rfl rfl (Nat.le_of_ble_eq_true rfl) dX0_shutBlock_81 ⟨Nat.le_of_ble_eq_true rfl, Nat.le_of_ble_eq_true rfl⟩ (fun u_1068 H_1069 locs_1069 hu_1068 hP_1069 hD_1069 hS_1069 => ?_)
        replace hu_1068 : u_1068 = F_X0_mixColumn u_1063 z_1036 4 1 := hu_1068
        replace hP_1069 : va_P E.1 vwCl [(qk, .inl (E.2.1, 240, .inl ky)), (h, .inr (2, [.ref qk, .ref qc, .ref qv, .ref qt, .int rd])), (qc, .inl (E.2.1, 16, .inl u_1068)), (qv, .inl (E.2.1, 16, .inl z_1036))] H_1069 := hP_1069
        replace hD_1069 : va_D A [(qk, .inl (E.2.1, 240, .inl ky)), (h, .inr (2, [.ref qk, .ref qc, .ref qv, .ref qt, .int rd])), (qc, .inl (E.2.1, 16, .inl u_1068)), (qv, .inl (E.2.1, 16, .inl z_1036))] := hD_1069
        clear hP_1064 hD_1064 hS_1064
        refine lv_iinc (v := 8) (lv' := [(2, .int 8), (1, .int (nI (1 + i_997))), (0, .ref h)]) hx hb dX0_shutBlock_84 hl_1065 (k := 0) rfl (by decide) (by decide) rfl (fun ls_1070 hl_1070 => ?_)
        clear hl_1065
        refine lv_goto (tgt := 60) hx hb dX0_shutBlock_87 (by decide) ?_
        refine lv_iload_n hx hb dX0_shutBlock_60 rfl (lv_at hl_1070 0 rfl) ?_
        refine lv_bipush (v := 16) hx hb dX0_shutBlock_61 (by decide) ?_
        refine lv_icmp_ge (tgt := 90) hx hb dX0_shutBlock_63 (by decide) (fun c_1071 => absurd c_1071 (by decide)) (fun c_1071 => ?_)
        refine lv_aload_n hx hb dX0_shutBlock_66 rfl (lv_at hl_1070 2 rfl) ?_
        refine lv_iload_n hx hb dX0_shutBlock_67 rfl (lv_at hl_1070 0 rfl) ?_
        refine lv_iload_n hx hb dX0_shutBlock_68 rfl (lv_at hl_1070 1 rfl) ?_
        refine lv_aload_n hx hb dX0_shutBlock_69 rfl (lv_at hl_1070 2 rfl) ?_
        refine va_get (D := E.1) (ci := 2) (v := .int rd) (C := RX0) (T := TX0) (N := 5) hx hb hts in_X0 hown hK hP_1069 1 rfl rfl 4 (by decide) w_0 (fun _ h9 => h9) rfl dX0_shutBlock_70 ?_
        refine lv_icmp_ge (tgt := 80) hx hb dX0_shutBlock_73 (by decide) (fun c_1072 => absurd c_1072 c_1040) (fun c_1072 => ?_)
        refine lv_iconst (v := 1) hx hb dX0_shutBlock_76 (by decide) ?_
        refine lv_goto (tgt := 81) hx hb dX0_shutBlock_77 (by decide) ?_
        refine gVv hF hl_1070 hV hP_1069 hD_1069 hS_1069 hA [1, 2, 3] [0] (wc := [(h, .inr (2, [.ref qk, .ref qc, .ref qv, .ref qt, .int rd])), (qc, .inl (E.2.1, 16, .inl u_1068)), (qv, .inl (E.2.1, 16, .inl z_1036))]) (wr := [(qk, .inl (E.2.1, 240, .inl ky))]) rfl rfl rfl (by decide) 0 2 rfl rfl rfl (k_X0_mixColumn E l h qk qc qv qt rd u_1068 z_1036 8 1) (cwV 2 hts gX0_shutBlock_X0_mixColumn rfl rfl rfl (by decide +kernel) ⟨Nat.le_of_ble_eq_true rfl, Nat.le_of_ble_eq_true rfl⟩) rfl rfl rfl (Nat.le_of_ble_eq_true rfl) dX0_shutBlock_81 ⟨Nat.le_of_ble_eq_true rfl, Nat.le_of_ble_eq_true rfl⟩ (fun u_1073 H_1074 locs_1074 hu_1073 hP_1074 hD_1074 hS_1074 => ?_)
        replace hu_1073 : u_1073 = F_X0_mixColumn u_1068 z_1036 8 1 := hu_1073
        replace hP_1074 : va_P E.1 vwCl [(qk, .inl (E.2.1, 240, .inl ky)), (h, .inr (2, [.ref qk, .ref qc, .ref qv, .ref qt, .int rd])), (qc, .inl (E.2.1, 16, .inl u_1073)), (qv, .inl (E.2.1, 16, .inl z_1036))] H_1074 := hP_1074
        replace hD_1074 : va_D A [(qk, .inl (E.2.1, 240, .inl ky)), (h, .inr (2, [.ref qk, .ref qc, .ref qv, .ref qt, .int rd])), (qc, .inl (E.2.1, 16, .inl u_1073)), (qv, .inl (E.2.1, 16, .inl z_1036))] := hD_1074
        clear hP_1069 hD_1069 hS_1069
        refine lv_iinc (v := 12) (lv' := [(2, .int 12), (1, .int (nI (1 + i_997))), (0, .ref h)]) hx hb dX0_shutBlock_84 hl_1070 (k := 0) rfl (by decide) (by decide) rfl (fun ls_1075 hl_1075 => ?_)
        clear hl_1070
        refine lv_goto (tgt := 60) hx hb dX0_shutBlock_87 (by decide) ?_
        refine lv_iload_n hx hb dX0_shutBlock_60 rfl (lv_at hl_1075 0 rfl) ?_
        refine lv_bipush (v := 16) hx hb dX0_shutBlock_61 (by decide) ?_
        refine lv_icmp_ge (tgt := 90) hx hb dX0_shutBlock_63 (by decide) (fun c_1076 => absurd c_1076 (by decide)) (fun c_1076 => ?_)
        refine lv_aload_n hx hb dX0_shutBlock_66 rfl (lv_at hl_1075 2 rfl) ?_
        refine lv_iload_n hx hb dX0_shutBlock_67 rfl (lv_at hl_1075 0 rfl) ?_
        refine lv_iload_n hx hb dX0_shutBlock_68 rfl (lv_at hl_1075 1 rfl) ?_
        refine lv_aload_n hx hb dX0_shutBlock_69 rfl (lv_at hl_1075 2 rfl) ?_
        refine va_get (D := E.1) (ci := 2) (v := .int rd) (C := RX0) (T := TX0) (N := 5) hx hb hts in_X0 hown hK hP_1074 1 rfl rfl 4 (by decide) w_0 (fun _ h9 => h9) rfl dX0_shutBlock_70 ?_
        refine lv_icmp_ge (tgt := 80) hx hb dX0_shutBlock_73 (by decide) (fun c_1077 => absurd c_1077 c_1040) (fun c_1077 => ?_)
        refine lv_iconst (v := 1) hx hb dX0_shutBlock_76 (by decide) ?_
        refine lv_goto (tgt := 81) hx hb dX0_shutBlock_77 (by decide) ?_
        refine gVv hF hl_1075 hV hP_1074 hD_1074 hS_1074 hA [1, 2, 3] [0] (wc := [(h, .inr (2, [.ref qk, .ref qc, .ref qv, .ref qt, .int rd])), (qc, .inl (E.2.1, 16, .inl u_1073)), (qv, .inl (E.2.1, 16, .inl z_1036))]) (wr := [(qk, .inl (E.2.1, 240, .inl ky))]) rfl rfl rfl (by decide) 0 2 rfl rfl rfl (k_X0_mixColumn E l h qk qc qv qt rd u_1073 z_1036 12 1) (cwV 2 hts gX0_shutBlock_X0_mixColumn rfl rfl rfl (by decide +kernel) ⟨Nat.le_of_ble_eq_true rfl, Nat.le_of_ble_eq_true rfl⟩) rfl rfl rfl (Nat.le_of_ble_eq_true rfl) dX0_shutBlock_81 ⟨Nat.le_of_ble_eq_true rfl, Nat.le_of_ble_eq_true rfl⟩ (fun u_1078 H_1079 locs_1079 hu_1078 hP_1079 hD_1079 hS_1079 => ?_)
        replace hu_1078 : u_1078 = F_X0_mixColumn u_1073 z_1036 12 1 := hu_1078
        replace hP_1079 : va_P E.1 vwCl [(qk, .inl (E.2.1, 240, .inl ky)), (h, .inr (2, [.ref qk, .ref qc, .ref qv, .ref qt, .int rd])), (qc, .inl (E.2.1, 16, .inl u_1078)), (qv, .inl (E.2.1, 16, .inl z_1036))] H_1079 := hP_1079
        replace hD_1079 : va_D A [(qk, .inl (E.2.1, 240, .inl ky)), (h, .inr (2, [.ref qk, .ref qc, .ref qv, .ref qt, .int rd])), (qc, .inl (E.2.1, 16, .inl u_1078)), (qv, .inl (E.2.1, 16, .inl z_1036))] := hD_1079
        clear hP_1074 hD_1074 hS_1074
        refine lv_iinc (v := 16) (lv' := [(2, .int 16), (1, .int (nI (1 + i_997))), (0, .ref h)]) hx hb dX0_shutBlock_84 hl_1075 (k := 0) rfl (by decide) (by decide) rfl (fun ls_1080 hl_1080 => ?_)
        clear hl_1075
        refine lv_goto (tgt := 60) hx hb dX0_shutBlock_87 (by decide) ?_
        refine lv_iload_n hx hb dX0_shutBlock_60 rfl (lv_at hl_1080 0 rfl) ?_
        refine lv_bipush (v := 16) hx hb dX0_shutBlock_61 (by decide) ?_
        refine lv_icmp_ge (tgt := 90) hx hb dX0_shutBlock_63 (by decide) (fun c_1081 => ?_) (fun c_1081 => absurd (by decide) c_1081)
        refine lv_aload_n hx hb dX0_shutBlock_90 rfl (lv_at hl_1080 2 rfl) ?_
        refine lv_iload_n hx hb dX0_shutBlock_91 rfl (lv_at hl_1080 1 rfl) ?_
        refine gVv hF hl_1080 hV hP_1079 hD_1079 hS_1079 hA [1, 0, 2] [3] (wc := [(h, .inr (2, [.ref qk, .ref qc, .ref qv, .ref qt, .int rd])), (qk, .inl (E.2.1, 240, .inl ky)), (qc, .inl (E.2.1, 16, .inl u_1078))]) (wr := [(qv, .inl (E.2.1, 16, .inl z_1036))]) rfl rfl rfl (by decide) 0 2 rfl rfl rfl (k_X0_addKey E l h qk qc qv qt rd ky u_1078 (nI (1 + i_997))) (cwV 1 hts gX0_shutBlock_X0_addKey rfl rfl rfl (by decide +kernel) ⟨Nat.le_of_ble_eq_true rfl, Nat.le_of_ble_eq_true rfl⟩) rfl rfl rfl (Nat.le_of_ble_eq_true rfl) dX0_shutBlock_92 ⟨Nat.le_of_ble_eq_true rfl, Nat.le_of_ble_eq_true rfl⟩ (fun u_1082 H_1083 locs_1083 hu_1082 hP_1083 hD_1083 hS_1083 => ?_)
        replace hu_1082 : u_1082 = F_X0_addKey ky u_1078 (nI (1 + i_997)) := hu_1082
        replace hP_1083 : va_P E.1 vwCl [(qv, .inl (E.2.1, 16, .inl z_1036)), (h, .inr (2, [.ref qk, .ref qc, .ref qv, .ref qt, .int rd])), (qk, .inl (E.2.1, 240, .inl ky)), (qc, .inl (E.2.1, 16, .inl u_1082))] H_1083 := hP_1083
        replace hD_1083 : va_D A [(qv, .inl (E.2.1, 16, .inl z_1036)), (h, .inr (2, [.ref qk, .ref qc, .ref qv, .ref qt, .int rd])), (qk, .inl (E.2.1, 240, .inl ky)), (qc, .inl (E.2.1, 16, .inl u_1082))] := hD_1083
        clear hP_1079 hD_1079 hS_1079
        refine lv_iinc (v := (nI ((1 + i_997) + 1))) (lv' := [(1, .int (nI ((1 + i_997) + 1))), (2, .int 16), (0, .ref h)]) hx hb dX0_shutBlock_95 hl_1080 (k := 1) rfl (nI_add _ 1) (by decide) rfl (fun ls_1084 hl_1084 => ?_)
        clear hl_1080
        refine lv_goto (tgt := 7) hx hb dX0_shutBlock_98 (by decide) ?_
        exact ih_997 ((u_1082, z_1036) : (Nat → Int32) × (Nat → Int32)) _ _ _ (((show (B_X0_shutBlock_7 rd ky) i_997 z_997 = _ from (gLet_eq hz_1036 ((if_neg c_1040).trans (gLet_eq hu_1063 (gLet_eq hu_1068 (gLet_eq hu_1073 (gLet_eq hu_1078 (gLet_eq hu_1082 rfl)))))))).symm.trans (congrArg ((B_X0_shutBlock_7 rd ky) i_997) hz_997)).trans (itr_s _ _ _).symm) ⟨lv_sub hl_1084 [0, 2] rfl, (hP_1083.sub [0, 1, 2, 3] rfl), (hD_1083.sub [0, 1, 2, 3] (by decide) rfl), hS_1083⟩
  · intro z_1085 H_1085 locs_1085 ls_1085 hz_1085 hI_1085
    obtain ⟨hl_1085, hP_1085, hD_1085, hS_1085⟩ := hI_1085
    replace hl_1085 : lv_has ls_1085 3 [(1, .int (nI (1 + rd.toNatClampNeg))), (0, .ref h)] := hl_1085
    replace hP_1085 : va_P E.1 vwCl [(qv, .inl (E.2.1, 16, .inl z_1085.2)), (h, .inr (2, [.ref qk, .ref qc, .ref qv, .ref qt, .int rd])), (qk, .inl (E.2.1, 240, .inl ky)), (qc, .inl (E.2.1, 16, .inl z_1085.1))] H_1085 := hP_1085
    replace hD_1085 : va_D A [(qv, .inl (E.2.1, 16, .inl z_1085.2)), (h, .inr (2, [.ref qk, .ref qc, .ref qv, .ref qt, .int rd])), (qk, .inl (E.2.1, 240, .inl ky)), (qc, .inl (E.2.1, 16, .inl z_1085.1))] := hD_1085
    clear hl_727 hP_726 hD_726 hS_726
    refine lv_iload_n hx hb dX0_shutBlock_7 rfl (lv_at hl_1085 0 rfl) ?_
    refine lv_aload_n hx hb dX0_shutBlock_8 rfl (lv_at hl_1085 1 rfl) ?_
    refine va_get (D := E.1) (ci := 2) (v := .int rd) (C := RX0) (T := TX0) (N := 5) hx hb hts in_X0 hown hK hP_1085 1 rfl rfl 4 (by decide) w_0 (fun _ h9 => h9) rfl dX0_shutBlock_9 ?_
    refine lv_icmp_gt (tgt := 101) hx hb dX0_shutBlock_12 (by decide) (fun c_1086 => ?_) (fun c_1086 => (by have c_1086 := (not_congr (g_rlt (by omega) (by omega))).mp c_1086; exfalso; omega))
    replace c_1086 : rd.toNatClampNeg < 1 + rd.toNatClampNeg := (g_rlt (by omega) (by omega)).mp c_1086
    have hpost : ((z_1085.1, z_1085.2) : (Nat → Int32) × (Nat → Int32)) = F_X0_shutBlock rd ky cl mv := (show F_X0_shutBlock rd ky cl mv = ((z_1085.1, z_1085.2) : (Nat → Int32) × (Nat → Int32)) from (gLet_eq hu_725 (gLet_eq hz_1085 rfl))).symm
    have hP9 := hP_1085.sub (ws' := [(h, .inr (2, [.ref qk, .ref qc, .ref qv, .ref qt, .int rd])), (qk, .inl (E.2.1, 240, .inl ky)), (qc, .inl (E.2.1, 16, .inl z_1085.1)), (qv, .inl (E.2.1, 16, .inl z_1085.2))]) [1, 2, 3, 0] rfl
    have hD9 := hD_1085.sub (ws' := [(h, .inr (2, [.ref qk, .ref qc, .ref qv, .ref qt, .int rd])), (qk, .inl (E.2.1, 240, .inl ky)), (qc, .inl (E.2.1, 16, .inl z_1085.1)), (qv, .inl (E.2.1, 16, .inl z_1085.2))]) [1, 2, 3, 0] (by decide) rfl
    exact W.vret hx hb hr (fun t ht hW => ⟨⟨(z_1085.1, z_1085.2), rfl, hpost, by rw [ht]; exact hP9, hD9⟩, hS_1085.F ht⟩) hS_1085.2.2 dX0_shutBlock_101
set_option maxHeartbeats 4000000 in
set_option maxRecDepth 100000 in
theorem k_X0_openBlock (E : gE) (l : Launch) (h qk qc qv qt : Nat) (rd : Int32) (ky : Nat → Int32) (cl : Nat → Int32) (mv : Nat → Int32) (hrd : rd.toNatClampNeg ≤ 14) (hrd0 : ¬ rd < 0) : gMv E l yX0_openBlock wsX0_openBlock ({ frames := 2, cells := 0, slots := 0, locals := 50 }) 0 0 [.ref h] [(h, .inr (2, [.ref qk, .ref qc, .ref qv, .ref qt, .int rd])), (qk, .inl (E.2.1, 240, .inl ky)), (qc, .inl (E.2.1, 16, .inl cl)), (qv, .inl (E.2.1, 16, .inl mv))] (fun (uu : (Nat → Int32) × (Nat → Int32)) => uu = F_X0_openBlock rd ky cl mv) (fun (uu : (Nat → Int32) × (Nat → Int32)) => [(h, .inr (2, [.ref qk, .ref qc, .ref qv, .ref qt, .int rd])), (qk, .inl (E.2.1, 240, .inl ky)), (qc, .inl (E.2.1, 16, .inl uu.1)), (qv, .inl (E.2.1, 16, .inl uu.2))]) := by
  intro sz
  refine Met.ofW (cc := cX0_openBlock) (maxL := 3) (ret := none) (by decide) rfl ?_
  intro p e s m args below meth c s₁ B hml hv
  obtain ⟨rfl, hsz, hP, hV, hD0⟩ := hv
  have hx := B.exec
  have hb := B.bytes
  have hr := B.returns
  have hts := atoms_spec (ws := wsX0_openBlock) B.pre
  have hown : s.vm.findClass RX0 = some m.cls := findClass_of_methodNamed B.named
  have hlocks := B.notSynchronized
  subst hsz
  have hD := hD0.self (sz := s.heap.size)
  clear hD0
  generalize hAe : va_A [(h, .inr (2, [.ref qk, .ref qc, .ref qv, .ref qt, .int rd])), (qk, .inl (E.2.1, 240, .inl ky)), (qc, .inl (E.2.1, 16, .inl cl)), (qv, .inl (E.2.1, 16, .inl mv))] s.heap.size = A at hD hV ⊢
  have hA : ∀ q : Nat, s.heap.size ≤ q → A q := fun q h => by rw [← hAe]; exact Or.inr h
  have hS : va_S A s.heap s.heap [] := va_S.rf
  have hK := hV.1
  have hF : CallFix p m c cX0_openBlock 3 s _ wsX0_openBlock RX0 := ⟨hx, hb, hml, hown, hts⟩
  have hl := lv_entry [.ref h] (n := 3) (Nat.le_of_ble_eq_true rfl)
  rw [lg_entry_eq]
  generalize (lg_sl [.ref h] ++ List.replicate (3 - (lg_sl [.ref h]).length) Slot.unset).toArray = ls at hl ⊢
  have hl : lv_has ls 3 [(0, .ref h)] := hl
  have in_X0 : ∀ w ∈ wsX00, w ∈ wsX0_openBlock := by decide +kernel
  have w_0 := hts (.fieldLink RX0 46 "CryptRows$Blocks" "rounds" "I") (by decide +kernel)
  have w_1 := hts (.fieldLink RX0 13 "CryptRows$Blocks" "cells" "[I") (by decide +kernel)
  have w_2 := hts (.fieldLink RX0 73 "CryptRows$Blocks" "ORIGINALS" "[I") (by decide +kernel)
  have w_3 := hts (.fieldLink RX0 16 "CryptRows$Blocks" "moved" "[I") (by decide +kernel)
  refine lv_aload_n hx hb dX0_openBlock_0 rfl (lv_at hl 0 rfl) ?_
  refine va_get (D := E.1) (ci := 2) (v := .int rd) (C := RX0) (T := TX0) (N := 5) hx hb hts in_X0 hown hK hP 0 rfl rfl 4 (by decide) w_0 (fun _ h9 => h9) rfl dX0_openBlock_1 ?_
  refine lv_istore_n (lv' := [(1, .int rd), (0, .ref h)]) hx hb dX0_openBlock_4 rfl hl (by decide) rfl (fun ls_955 hl_955 => ?_)
  clear hl
  replace hl_955 : lv_has ls_955 3 [(1, .int (nI (rd.toNatClampNeg))), (0, .ref h)] := by rw [← (g_nat hrd0)]; exact hl_955
  refine g_down (N := rd.toNatClampNeg) (B_X0_openBlock_5 ky rd) ((cl, mv) : (Nat → Int32) × (Nat → Int32)) (Inv := fun i_0 z_1310 H_0 locs_0 ls_0 => lv_has ls_0 3 [(1, .int (nI i_0)), (0, .ref h)] ∧ va_P E.1 vwCl [(h, .inr (2, [.ref qk, .ref qc, .ref qv, .ref qt, .int rd])), (qk, .inl (E.2.1, 240, .inl ky)), (qc, .inl (E.2.1, 16, .inl z_1310.1)), (qv, .inl (E.2.1, 16, .inl z_1310.2))] H_0 ∧ va_D A [(h, .inr (2, [.ref qk, .ref qc, .ref qv, .ref qt, .int rd])), (qk, .inl (E.2.1, 240, .inl ky)), (qc, .inl (E.2.1, 16, .inl z_1310.1)), (qv, .inl (E.2.1, 16, .inl z_1310.2))] ∧ va_S A s.heap H_0 locs_0) (G := fun H_0 locs_0 ls_0 => W _ _ _ _ _ _ _ _ _ _ H_0 locs_0 _ _ _ (F0 _ 5 ls_0 [])) ?_ ?_ ⟨lv_sub hl_955 [0, 1] rfl, hP, hD, hS⟩
  · intro j_1311 z_1311 H_1311 locs_1311 ls_1311 hij_1311 hz_1311 hI_1311 ih_1311
    obtain ⟨hl_1311, hP_1311, hD_1311, hS_1311⟩ := hI_1311
    replace hl_1311 : lv_has ls_1311 3 [(1, .int (nI (j_1311 + 1))), (0, .ref h)] := hl_1311
    replace hP_1311 : va_P E.1 vwCl [(h, .inr (2, [.ref qk, .ref qc, .ref qv, .ref qt, .int rd])), (qk, .inl (E.2.1, 240, .inl ky)), (qc, .inl (E.2.1, 16, .inl z_1311.1)), (qv, .inl (E.2.1, 16, .inl z_1311.2))] H_1311 := hP_1311
    replace hD_1311 : va_D A [(h, .inr (2, [.ref qk, .ref qc, .ref qv, .ref qt, .int rd])), (qk, .inl (E.2.1, 240, .inl ky)), (qc, .inl (E.2.1, 16, .inl z_1311.1)), (qv, .inl (E.2.1, 16, .inl z_1311.2))] := hD_1311
    clear hl_955 hP hD hS
    refine lv_iload_n hx hb dX0_openBlock_5 rfl (lv_at hl_1311 0 rfl) ?_
    refine lv_if_le (tgt := 95) hx hb dX0_openBlock_6 (by decide) (fun c_1312 => (by have c_1312 := (nI_leI (a := j_1311 + 1) (b := 0) (by omega) (by omega)).mp c_1312; exfalso; omega)) (fun c_1312 => ?_)
    replace c_1312 : ¬ j_1311 + 1 ≤ 0 := (not_congr (nI_leI (a := j_1311 + 1) (b := 0) (by omega) (by omega))).mp c_1312
    refine lv_aload_n hx hb dX0_openBlock_9 rfl (lv_at hl_1311 1 rfl) ?_
    refine lv_iload_n hx hb dX0_openBlock_10 rfl (lv_at hl_1311 0 rfl) ?_
    refine gVv hF hl_1311 hV hP_1311 hD_1311 hS_1311 hA [0, 1, 2] [3] (wc := [(h, .inr (2, [.ref qk, .ref qc, .ref qv, .ref qt, .int rd])), (qk, .inl (E.2.1, 240, .inl ky)), (qc, .inl (E.2.1, 16, .inl z_1311.1))]) (wr := [(qv, .inl (E.2.1, 16, .inl z_1311.2))]) rfl rfl rfl (by decide) 0 2 rfl rfl rfl (k_X0_addKey E l h qk qc qv qt rd ky z_1311.1 (nI (j_1311 + 1))) (cwV 1 hts gX0_openBlock_X0_addKey rfl rfl rfl (by decide +kernel) ⟨Nat.le_of_ble_eq_true rfl, Nat.le_of_ble_eq_true rfl⟩) rfl rfl rfl (Nat.le_of_ble_eq_true rfl) dX0_openBlock_11 ⟨Nat.le_of_ble_eq_true rfl, Nat.le_of_ble_eq_true rfl⟩ (fun u_1313 H_1314 locs_1314 hu_1313 hP_1314 hD_1314 hS_1314 => ?_)
    replace hu_1313 : u_1313 = F_X0_addKey ky z_1311.1 (nI (j_1311 + 1)) := hu_1313
    replace hP_1314 : va_P E.1 vwCl [(qv, .inl (E.2.1, 16, .inl z_1311.2)), (h, .inr (2, [.ref qk, .ref qc, .ref qv, .ref qt, .int rd])), (qk, .inl (E.2.1, 240, .inl ky)), (qc, .inl (E.2.1, 16, .inl u_1313))] H_1314 := hP_1314
    replace hD_1314 : va_D A [(qv, .inl (E.2.1, 16, .inl z_1311.2)), (h, .inr (2, [.ref qk, .ref qc, .ref qv, .ref qt, .int rd])), (qk, .inl (E.2.1, 240, .inl ky)), (qc, .inl (E.2.1, 16, .inl u_1313))] := hD_1314
    clear hP_1311 hD_1311 hS_1311
    refine lv_iconst (v := 0) hx hb dX0_openBlock_14 (by decide) ?_
    refine lv_istore_n (lv' := [(2, .int 0), (1, .int (nI (j_1311 + 1))), (0, .ref h)]) hx hb dX0_openBlock_15 rfl hl_1311 (by decide) rfl (fun ls_1315 hl_1315 => ?_)
    clear hl_1311
    refine lv_iload_n hx hb dX0_openBlock_16 rfl (lv_at hl_1315 0 rfl) ?_
    refine lv_bipush (v := 16) hx hb dX0_openBlock_17 (by decide) ?_
    refine lv_icmp_ge (tgt := 46) hx hb dX0_openBlock_19 (by decide) (fun c_1316 => absurd c_1316 (by decide)) (fun c_1316 => ?_)
    refine lv_aload_n hx hb dX0_openBlock_22 rfl (lv_at hl_1315 2 rfl) ?_
    refine lv_iload_n hx hb dX0_openBlock_23 rfl (lv_at hl_1315 0 rfl) ?_
    refine lv_iload_n hx hb dX0_openBlock_24 rfl (lv_at hl_1315 1 rfl) ?_
    refine lv_aload_n hx hb dX0_openBlock_25 rfl (lv_at hl_1315 2 rfl) ?_
    refine va_get (D := E.1) (ci := 2) (v := .int rd) (C := RX0) (T := TX0) (N := 5) hx hb hts in_X0 hown hK hP_1314 1 rfl rfl 4 (by decide) w_0 (fun _ h9 => h9) rfl dX0_openBlock_26 ?_
    refine lv_icmp_ge (tgt := 36) hx hb dX0_openBlock_29 (by decide) (fun c_1317 => ?_) (fun c_1317 => ?_)
    · replace c_1317 : rd ≤ (nI (j_1311 + 1)) := c_1317
      refine lv_iconst (v := 0) hx hb dX0_openBlock_36 (by decide) ?_
      refine gVv hF hl_1315 hV hP_1314 hD_1314 hS_1314 hA [1, 3, 0] [2] (wc := [(h, .inr (2, [.ref qk, .ref qc, .ref qv, .ref qt, .int rd])), (qc, .inl (E.2.1, 16, .inl u_1313)), (qv, .inl (E.2.1, 16, .inl z_1311.2))]) (wr := [(qk, .inl (E.2.1, 240, .inl ky))]) rfl rfl rfl (by decide) 0 2 rfl rfl rfl (k_X0_unmixColumn E l h qk qc qv qt rd u_1313 z_1311.2 0 0) (cwV 2 hts gX0_openBlock_X0_unmixColumn rfl rfl rfl (by decide +kernel) ⟨Nat.le_of_ble_eq_true rfl, Nat.le_of_ble_eq_true rfl⟩) rfl rfl rfl (Nat.le_of_ble_eq_true rfl) dX0_openBlock_37 ⟨Nat.le_of_ble_eq_true rfl, Nat.le_of_ble_eq_true rfl⟩ (fun u_1318 H_1319 locs_1319 hu_1318 hP_1319 hD_1319 hS_1319 => ?_)
      replace hu_1318 : u_1318 = F_X0_unmixColumn u_1313 z_1311.2 0 0 := hu_1318
      replace hP_1319 : va_P E.1 vwCl [(qk, .inl (E.2.1, 240, .inl ky)), (h, .inr (2, [.ref qk, .ref qc, .ref qv, .ref qt, .int rd])), (qc, .inl (E.2.1, 16, .inl u_1313)), (qv, .inl (E.2.1, 16, .inl u_1318))] H_1319 := hP_1319
      replace hD_1319 : va_D A [(qk, .inl (E.2.1, 240, .inl ky)), (h, .inr (2, [.ref qk, .ref qc, .ref qv, .ref qt, .int rd])), (qc, .inl (E.2.1, 16, .inl u_1313)), (qv, .inl (E.2.1, 16, .inl u_1318))] := hD_1319
      clear hP_1314 hD_1314 hS_1314
      refine lv_iinc (v := 4) (lv' := [(2, .int 4), (1, .int (nI (j_1311 + 1))), (0, .ref h)]) hx hb dX0_openBlock_40 hl_1315 (k := 0) rfl (by decide) (by decide) rfl (fun ls_1320 hl_1320 => ?_)
      clear hl_1315
      refine lv_goto (tgt := 16) hx hb dX0_openBlock_43 (by decide) ?_
      refine lv_iload_n hx hb dX0_openBlock_16 rfl (lv_at hl_1320 0 rfl) ?_
      refine lv_bipush (v := 16) hx hb dX0_openBlock_17 (by decide) ?_
      refine lv_icmp_ge (tgt := 46) hx hb dX0_openBlock_19 (by decide) (fun c_1321 => absurd c_1321 (by decide)) (fun c_1321 => ?_)
      refine lv_aload_n hx hb dX0_openBlock_22 rfl (lv_at hl_1320 2 rfl) ?_
      refine lv_iload_n hx hb dX0_openBlock_23 rfl (lv_at hl_1320 0 rfl) ?_
      refine lv_iload_n hx hb dX0_openBlock_24 rfl (lv_at hl_1320 1 rfl) ?_
      refine lv_aload_n hx hb dX0_openBlock_25 rfl (lv_at hl_1320 2 rfl) ?_
      refine va_get (D := E.1) (ci := 2) (v := .int rd) (C := RX0) (T := TX0) (N := 5) hx hb hts in_X0 hown hK hP_1319 1 rfl rfl 4 (by decide) w_0 (fun _ h9 => h9) rfl dX0_openBlock_26 ?_
      refine lv_icmp_ge (tgt := 36) hx hb dX0_openBlock_29 (by decide) (fun c_1322 => ?_) (fun c_1322 => absurd c_1317 c_1322)
      refine lv_iconst (v := 0) hx hb dX0_openBlock_36 (by decide) ?_
      refine gVv hF hl_1320 hV hP_1319 hD_1319 hS_1319 hA [1, 2, 3] [0] (wc := [(h, .inr (2, [.ref qk, .ref qc, .ref qv, .ref qt, .int rd])), (qc, .inl (E.2.1, 16, .inl u_1313)), (qv, .inl (E.2.1, 16, .inl u_1318))]) (wr := [(qk, .inl (E.2.1, 240, .inl ky))]) rfl rfl rfl (by decide) 0 2 rfl rfl rfl (k_X0_unmixColumn E l h qk qc qv qt rd u_1313 u_1318 4 0) (cwV 2 hts gX0_openBlock_X0_unmixColumn rfl rfl rfl (by decide +kernel) ⟨Nat.le_of_ble_eq_true rfl, Nat.le_of_ble_eq_true rfl⟩) rfl rfl rfl (Nat.le_of_ble_eq_true rfl) dX0_openBlock_37 ⟨Nat.le_of_ble_eq_true rfl, Nat.le_of_ble_eq_true rfl⟩ (fun u_1323 H_1324 locs_1324 hu_1323 hP_1324 hD_1324 hS_1324 => ?_)
      replace hu_1323 : u_1323 = F_X0_unmixColumn u_1313 u_1318 4 0 := hu_1323
      replace hP_1324 : va_P E.1 vwCl [(qk, .inl (E.2.1, 240, .inl ky)), (h, .inr (2, [.ref qk, .ref qc, .ref qv, .ref qt, .int rd])), (qc, .inl (E.2.1, 16, .inl u_1313)), (qv, .inl (E.2.1, 16, .inl u_1323))] H_1324 := hP_1324
      replace hD_1324 : va_D A [(qk, .inl (E.2.1, 240, .inl ky)), (h, .inr (2, [.ref qk, .ref qc, .ref qv, .ref qt, .int rd])), (qc, .inl (E.2.1, 16, .inl u_1313)), (qv, .inl (E.2.1, 16, .inl u_1323))] := hD_1324
      clear hP_1319 hD_1319 hS_1319
      refine lv_iinc (v := 8) (lv' := [(2, .int 8), (1, .int (nI (j_1311 + 1))), (0, .ref h)]) hx hb dX0_openBlock_40 hl_1320 (k := 0) rfl (by decide) (by decide) rfl (fun ls_1325 hl_1325 => ?_)
      clear hl_1320
      refine lv_goto (tgt := 16) hx hb dX0_openBlock_43 (by decide) ?_
      refine lv_iload_n hx hb dX0_openBlock_16 rfl (lv_at hl_1325 0 rfl) ?_
      refine lv_bipush (v := 16) hx hb dX0_openBlock_17 (by decide) ?_
      refine lv_icmp_ge (tgt := 46) hx hb dX0_openBlock_19 (by decide) (fun c_1326 => absurd c_1326 (by decide)) (fun c_1326 => ?_)
      refine lv_aload_n hx hb dX0_openBlock_22 rfl (lv_at hl_1325 2 rfl) ?_
      refine lv_iload_n hx hb dX0_openBlock_23 rfl (lv_at hl_1325 0 rfl) ?_
      refine lv_iload_n hx hb dX0_openBlock_24 rfl (lv_at hl_1325 1 rfl) ?_
      refine lv_aload_n hx hb dX0_openBlock_25 rfl (lv_at hl_1325 2 rfl) ?_
      refine va_get (D := E.1) (ci := 2) (v := .int rd) (C := RX0) (T := TX0) (N := 5) hx hb hts in_X0 hown hK hP_1324 1 rfl rfl 4 (by decide) w_0 (fun _ h9 => h9) rfl dX0_openBlock_26 ?_
      refine lv_icmp_ge (tgt := 36) hx hb dX0_openBlock_29 (by decide) (fun c_1327 => ?_) (fun c_1327 => absurd c_1317 c_1327)
      refine lv_iconst (v := 0) hx hb dX0_openBlock_36 (by decide) ?_
      refine gVv hF hl_1325 hV hP_1324 hD_1324 hS_1324 hA [1, 2, 3] [0] (wc := [(h, .inr (2, [.ref qk, .ref qc, .ref qv, .ref qt, .int rd])), (qc, .inl (E.2.1, 16, .inl u_1313)), (qv, .inl (E.2.1, 16, .inl u_1323))]) (wr := [(qk, .inl (E.2.1, 240, .inl ky))]) rfl rfl rfl (by decide) 0 2 rfl rfl rfl (k_X0_unmixColumn E l h qk qc qv qt rd u_1313 u_1323 8 0) (cwV 2 hts gX0_openBlock_X0_unmixColumn rfl rfl rfl (by decide +kernel) ⟨Nat.le_of_ble_eq_true rfl, Nat.le_of_ble_eq_true rfl⟩) rfl rfl rfl (Nat.le_of_ble_eq_true rfl) dX0_openBlock_37 ⟨Nat.le_of_ble_eq_true rfl, Nat.le_of_ble_eq_true rfl⟩ (fun u_1328 H_1329 locs_1329 hu_1328 hP_1329 hD_1329 hS_1329 => ?_)
      replace hu_1328 : u_1328 = F_X0_unmixColumn u_1313 u_1323 8 0 := hu_1328
      replace hP_1329 : va_P E.1 vwCl [(qk, .inl (E.2.1, 240, .inl ky)), (h, .inr (2, [.ref qk, .ref qc, .ref qv, .ref qt, .int rd])), (qc, .inl (E.2.1, 16, .inl u_1313)), (qv, .inl (E.2.1, 16, .inl u_1328))] H_1329 := hP_1329
      replace hD_1329 : va_D A [(qk, .inl (E.2.1, 240, .inl ky)), (h, .inr (2, [.ref qk, .ref qc, .ref qv, .ref qt, .int rd])), (qc, .inl (E.2.1, 16, .inl u_1313)), (qv, .inl (E.2.1, 16, .inl u_1328))] := hD_1329
      clear hP_1324 hD_1324 hS_1324
      refine lv_iinc (v := 12) (lv' := [(2, .int 12), (1, .int (nI (j_1311 + 1))), (0, .ref h)]) hx hb dX0_openBlock_40 hl_1325 (k := 0) rfl (by decide) (by decide) rfl (fun ls_1330 hl_1330 => ?_)
      clear hl_1325
      refine lv_goto (tgt := 16) hx hb dX0_openBlock_43 (by decide) ?_
      refine lv_iload_n hx hb dX0_openBlock_16 rfl (lv_at hl_1330 0 rfl) ?_
      refine lv_bipush (v := 16) hx hb dX0_openBlock_17 (by decide) ?_
      refine lv_icmp_ge (tgt := 46) hx hb dX0_openBlock_19 (by decide) (fun c_1331 => absurd c_1331 (by decide)) (fun c_1331 => ?_)
      refine lv_aload_n hx hb dX0_openBlock_22 rfl (lv_at hl_1330 2 rfl) ?_
      refine lv_iload_n hx hb dX0_openBlock_23 rfl (lv_at hl_1330 0 rfl) ?_
      refine lv_iload_n hx hb dX0_openBlock_24 rfl (lv_at hl_1330 1 rfl) ?_
      refine lv_aload_n hx hb dX0_openBlock_25 rfl (lv_at hl_1330 2 rfl) ?_
      refine va_get (D := E.1) (ci := 2) (v := .int rd) (C := RX0) (T := TX0) (N := 5) hx hb hts in_X0 hown hK hP_1329 1 rfl rfl 4 (by decide) w_0 (fun _ h9 => h9) rfl dX0_openBlock_26 ?_
      refine lv_icmp_ge (tgt := 36) hx hb dX0_openBlock_29 (by decide) (fun c_1332 => ?_) (fun c_1332 => absurd c_1317 c_1332)
      refine lv_iconst (v := 0) hx hb dX0_openBlock_36 (by decide) ?_
      refine gVv hF hl_1330 hV hP_1329 hD_1329 hS_1329 hA [1, 2, 3] [0] (wc := [(h, .inr (2, [.ref qk, .ref qc, .ref qv, .ref qt, .int rd])), (qc, .inl (E.2.1, 16, .inl u_1313)), (qv, .inl (E.2.1, 16, .inl u_1328))]) (wr := [(qk, .inl (E.2.1, 240, .inl ky))]) rfl rfl rfl (by decide) 0 2 rfl rfl rfl (k_X0_unmixColumn E l h qk qc qv qt rd u_1313 u_1328 12 0) (cwV 2 hts gX0_openBlock_X0_unmixColumn rfl rfl rfl (by decide +kernel) ⟨Nat.le_of_ble_eq_true rfl, Nat.le_of_ble_eq_true rfl⟩) rfl rfl rfl (Nat.le_of_ble_eq_true rfl) dX0_openBlock_37 ⟨Nat.le_of_ble_eq_true rfl, Nat.le_of_ble_eq_true rfl⟩ (fun u_1333 H_1334 locs_1334 hu_1333 hP_1334 hD_1334 hS_1334 => ?_)
      replace hu_1333 : u_1333 = F_X0_unmixColumn u_1313 u_1328 12 0 := hu_1333
      replace hP_1334 : va_P E.1 vwCl [(qk, .inl (E.2.1, 240, .inl ky)), (h, .inr (2, [.ref qk, .ref qc, .ref qv, .ref qt, .int rd])), (qc, .inl (E.2.1, 16, .inl u_1313)), (qv, .inl (E.2.1, 16, .inl u_1333))] H_1334 := hP_1334
      replace hD_1334 : va_D A [(qk, .inl (E.2.1, 240, .inl ky)), (h, .inr (2, [.ref qk, .ref qc, .ref qv, .ref qt, .int rd])), (qc, .inl (E.2.1, 16, .inl u_1313)), (qv, .inl (E.2.1, 16, .inl u_1333))] := hD_1334
      clear hP_1329 hD_1329 hS_1329
      refine lv_iinc (v := 16) (lv' := [(2, .int 16), (1, .int (nI (j_1311 + 1))), (0, .ref h)]) hx hb dX0_openBlock_40 hl_1330 (k := 0) rfl (by decide) (by decide) rfl (fun ls_1335 hl_1335 => ?_)
      clear hl_1330
      refine lv_goto (tgt := 16) hx hb dX0_openBlock_43 (by decide) ?_
      refine lv_iload_n hx hb dX0_openBlock_16 rfl (lv_at hl_1335 0 rfl) ?_
      refine lv_bipush (v := 16) hx hb dX0_openBlock_17 (by decide) ?_
      refine lv_icmp_ge (tgt := 46) hx hb dX0_openBlock_19 (by decide) (fun c_1336 => ?_) (fun c_1336 => absurd (by decide) c_1336)
      refine lv_iconst (v := 0) hx hb dX0_openBlock_46 (by decide) ?_
      refine lv_istore_n (lv' := [(2, .int 0), (1, .int (nI (j_1311 + 1))), (0, .ref h)]) hx hb dX0_openBlock_47 rfl hl_1335 (by decide) rfl (fun ls_1337 hl_1337 => ?_)
      clear hl_1335
      refine g_up (N := 16) (B_X0_openBlock_48_t u_1333) (u_1313 : Nat → Int32) (Inv := fun i_0 z_1362 H_0 locs_0 ls_0 => lv_has ls_0 3 [(2, .int (nI i_0)), (1, .int (nI (j_1311 + 1))), (0, .ref h)] ∧ va_P E.1 vwCl [(qk, .inl (E.2.1, 240, .inl ky)), (h, .inr (2, [.ref qk, .ref qc, .ref qv, .ref qt, .int rd])), (qc, .inl (E.2.1, 16, .inl z_1362)), (qv, .inl (E.2.1, 16, .inl u_1333))] H_0 ∧ va_D A [(qk, .inl (E.2.1, 240, .inl ky)), (h, .inr (2, [.ref qk, .ref qc, .ref qv, .ref qt, .int rd])), (qc, .inl (E.2.1, 16, .inl z_1362)), (qv, .inl (E.2.1, 16, .inl u_1333))] ∧ va_S A s.heap H_0 locs_0) (G := fun H_0 locs_0 ls_0 => W _ _ _ _ _ _ _ _ _ _ H_0 locs_0 _ _ _ (F0 _ 48 ls_0 [])) ?_ ?_ ⟨lv_sub hl_1337 [0, 1, 2] rfl, hP_1334, hD_1334, hS_1334⟩
      · intro j_1363 i_1363 z_1363 H_1363 locs_1363 ls_1363 hij_1363 hz_1363 hI_1363 ih_1363
        obtain ⟨hl_1363, hP_1363, hD_1363, hS_1363⟩ := hI_1363
        replace hl_1363 : lv_has ls_1363 3 [(2, .int (nI i_1363)), (1, .int (nI (j_1311 + 1))), (0, .ref h)] := hl_1363
        replace hP_1363 : va_P E.1 vwCl [(qk, .inl (E.2.1, 240, .inl ky)), (h, .inr (2, [.ref qk, .ref qc, .ref qv, .ref qt, .int rd])), (qc, .inl (E.2.1, 16, .inl z_1363)), (qv, .inl (E.2.1, 16, .inl u_1333))] H_1363 := hP_1363
        replace hD_1363 : va_D A [(qk, .inl (E.2.1, 240, .inl ky)), (h, .inr (2, [.ref qk, .ref qc, .ref qv, .ref qt, .int rd])), (qc, .inl (E.2.1, 16, .inl z_1363)), (qv, .inl (E.2.1, 16, .inl u_1333))] := hD_1363
        clear hl_1337 hP_1334 hD_1334 hS_1334
        refine lv_iload_n hx hb dX0_openBlock_48 rfl (lv_at hl_1363 0 rfl) ?_
        refine lv_bipush (v := 16) hx hb dX0_openBlock_49 (by decide) ?_
        refine lv_icmp_ge (tgt := 89) hx hb dX0_openBlock_51 (by decide) (fun c_1364 => (by have c_1364 := (nI_leI (a := 16) (b := i_1363) (by omega) (by omega)).mp c_1364; exfalso; omega)) (fun c_1364 => ?_)
        replace c_1364 : ¬ 16 ≤ i_1363 := (not_congr (nI_leI (a := 16) (b := i_1363) (by omega) (by omega))).mp c_1364
        refine lv_aload_n hx hb dX0_openBlock_54 rfl (lv_at hl_1363 2 rfl) ?_
        refine va_get (D := E.1) (ci := 2) (v := .ref qc) (C := RX0) (T := TX0) (N := 5) hx hb hts in_X0 hown hK hP_1363 1 rfl rfl 1 (by decide) w_1 (fun _ h9 => h9) rfl dX0_openBlock_55 ?_
        refine lv_iload_n hx hb dX0_openBlock_58 rfl (lv_at hl_1363 0 rfl) ?_
        refine va_gets (v := .ref (E.2.2.2 6)) hx hb (hV.2.2 6 (by decide)).1 hS_1363 hown w_2 (fun _ h9 => h9) dX0_openBlock_59 ?_
        refine lv_aload_n hx hb dX0_openBlock_62 rfl (lv_at hl_1363 2 rfl) ?_
        refine va_get (D := E.1) (ci := 2) (v := .ref qv) (C := RX0) (T := TX0) (N := 5) hx hb hts in_X0 hown hK hP_1363 1 rfl rfl 2 (by decide) w_3 (fun _ h9 => h9) rfl dX0_openBlock_63 ?_
        refine lv_iload_n hx hb dX0_openBlock_66 rfl (lv_at hl_1363 0 rfl) ?_
        refine lv_iconst (v := 4) hx hb dX0_openBlock_67 (by decide) ?_
        refine lv_iload_n hx hb dX0_openBlock_68 rfl (lv_at hl_1363 0 rfl) ?_
        refine lv_iconst (v := 3) hx hb dX0_openBlock_69 (by decide) ?_
        refine lv_iand hx hb dX0_openBlock_70 ?_
        refine lv_topi (fun y_1365 ey_1365 => ?_)
        obtain rfl : y_1365 = (nI (i_1363 % 4)) := ey_1365.trans (pk_andN (n := i_1363) (by omega) 2 (by decide))
        refine lv_imul hx hb dX0_openBlock_71 ?_
        refine lv_topi (fun y_1366 ey_1366 => ?_)
        obtain rfl : y_1366 = (nI (4 * (i_1363 % 4))) := ey_1366.trans (pk_mul _ _)
        refine lv_isub hx hb dX0_openBlock_72 ?_
        refine lv_bipush (v := 15) hx hb dX0_openBlock_73 (by decide) ?_
        refine lv_iand hx hb dX0_openBlock_75 ?_
        refine va_iald hx hb hK hP_1363 3 0 rfl rfl (pk_andIn _ 4 (by decide) (by decide)) dX0_openBlock_76 ?_
        refine lv_sipush (v := 255) hx hb dX0_openBlock_77 (by decide) ?_
        refine lv_iand hx hb dX0_openBlock_80 ?_
        refine lv_topi (fun v_1367 ev_1367 => ?_)
        refine va_ti (v := .int (gTf 6 v_1367.toNatClampNeg)) hx hb (hV.2.2 6 (by decide)).2 hS_1363 (by rw [ev_1367]; exact pk_andIn _ 8 (by decide) (by decide)) rfl dX0_openBlock_81 ?_
        refine g_iast (e0 := i_1363) hx hb hK hP_1363 hD_1363 hS_1363 2 0 rfl rfl (by omega) (by omega) dX0_openBlock_82 (fun H_1368 locs_1368 hP_1368 hD_1368 hS_1368 => ?_)
        replace hP_1368 : va_P E.1 vwCl [(qk, .inl (E.2.1, 240, .inl ky)), (h, .inr (2, [.ref qk, .ref qc, .ref qv, .ref qt, .int rd])), (qc, .inl (E.2.1, 16, .inl (upd z_1363 i_1363 (gTf 6 v_1367.toNatClampNeg)))), (qv, .inl (E.2.1, 16, .inl u_1333))] H_1368 := hP_1368
        replace hD_1368 : va_D A [(qk, .inl (E.2.1, 240, .inl ky)), (h, .inr (2, [.ref qk, .ref qc, .ref qv, .ref qt, .int rd])), (qc, .inl (E.2.1, 16, .inl (upd z_1363 i_1363 (gTf 6 v_1367.toNatClampNeg)))), (qv, .inl (E.2.1, 16, .inl u_1333))] := hD_1368
        clear hP_1363 hD_1363 hS_1363
        refine lv_iinc (v := (nI (i_1363 + 1))) (lv' := [(2, .int (nI (i_1363 + 1))), (1, .int (nI (j_1311 + 1))), (0, .ref h)]) hx hb dX0_openBlock_83 hl_1363 (k := 0) rfl (nI_add _ 1) (by decide) rfl (fun ls_1369 hl_1369 => ?_)
        clear hl_1363
        refine lv_goto (tgt := 48) hx hb dX0_openBlock_86 (by decide) ?_
        exact ih_1363 ((upd z_1363 i_1363 (gTf 6 v_1367.toNatClampNeg)) : Nat → Int32) _ _ _ (((show (B_X0_openBlock_48_t u_1333) i_1363 z_1363 = _ from (gLet_eq ev_1367 rfl)).symm.trans (congrArg ((B_X0_openBlock_48_t u_1333) i_1363) hz_1363)).trans (itr_s _ _ _).symm) ⟨lv_sub hl_1369 [0, 1, 2] rfl, (hP_1368.sub [0, 1, 2, 3] rfl), (hD_1368.sub [0, 1, 2, 3] (by decide) rfl), hS_1368⟩
      · intro z_1370 H_1370 locs_1370 ls_1370 hz_1370 hI_1370
        obtain ⟨hl_1370, hP_1370, hD_1370, hS_1370⟩ := hI_1370
        replace hl_1370 : lv_has ls_1370 3 [(2, .int (nI 16)), (1, .int (nI (j_1311 + 1))), (0, .ref h)] := hl_1370
        replace hP_1370 : va_P E.1 vwCl [(qk, .inl (E.2.1, 240, .inl ky)), (h, .inr (2, [.ref qk, .ref qc, .ref qv, .ref qt, .int rd])), (qc, .inl (E.2.1, 16, .inl z_1370)), (qv, .inl (E.2.1, 16, .inl u_1333))] H_1370 := hP_1370
        replace hD_1370 : va_D A [(qk, .inl (E.2.1, 240, .inl ky)), (h, .inr (2, [.ref qk, .ref qc, .ref qv, .ref qt, .int rd])), (qc, .inl (E.2.1, 16, .inl z_1370)), (qv, .inl (E.2.1, 16, .inl u_1333))] := hD_1370
        clear hl_1337 hP_1334 hD_1334 hS_1334
        refine lv_iload_n hx hb dX0_openBlock_48 rfl (lv_at hl_1370 0 rfl) ?_
        refine lv_bipush (v := 16) hx hb dX0_openBlock_49 (by decide) ?_
        refine lv_icmp_ge (tgt := 89) hx hb dX0_openBlock_51 (by decide) (fun c_1371 => ?_) (fun c_1371 => (by have c_1371 := (not_congr (nI_leI (a := 16) (b := 16) (by omega) (by omega))).mp c_1371; exfalso; omega))
        replace c_1371 : 16 ≤ 16 := (nI_leI (a := 16) (b := 16) (by omega) (by omega)).mp c_1371
        refine lv_iinc (v := (nI j_1311)) (lv' := [(1, .int (nI j_1311)), (2, .int (nI 16)), (0, .ref h)]) hx hb dX0_openBlock_89 hl_1370 (k := 1) rfl (g_dec1 _) (by decide) rfl (fun ls_1372 hl_1372 => ?_)
        clear hl_1370
        refine lv_goto (tgt := 5) hx hb dX0_openBlock_92 (by decide) ?_
        exact ih_1311 ((z_1370, u_1333) : (Nat → Int32) × (Nat → Int32)) _ _ _ ((congrArg (itd (B_X0_openBlock_5 ky rd) j_1311) (show (B_X0_openBlock_5 ky rd) j_1311 z_1311 = _ from (gLet_eq hu_1313 ((if_pos c_1317).trans (gLet_eq hu_1318 (gLet_eq hu_1323 (gLet_eq hu_1328 (gLet_eq hu_1333 (gLet_eq hz_1370 rfl))))))))).symm.trans ((itd_s _ _ _).symm.trans hz_1311)) ⟨lv_sub hl_1372 [0, 2] rfl, (hP_1370.sub [1, 0, 2, 3] rfl), (hD_1370.sub [1, 0, 2, 3] (by decide) rfl), hS_1370⟩
    · replace c_1317 : ¬ (rd ≤ (nI (j_1311 + 1))) := c_1317
      refine lv_iconst (v := 1) hx hb dX0_openBlock_32 (by decide) ?_
      refine lv_goto (tgt := 37) hx hb dX0_openBlock_33 (by decide) ?_
      refine gVv hF hl_1315 hV hP_1314 hD_1314 hS_1314 hA [1, 3, 0] [2] (wc := [(h, .inr (2, [.ref qk, .ref qc, .ref qv, .ref qt, .int rd])), (qc, .inl (E.2.1, 16, .inl u_1313)), (qv, .inl (E.2.1, 16, .inl z_1311.2))]) (wr := [(qk, .inl (E.2.1, 240, .inl ky))]) rfl rfl rfl (by decide) 0 2 rfl rfl rfl (k_X0_unmixColumn E l h qk qc qv qt rd u_1313 z_1311.2 0 1) (cwV 2 hts gX0_openBlock_X0_unmixColumn rfl rfl rfl (by decide +kernel) ⟨Nat.le_of_ble_eq_true rfl, Nat.le_of_ble_eq_true rfl⟩) rfl rfl rfl (Nat.le_of_ble_eq_true rfl) dX0_openBlock_37 ⟨Nat.le_of_ble_eq_true rfl, Nat.le_of_ble_eq_true rfl⟩ (fun u_1373 H_1374 locs_1374 hu_1373 hP_1374 hD_1374 hS_1374 => ?_)
      replace hu_1373 : u_1373 = F_X0_unmixColumn u_1313 z_1311.2 0 1 := hu_1373
      replace hP_1374 : va_P E.1 vwCl [(qk, .inl (E.2.1, 240, .inl ky)), (h, .inr (2, [.ref qk, .ref qc, .ref qv, .ref qt, .int rd])), (qc, .inl (E.2.1, 16, .inl u_1313)), (qv, .inl (E.2.1, 16, .inl u_1373))] H_1374 := hP_1374
      replace hD_1374 : va_D A [(qk, .inl (E.2.1, 240, .inl ky)), (h, .inr (2, [.ref qk, .ref qc, .ref qv, .ref qt, .int rd])), (qc, .inl (E.2.1, 16, .inl u_1313)), (qv, .inl (E.2.1, 16, .inl u_1373))] := hD_1374
      clear hP_1314 hD_1314 hS_1314
      refine lv_iinc (v := 4) (lv' := [(2, .int 4), (1, .int (nI (j_1311 + 1))), (0, .ref h)]) hx hb dX0_openBlock_40 hl_1315 (k := 0) rfl (by decide) (by decide) rfl (fun ls_1375 hl_1375 => ?_)
      clear hl_1315
      refine lv_goto (tgt := 16) hx hb dX0_openBlock_43 (by decide) ?_
      refine lv_iload_n hx hb dX0_openBlock_16 rfl (lv_at hl_1375 0 rfl) ?_
      refine lv_bipush (v := 16) hx hb dX0_openBlock_17 (by decide) ?_
      refine lv_icmp_ge (tgt := 46) hx hb dX0_openBlock_19 (by decide) (fun c_1376 => absurd c_1376 (by decide)) (fun c_1376 => ?_)
      refine lv_aload_n hx hb dX0_openBlock_22 rfl (lv_at hl_1375 2 rfl) ?_
      refine lv_iload_n hx hb dX0_openBlock_23 rfl (lv_at hl_1375 0 rfl) ?_
      refine lv_iload_n hx hb dX0_openBlock_24 rfl (lv_at hl_1375 1 rfl) ?_
      refine lv_aload_n hx hb dX0_openBlock_25 rfl (lv_at hl_1375 2 rfl) ?_
      refine va_get (D := E.1) (ci := 2) (v := .int rd) (C := RX0) (T := TX0) (N := 5) hx hb hts in_X0 hown hK hP_1374 1 rfl rfl 4 (by decide) w_0 (fun _ h9 => h9) rfl dX0_openBlock_26 ?_
      refine lv_icmp_ge (tgt := 36) hx hb dX0_openBlock_29 (by decide) (fun c_1377 => absurd c_1377 c_1317) (fun c_1377 => ?_)
      refine lv_iconst (v := 1) hx hb dX0_openBlock_32 (by decide) ?_
      refine lv_goto (tgt := 37) hx hb dX0_openBlock_33 (by decide) ?_
      refine gVv hF hl_1375 hV hP_1374 hD_1374 hS_1374 hA [1, 2, 3] [0] (wc := [(h, .inr (2, [.ref qk, .ref qc, .ref qv, .ref qt, .int rd])), (qc, .inl (E.2.1, 16, .inl u_1313)), (qv, .inl (E.2.1, 16, .inl u_1373))]) (wr := [(qk, .inl (E.2.1, 240, .inl ky))]) rfl rfl rfl (by decide) 0 2 rfl rfl rfl (k_X0_unmixColumn E l h qk qc qv qt rd u_1313 u_1373 4 1) (cwV 2 hts gX0_openBlock_X0_unmixColumn rfl rfl rfl (by decide +kernel) ⟨Nat.le_of_ble_eq_true rfl, Nat.le_of_ble_eq_true rfl⟩) rfl rfl rfl (Nat.le_of_ble_eq_true rfl) dX0_openBlock_37 ⟨Nat.le_of_ble_eq_true rfl, Nat.le_of_ble_eq_true rfl⟩ (fun u_1378 H_1379 locs_1379 hu_1378 hP_1379 hD_1379 hS_1379 => ?_)
      replace hu_1378 : u_1378 = F_X0_unmixColumn u_1313 u_1373 4 1 := hu_1378
      replace hP_1379 : va_P E.1 vwCl [(qk, .inl (E.2.1, 240, .inl ky)), (h, .inr (2, [.ref qk, .ref qc, .ref qv, .ref qt, .int rd])), (qc, .inl (E.2.1, 16, .inl u_1313)), (qv, .inl (E.2.1, 16, .inl u_1378))] H_1379 := hP_1379
      replace hD_1379 : va_D A [(qk, .inl (E.2.1, 240, .inl ky)), (h, .inr (2, [.ref qk, .ref qc, .ref qv, .ref qt, .int rd])), (qc, .inl (E.2.1, 16, .inl u_1313)), (qv, .inl (E.2.1, 16, .inl u_1378))] := hD_1379
      clear hP_1374 hD_1374 hS_1374
      refine lv_iinc (v := 8) (lv' := [(2, .int 8), (1, .int (nI (j_1311 + 1))), (0, .ref h)]) hx hb dX0_openBlock_40 hl_1375 (k := 0) rfl (by decide) (by decide) rfl (fun ls_1380 hl_1380 => ?_)
      clear hl_1375
      refine lv_goto (tgt := 16) hx hb dX0_openBlock_43 (by decide) ?_
      refine lv_iload_n hx hb dX0_openBlock_16 rfl (lv_at hl_1380 0 rfl) ?_
      refine lv_bipush (v := 16) hx hb dX0_openBlock_17 (by decide) ?_
      refine lv_icmp_ge (tgt := 46) hx hb dX0_openBlock_19 (by decide) (fun c_1381 => absurd c_1381 (by decide)) (fun c_1381 => ?_)
      refine lv_aload_n hx hb dX0_openBlock_22 rfl (lv_at hl_1380 2 rfl) ?_
      refine lv_iload_n hx hb dX0_openBlock_23 rfl (lv_at hl_1380 0 rfl) ?_
      refine lv_iload_n hx hb dX0_openBlock_24 rfl (lv_at hl_1380 1 rfl) ?_
      refine lv_aload_n hx hb dX0_openBlock_25 rfl (lv_at hl_1380 2 rfl) ?_
      refine va_get (D := E.1) (ci := 2) (v := .int rd) (C := RX0) (T := TX0) (N := 5) hx hb hts in_X0 hown hK hP_1379 1 rfl rfl 4 (by decide) w_0 (fun _ h9 => h9) rfl dX0_openBlock_26 ?_
      refine lv_icmp_ge (tgt := 36) hx hb dX0_openBlock_29 (by decide) (fun c_1382 => absurd c_1382 c_1317) (fun c_1382 => ?_)
      refine lv_iconst (v := 1) hx hb dX0_openBlock_32 (by decide) ?_
      refine lv_goto (tgt := 37) hx hb dX0_openBlock_33 (by decide) ?_
      refine gVv hF hl_1380 hV hP_1379 hD_1379 hS_1379 hA [1, 2, 3] [0] (wc := [(h, .inr (2, [.ref qk, .ref qc, .ref qv, .ref qt, .int rd])), (qc, .inl (E.2.1, 16, .inl u_1313)), (qv, .inl (E.2.1, 16, .inl u_1378))]) (wr := [(qk, .inl (E.2.1, 240, .inl ky))]) rfl rfl rfl (by decide) 0 2 rfl rfl rfl (k_X0_unmixColumn E l h qk qc qv qt rd u_1313 u_1378 8 1) (cwV 2 hts gX0_openBlock_X0_unmixColumn rfl rfl rfl (by decide +kernel) ⟨Nat.le_of_ble_eq_true rfl, Nat.le_of_ble_eq_true rfl⟩) rfl rfl rfl (Nat.le_of_ble_eq_true rfl) dX0_openBlock_37 ⟨Nat.le_of_ble_eq_true rfl, Nat.le_of_ble_eq_true rfl⟩ (fun u_1383 H_1384 locs_1384 hu_1383 hP_1384 hD_1384 hS_1384 => ?_)
      replace hu_1383 : u_1383 = F_X0_unmixColumn u_1313 u_1378 8 1 := hu_1383
      replace hP_1384 : va_P E.1 vwCl [(qk, .inl (E.2.1, 240, .inl ky)), (h, .inr (2, [.ref qk, .ref qc, .ref qv, .ref qt, .int rd])), (qc, .inl (E.2.1, 16, .inl u_1313)), (qv, .inl (E.2.1, 16, .inl u_1383))] H_1384 := hP_1384
      replace hD_1384 : va_D A [(qk, .inl (E.2.1, 240, .inl ky)), (h, .inr (2, [.ref qk, .ref qc, .ref qv, .ref qt, .int rd])), (qc, .inl (E.2.1, 16, .inl u_1313)), (qv, .inl (E.2.1, 16, .inl u_1383))] := hD_1384
      clear hP_1379 hD_1379 hS_1379
      refine lv_iinc (v := 12) (lv' := [(2, .int 12), (1, .int (nI (j_1311 + 1))), (0, .ref h)]) hx hb dX0_openBlock_40 hl_1380 (k := 0) rfl (by decide) (by decide) rfl (fun ls_1385 hl_1385 => ?_)
      clear hl_1380
      refine lv_goto (tgt := 16) hx hb dX0_openBlock_43 (by decide) ?_
      refine lv_iload_n hx hb dX0_openBlock_16 rfl (lv_at hl_1385 0 rfl) ?_
      refine lv_bipush (v := 16) hx hb dX0_openBlock_17 (by decide) ?_
      refine lv_icmp_ge (tgt := 46) hx hb dX0_openBlock_19 (by decide) (fun c_1386 => absurd c_1386 (by decide)) (fun c_1386 => ?_)
      refine lv_aload_n hx hb dX0_openBlock_22 rfl (lv_at hl_1385 2 rfl) ?_
      refine lv_iload_n hx hb dX0_openBlock_23 rfl (lv_at hl_1385 0 rfl) ?_
      refine lv_iload_n hx hb dX0_openBlock_24 rfl (lv_at hl_1385 1 rfl) ?_
      refine lv_aload_n hx hb dX0_openBlock_25 rfl (lv_at hl_1385 2 rfl) ?_
      refine va_get (D := E.1) (ci := 2) (v := .int rd) (C := RX0) (T := TX0) (N := 5) hx hb hts in_X0 hown hK hP_1384 1 rfl rfl 4 (by decide) w_0 (fun _ h9 => h9) rfl dX0_openBlock_26 ?_
      refine lv_icmp_ge (tgt := 36) hx hb dX0_openBlock_29 (by decide) (fun c_1387 => absurd c_1387 c_1317) (fun c_1387 => ?_)
      refine lv_iconst (v := 1) hx hb dX0_openBlock_32 (by decide) ?_
      refine lv_goto (tgt := 37) hx hb dX0_openBlock_33 (by decide) ?_
      refine gVv hF hl_1385 hV hP_1384 hD_1384 hS_1384 hA [1, 2, 3] [0] (wc := [(h, .inr (2, [.ref qk, .ref qc, .ref qv, .ref qt, .int rd])), (qc, .inl (E.2.1, 16, .inl u_1313)), (qv, .inl (E.2.1, 16, .inl u_1383))]) (wr := [(qk, .inl (E.2.1, 240, .inl ky))]) rfl rfl rfl (by decide) 0 2 rfl rfl rfl (k_X0_unmixColumn E l h qk qc qv qt rd u_1313 u_1383 12 1) (cwV 2 hts gX0_openBlock_X0_unmixColumn rfl rfl rfl (by decide +kernel) ⟨Nat.le_of_ble_eq_true rfl, Nat.le_of_ble_eq_true rfl⟩) rfl rfl rfl (Nat.le_of_ble_eq_true rfl) dX0_openBlock_37 ⟨Nat.le_of_ble_eq_true rfl, Nat.le_of_ble_eq_true rfl⟩ (fun u_1388 H_1389 locs_1389 hu_1388 hP_1389 hD_1389 hS_1389 => ?_)
      replace hu_1388 : u_1388 = F_X0_unmixColumn u_1313 u_1383 12 1 := hu_1388
      replace hP_1389 : va_P E.1 vwCl [(qk, .inl (E.2.1, 240, .inl ky)), (h, .inr (2, [.ref qk, .ref qc, .ref qv, .ref qt, .int rd])), (qc, .inl (E.2.1, 16, .inl u_1313)), (qv, .inl (E.2.1, 16, .inl u_1388))] H_1389 := hP_1389
      replace hD_1389 : va_D A [(qk, .inl (E.2.1, 240, .inl ky)), (h, .inr (2, [.ref qk, .ref qc, .ref qv, .ref qt, .int rd])), (qc, .inl (E.2.1, 16, .inl u_1313)), (qv, .inl (E.2.1, 16, .inl u_1388))] := hD_1389
      clear hP_1384 hD_1384 hS_1384
      refine lv_iinc (v := 16) (lv' := [(2, .int 16), (1, .int (nI (j_1311 + 1))), (0, .ref h)]) hx hb dX0_openBlock_40 hl_1385 (k := 0) rfl (by decide) (by decide) rfl (fun ls_1390 hl_1390 => ?_)
      clear hl_1385
      refine lv_goto (tgt := 16) hx hb dX0_openBlock_43 (by decide) ?_
      refine lv_iload_n hx hb dX0_openBlock_16 rfl (lv_at hl_1390 0 rfl) ?_
      refine lv_bipush (v := 16) hx hb dX0_openBlock_17 (by decide) ?_
      refine lv_icmp_ge (tgt := 46) hx hb dX0_openBlock_19 (by decide) (fun c_1391 => ?_) (fun c_1391 => absurd (by decide) c_1391)
      refine lv_iconst (v := 0) hx hb dX0_openBlock_46 (by decide) ?_
      refine lv_istore_n (lv' := [(2, .int 0), (1, .int (nI (j_1311 + 1))), (0, .ref h)]) hx hb dX0_openBlock_47 rfl hl_1390 (by decide) rfl (fun ls_1392 hl_1392 => ?_)
      clear hl_1390
      refine g_up (N := 16) (B_X0_openBlock_48_f u_1388) (u_1313 : Nat → Int32) (Inv := fun i_0 z_1417 H_0 locs_0 ls_0 => lv_has ls_0 3 [(2, .int (nI i_0)), (1, .int (nI (j_1311 + 1))), (0, .ref h)] ∧ va_P E.1 vwCl [(qk, .inl (E.2.1, 240, .inl ky)), (h, .inr (2, [.ref qk, .ref qc, .ref qv, .ref qt, .int rd])), (qc, .inl (E.2.1, 16, .inl z_1417)), (qv, .inl (E.2.1, 16, .inl u_1388))] H_0 ∧ va_D A [(qk, .inl (E.2.1, 240, .inl ky)), (h, .inr (2, [.ref qk, .ref qc, .ref qv, .ref qt, .int rd])), (qc, .inl (E.2.1, 16, .inl z_1417)), (qv, .inl (E.2.1, 16, .inl u_1388))] ∧ va_S A s.heap H_0 locs_0) (G := fun H_0 locs_0 ls_0 => W _ _ _ _ _ _ _ _ _ _ H_0 locs_0 _ _ _ (F0 _ 48 ls_0 [])) ?_ ?_ ⟨lv_sub hl_1392 [0, 1, 2] rfl, hP_1389, hD_1389, hS_1389⟩
      · intro j_1418 i_1418 z_1418 H_1418 locs_1418 ls_1418 hij_1418 hz_1418 hI_1418 ih_1418
        obtain ⟨hl_1418, hP_1418, hD_1418, hS_1418⟩ := hI_1418
        replace hl_1418 : lv_has ls_1418 3 [(2, .int (nI i_1418)), (1, .int (nI (j_1311 + 1))), (0, .ref h)] := hl_1418
        replace hP_1418 : va_P E.1 vwCl [(qk, .inl (E.2.1, 240, .inl ky)), (h, .inr (2, [.ref qk, .ref qc, .ref qv, .ref qt, .int rd])), (qc, .inl (E.2.1, 16, .inl z_1418)), (qv, .inl (E.2.1, 16, .inl u_1388))] H_1418 := hP_1418
        replace hD_1418 : va_D A [(qk, .inl (E.2.1, 240, .inl ky)), (h, .inr (2, [.ref qk, .ref qc, .ref qv, .ref qt, .int rd])), (qc, .inl (E.2.1, 16, .inl z_1418)), (qv, .inl (E.2.1, 16, .inl u_1388))] := hD_1418
        clear hl_1392 hP_1389 hD_1389 hS_1389
        refine lv_iload_n hx hb dX0_openBlock_48 rfl (lv_at hl_1418 0 rfl) ?_
        refine lv_bipush (v := 16) hx hb dX0_openBlock_49 (by decide) ?_
        refine lv_icmp_ge (tgt := 89) hx hb dX0_openBlock_51 (by decide) (fun c_1419 => (by have c_1419 := (nI_leI (a := 16) (b := i_1418) (by omega) (by omega)).mp c_1419; exfalso; omega)) (fun c_1419 => ?_)
        replace c_1419 : ¬ 16 ≤ i_1418 := (not_congr (nI_leI (a := 16) (b := i_1418) (by omega) (by omega))).mp c_1419
        refine lv_aload_n hx hb dX0_openBlock_54 rfl (lv_at hl_1418 2 rfl) ?_
        refine va_get (D := E.1) (ci := 2) (v := .ref qc) (C := RX0) (T := TX0) (N := 5) hx hb hts in_X0 hown hK hP_1418 1 rfl rfl 1 (by decide) w_1 (fun _ h9 => h9) rfl dX0_openBlock_55 ?_
        refine lv_iload_n hx hb dX0_openBlock_58 rfl (lv_at hl_1418 0 rfl) ?_
        refine va_gets (v := .ref (E.2.2.2 6)) hx hb (hV.2.2 6 (by decide)).1 hS_1418 hown w_2 (fun _ h9 => h9) dX0_openBlock_59 ?_
        refine lv_aload_n hx hb dX0_openBlock_62 rfl (lv_at hl_1418 2 rfl) ?_
        refine va_get (D := E.1) (ci := 2) (v := .ref qv) (C := RX0) (T := TX0) (N := 5) hx hb hts in_X0 hown hK hP_1418 1 rfl rfl 2 (by decide) w_3 (fun _ h9 => h9) rfl dX0_openBlock_63 ?_
        refine lv_iload_n hx hb dX0_openBlock_66 rfl (lv_at hl_1418 0 rfl) ?_
        refine lv_iconst (v := 4) hx hb dX0_openBlock_67 (by decide) ?_
        refine lv_iload_n hx hb dX0_openBlock_68 rfl (lv_at hl_1418 0 rfl) ?_
        refine lv_iconst (v := 3) hx hb dX0_openBlock_69 (by decide) ?_
        refine lv_iand hx hb dX0_openBlock_70 ?_
        refine lv_topi (fun y_1420 ey_1420 => ?_)
        obtain rfl : y_1420 = (nI (i_1418 % 4)) := ey_1420.trans (pk_andN (n := i_1418) (by omega) 2 (by decide))
        refine lv_imul hx hb dX0_openBlock_71 ?_
        refine lv_topi (fun y_1421 ey_1421 => ?_)
        obtain rfl : y_1421 = (nI (4 * (i_1418 % 4))) := ey_1421.trans (pk_mul _ _)
        refine lv_isub hx hb dX0_openBlock_72 ?_
        refine lv_bipush (v := 15) hx hb dX0_openBlock_73 (by decide) ?_
        refine lv_iand hx hb dX0_openBlock_75 ?_
        refine va_iald hx hb hK hP_1418 3 0 rfl rfl (pk_andIn _ 4 (by decide) (by decide)) dX0_openBlock_76 ?_
        refine lv_sipush (v := 255) hx hb dX0_openBlock_77 (by decide) ?_
        refine lv_iand hx hb dX0_openBlock_80 ?_
        refine lv_topi (fun v_1422 ev_1422 => ?_)
        refine va_ti (v := .int (gTf 6 v_1422.toNatClampNeg)) hx hb (hV.2.2 6 (by decide)).2 hS_1418 (by rw [ev_1422]; exact pk_andIn _ 8 (by decide) (by decide)) rfl dX0_openBlock_81 ?_
        refine g_iast (e0 := i_1418) hx hb hK hP_1418 hD_1418 hS_1418 2 0 rfl rfl (by omega) (by omega) dX0_openBlock_82 (fun H_1423 locs_1423 hP_1423 hD_1423 hS_1423 => ?_)
        replace hP_1423 : va_P E.1 vwCl [(qk, .inl (E.2.1, 240, .inl ky)), (h, .inr (2, [.ref qk, .ref qc, .ref qv, .ref qt, .int rd])), (qc, .inl (E.2.1, 16, .inl (upd z_1418 i_1418 (gTf 6 v_1422.toNatClampNeg)))), (qv, .inl (E.2.1, 16, .inl u_1388))] H_1423 := hP_1423
        replace hD_1423 : va_D A [(qk, .inl (E.2.1, 240, .inl ky)), (h, .inr (2, [.ref qk, .ref qc, .ref qv, .ref qt, .int rd])), (qc, .inl (E.2.1, 16, .inl (upd z_1418 i_1418 (gTf 6 v_1422.toNatClampNeg)))), (qv, .inl (E.2.1, 16, .inl u_1388))] := hD_1423
        clear hP_1418 hD_1418 hS_1418
        refine lv_iinc (v := (nI (i_1418 + 1))) (lv' := [(2, .int (nI (i_1418 + 1))), (1, .int (nI (j_1311 + 1))), (0, .ref h)]) hx hb dX0_openBlock_83 hl_1418 (k := 0) rfl (nI_add _ 1) (by decide) rfl (fun ls_1424 hl_1424 => ?_)
        clear hl_1418
        refine lv_goto (tgt := 48) hx hb dX0_openBlock_86 (by decide) ?_
        exact ih_1418 ((upd z_1418 i_1418 (gTf 6 v_1422.toNatClampNeg)) : Nat → Int32) _ _ _ (((show (B_X0_openBlock_48_f u_1388) i_1418 z_1418 = _ from (gLet_eq ev_1422 rfl)).symm.trans (congrArg ((B_X0_openBlock_48_f u_1388) i_1418) hz_1418)).trans (itr_s _ _ _).symm) ⟨lv_sub hl_1424 [0, 1, 2] rfl, (hP_1423.sub [0, 1, 2, 3] rfl), (hD_1423.sub [0, 1, 2, 3] (by decide) rfl), hS_1423⟩
      · intro z_1425 H_1425 locs_1425 ls_1425 hz_1425 hI_1425
        obtain ⟨hl_1425, hP_1425, hD_1425, hS_1425⟩ := hI_1425
        replace hl_1425 : lv_has ls_1425 3 [(2, .int (nI 16)), (1, .int (nI (j_1311 + 1))), (0, .ref h)] := hl_1425
        replace hP_1425 : va_P E.1 vwCl [(qk, .inl (E.2.1, 240, .inl ky)), (h, .inr (2, [.ref qk, .ref qc, .ref qv, .ref qt, .int rd])), (qc, .inl (E.2.1, 16, .inl z_1425)), (qv, .inl (E.2.1, 16, .inl u_1388))] H_1425 := hP_1425
        replace hD_1425 : va_D A [(qk, .inl (E.2.1, 240, .inl ky)), (h, .inr (2, [.ref qk, .ref qc, .ref qv, .ref qt, .int rd])), (qc, .inl (E.2.1, 16, .inl z_1425)), (qv, .inl (E.2.1, 16, .inl u_1388))] := hD_1425
        clear hl_1392 hP_1389 hD_1389 hS_1389
        refine lv_iload_n hx hb dX0_openBlock_48 rfl (lv_at hl_1425 0 rfl) ?_
        refine lv_bipush (v := 16) hx hb dX0_openBlock_49 (by decide) ?_
        refine lv_icmp_ge (tgt := 89) hx hb dX0_openBlock_51 (by decide) (fun c_1426 => ?_) (fun c_1426 => (by have c_1426 := (not_congr (nI_leI (a := 16) (b := 16) (by omega) (by omega))).mp c_1426; exfalso; omega))
        replace c_1426 : 16 ≤ 16 := (nI_leI (a := 16) (b := 16) (by omega) (by omega)).mp c_1426
        refine lv_iinc (v := (nI j_1311)) (lv' := [(1, .int (nI j_1311)), (2, .int (nI 16)), (0, .ref h)]) hx hb dX0_openBlock_89 hl_1425 (k := 1) rfl (g_dec1 _) (by decide) rfl (fun ls_1427 hl_1427 => ?_)
        clear hl_1425
        refine lv_goto (tgt := 5) hx hb dX0_openBlock_92 (by decide) ?_
        exact ih_1311 ((z_1425, u_1388) : (Nat → Int32) × (Nat → Int32)) _ _ _ ((congrArg (itd (B_X0_openBlock_5 ky rd) j_1311) (show (B_X0_openBlock_5 ky rd) j_1311 z_1311 = _ from (gLet_eq hu_1313 ((if_neg c_1317).trans (gLet_eq hu_1373 (gLet_eq hu_1378 (gLet_eq hu_1383 (gLet_eq hu_1388 (gLet_eq hz_1425 rfl))))))))).symm.trans ((itd_s _ _ _).symm.trans hz_1311)) ⟨lv_sub hl_1427 [0, 2] rfl, (hP_1425.sub [1, 0, 2, 3] rfl), (hD_1425.sub [1, 0, 2, 3] (by decide) rfl), hS_1425⟩
  · intro z_1428 H_1428 locs_1428 ls_1428 hz_1428 hI_1428
    obtain ⟨hl_1428, hP_1428, hD_1428, hS_1428⟩ := hI_1428
    replace hl_1428 : lv_has ls_1428 3 [(1, .int 0), (0, .ref h)] := hl_1428
    replace hP_1428 : va_P E.1 vwCl [(h, .inr (2, [.ref qk, .ref qc, .ref qv, .ref qt, .int rd])), (qk, .inl (E.2.1, 240, .inl ky)), (qc, .inl (E.2.1, 16, .inl z_1428.1)), (qv, .inl (E.2.1, 16, .inl z_1428.2))] H_1428 := hP_1428
    replace hD_1428 : va_D A [(h, .inr (2, [.ref qk, .ref qc, .ref qv, .ref qt, .int rd])), (qk, .inl (E.2.1, 240, .inl ky)), (qc, .inl (E.2.1, 16, .inl z_1428.1)), (qv, .inl (E.2.1, 16, .inl z_1428.2))] := hD_1428
    clear hl_955 hP hD hS
    refine lv_iload_n hx hb dX0_openBlock_5 rfl (lv_at hl_1428 0 rfl) ?_
    refine lv_if_le (tgt := 95) hx hb dX0_openBlock_6 (by decide) (fun c_1429 => ?_) (fun c_1429 => absurd (by decide) c_1429)
    refine lv_aload_n hx hb dX0_openBlock_95 rfl (lv_at hl_1428 1 rfl) ?_
    refine lv_iconst (v := 0) hx hb dX0_openBlock_96 (by decide) ?_
    refine gVv hF hl_1428 hV hP_1428 hD_1428 hS_1428 hA [0, 1, 2] [3] (wc := [(h, .inr (2, [.ref qk, .ref qc, .ref qv, .ref qt, .int rd])), (qk, .inl (E.2.1, 240, .inl ky)), (qc, .inl (E.2.1, 16, .inl z_1428.1))]) (wr := [(qv, .inl (E.2.1, 16, .inl z_1428.2))]) rfl rfl rfl (by decide) 0 2 rfl rfl rfl (k_X0_addKey E l h qk qc qv qt rd ky z_1428.1 0) (cwV 1 hts gX0_openBlock_X0_addKey rfl rfl rfl (by decide +kernel) ⟨Nat.le_of_ble_eq_true rfl, Nat.le_of_ble_eq_true rfl⟩) rfl rfl rfl (Nat.le_of_ble_eq_true rfl) dX0_openBlock_97 ⟨Nat.le_of_ble_eq_true rfl, Nat.le_of_ble_eq_true rfl⟩ (fun u_1430 H_1431 locs_1431 hu_1430 hP_1431 hD_1431 hS_1431 => ?_)
    replace hu_1430 : u_1430 = F_X0_addKey ky z_1428.1 0 := hu_1430
    replace hP_1431 : va_P E.1 vwCl [(qv, .inl (E.2.1, 16, .inl z_1428.2)), (h, .inr (2, [.ref qk, .ref qc, .ref qv, .ref qt, .int rd])), (qk, .inl (E.2.1, 240, .inl ky)), (qc, .inl (E.2.1, 16, .inl u_1430))] H_1431 := hP_1431
    replace hD_1431 : va_D A [(qv, .inl (E.2.1, 16, .inl z_1428.2)), (h, .inr (2, [.ref qk, .ref qc, .ref qv, .ref qt, .int rd])), (qk, .inl (E.2.1, 240, .inl ky)), (qc, .inl (E.2.1, 16, .inl u_1430))] := hD_1431
    clear hP_1428 hD_1428 hS_1428
    have hpost : ((u_1430, z_1428.2) : (Nat → Int32) × (Nat → Int32)) = F_X0_openBlock rd ky cl mv := (show F_X0_openBlock rd ky cl mv = ((u_1430, z_1428.2) : (Nat → Int32) × (Nat → Int32)) from (gLet_eq hz_1428 (gLet_eq hu_1430 rfl))).symm
    have hP9 := hP_1431.sub (ws' := [(h, .inr (2, [.ref qk, .ref qc, .ref qv, .ref qt, .int rd])), (qk, .inl (E.2.1, 240, .inl ky)), (qc, .inl (E.2.1, 16, .inl u_1430)), (qv, .inl (E.2.1, 16, .inl z_1428.2))]) [1, 2, 3, 0] rfl
    have hD9 := hD_1431.sub (ws' := [(h, .inr (2, [.ref qk, .ref qc, .ref qv, .ref qt, .int rd])), (qk, .inl (E.2.1, 240, .inl ky)), (qc, .inl (E.2.1, 16, .inl u_1430)), (qv, .inl (E.2.1, 16, .inl z_1428.2))]) [1, 2, 3, 0] (by decide) rfl
    exact W.vret hx hb hr (fun t ht hW => ⟨⟨(u_1430, z_1428.2), rfl, hpost, by rw [ht]; exact hP9, hD9⟩, hS_1431.F ht⟩) hS_1431.2.2 dX0_openBlock_100
set_option maxHeartbeats 4000000 in
set_option maxRecDepth 100000 in
theorem k_X0_spreadKey (E : gE) (l : Launch) (h h2 qk qc qv qt a2 : Nat) (n2 : Nat) (rd : Int32) (ky : Nat → Int32) (la : Nat → Int32) (q : gRow) (hn2 : n2 < 2147483648) : gMv E l yX0_spreadKey wsX0_spreadKey ({ frames := 2, cells := 0, slots := 0, locals := 43 }) 0 0 [.ref h, .ref h2] [(h, .inr (2, [.ref qk, .ref qc, .ref qv, .ref qt, .int rd])), (qk, .inl (E.2.1, 240, .inl ky)), (qt, .inl (E.2.1, 4, .inl la)), (h2, .inr (6, [.ref a2, .int q.1])), (a2, .inl (E.2.1, n2, .inl q.2))] (fun (uu : Int32 × (Nat → Int32) × (Nat → Int32)) => uu = F_X0_spreadKey n2 ky la q) (fun (uu : Int32 × (Nat → Int32) × (Nat → Int32)) => [(h, .inr (2, [.ref qk, .ref qc, .ref qv, .ref qt, .int uu.1])), (qk, .inl (E.2.1, 240, .inl uu.2.1)), (qt, .inl (E.2.1, 4, .inl uu.2.2)), (h2, .inr (6, [.ref a2, .int q.1])), (a2, .inl (E.2.1, n2, .inl q.2))]) := by
  intro sz
  refine Met.ofW (cc := cX0_spreadKey) (maxL := 7) (ret := none) (by decide) rfl ?_
  intro p e s m args below meth c s₁ B hml hv
  obtain ⟨rfl, hsz, hP, hV, hD0⟩ := hv
  have hx := B.exec
  have hb := B.bytes
  have hr := B.returns
  have hts := atoms_spec (ws := wsX0_spreadKey) B.pre
  have hown : s.vm.findClass RX0 = some m.cls := findClass_of_methodNamed B.named
  have hlocks := B.notSynchronized
  subst hsz
  have hD := hD0.self (sz := s.heap.size)
  clear hD0
  generalize hAe : va_A [(h, .inr (2, [.ref qk, .ref qc, .ref qv, .ref qt, .int rd])), (qk, .inl (E.2.1, 240, .inl ky)), (qt, .inl (E.2.1, 4, .inl la)), (h2, .inr (6, [.ref a2, .int q.1])), (a2, .inl (E.2.1, n2, .inl q.2))] s.heap.size = A at hD hV ⊢
  have hA : ∀ q : Nat, s.heap.size ≤ q → A q := fun q h => by rw [← hAe]; exact Or.inr h
  have hS : va_S A s.heap s.heap [] := va_S.rf
  have hK := hV.1
  have hF : CallFix p m c cX0_spreadKey 7 s _ wsX0_spreadKey RX0 := ⟨hx, hb, hml, hown, hts⟩
  have hl := lv_entry [.ref h, .ref h2] (n := 7) (Nat.le_of_ble_eq_true rfl)
  rw [lg_entry_eq]
  generalize (lg_sl [.ref h, .ref h2] ++ List.replicate (7 - (lg_sl [.ref h, .ref h2]).length) Slot.unset).toArray = ls at hl ⊢
  have hl : lv_has ls 7 [(0, .ref h), (1, .ref h2)] := hl
  have in_X0 : ∀ w ∈ wsX00, w ∈ wsX0_spreadKey := by decide +kernel
  have w_0 := hts (.fieldLink RX0 46 "CryptRows$Blocks" "rounds" "I") (by decide +kernel)
  have w_1 := hts (.fieldLink RX0 7 "CryptRows$Blocks" "keys" "[I") (by decide +kernel)
  have w_2 := hts (.fieldLink RX0 19 "CryptRows$Blocks" "last" "[I") (by decide +kernel)
  refine lv_aload_n hx hb dX0_spreadKey_0 rfl (lv_at hl 1 rfl) ?_
  refine gVi hF hl hV hP hD hS hA [3] [0, 1, 2, 4] (wc := [(h2, .inr (6, [.ref a2, .int q.1]))]) (wr := [(h, .inr (2, [.ref qk, .ref qc, .ref qv, .ref qt, .int rd])), (qk, .inl (E.2.1, 240, .inl ky)), (qt, .inl (E.2.1, 4, .inl la)), (a2, .inl (E.2.1, n2, .inl q.2))]) rfl rfl rfl (by decide) 0 6 rfl rfl rfl (k_X5_count E l h2 a2 q) (cwV 0 hts gX0_spreadKey_X5_count rfl rfl rfl (by decide +kernel) ⟨Nat.le_of_ble_eq_true rfl, Nat.le_of_ble_eq_true rfl⟩) rfl rfl rfl (Nat.le_of_ble_eq_true rfl) dX0_spreadKey_1 ⟨Nat.le_of_ble_eq_true rfl, Nat.le_of_ble_eq_true rfl⟩ (fun r_2247 _ H_2248 locs_2248 hu_2247 hP_2248 hD_2248 hS_2248 => ?_)
  have er_2247 : r_2247 = F_X5_count q := hu_2247
  clear hu_2247
  replace hP_2248 : va_P E.1 vwCl [(h, .inr (2, [.ref qk, .ref qc, .ref qv, .ref qt, .int rd])), (qk, .inl (E.2.1, 240, .inl ky)), (qt, .inl (E.2.1, 4, .inl la)), (a2, .inl (E.2.1, n2, .inl q.2)), (h2, .inr (6, [.ref a2, .int q.1]))] H_2248 := hP_2248
  replace hD_2248 : va_D A [(h, .inr (2, [.ref qk, .ref qc, .ref qv, .ref qt, .int rd])), (qk, .inl (E.2.1, 240, .inl ky)), (qt, .inl (E.2.1, 4, .inl la)), (a2, .inl (E.2.1, n2, .inl q.2)), (h2, .inr (6, [.ref a2, .int q.1]))] := hD_2248
  clear hP hD hS
  refine lv_bipush (v := 16) hx hb dX0_spreadKey_4 (by decide) ?_
  refine lv_icmp_le (tgt := 14) hx hb dX0_spreadKey_6 (by decide) (fun c_2249 => ?_) (fun c_2249 => ?_)
  · replace c_2249 : r_2247 ≤ 16 := c_2249
    refine lv_bipush (v := 16) hx hb dX0_spreadKey_14 (by decide) ?_
    refine lv_istore_n (lv' := [(2, .int 16), (0, .ref h), (1, .ref h2)]) hx hb dX0_spreadKey_16 rfl hl (by decide) rfl (fun ls_2250 hl_2250 => ?_)
    clear hl
    refine lv_aload_n hx hb dX0_spreadKey_17 rfl (lv_at hl_2250 1 rfl) ?_
    refine lv_iload_n hx hb dX0_spreadKey_18 rfl (lv_at hl_2250 0 rfl) ?_
    refine lv_bipush (v := 32) hx hb dX0_spreadKey_19 (by decide) ?_
    refine lv_icmp_ne (tgt := 29) hx hb dX0_spreadKey_21 (by decide) (fun c_2251 => ?_) (fun c_2251 => absurd c_2251 (by decide))
    refine lv_bipush (v := 10) hx hb dX0_spreadKey_29 (by decide) ?_
    refine va_put (D := E.1) (ci := 2) (v := .int 10) (ty := .int) (C := RX0) (T := TX0) (N := 5) hx hb hts in_X0 tyX0 tyX0_ok nmX0 hown hK hP_2248 hD_2248 hS_2248 0 rfl rfl 4 (by decide) w_0 (fun _ h9 => h9) rfl (by decide +kernel) rfl rfl (Nat.le_of_ble_eq_true rfl) dX0_spreadKey_31 (fun H_2252 locs_2252 hP_2252 hD_2252 hS_2252 => ?_)
    replace hP_2252 : va_P E.1 vwCl [(h, .inr (2, [.ref qk, .ref qc, .ref qv, .ref qt, .int 10])), (qk, .inl (E.2.1, 240, .inl ky)), (qt, .inl (E.2.1, 4, .inl la)), (a2, .inl (E.2.1, n2, .inl q.2)), (h2, .inr (6, [.ref a2, .int q.1]))] H_2252 := hP_2252
    replace hD_2252 : va_D A [(h, .inr (2, [.ref qk, .ref qc, .ref qv, .ref qt, .int 10])), (qk, .inl (E.2.1, 240, .inl ky)), (qt, .inl (E.2.1, 4, .inl la)), (a2, .inl (E.2.1, n2, .inl q.2)), (h2, .inr (6, [.ref a2, .int q.1]))] := hD_2252
    clear hP_2248 hD_2248 hS_2248
    refine lv_iconst (v := 0) hx hb dX0_spreadKey_34 (by decide) ?_
    refine lv_istore_n (lv' := [(3, .int 0), (2, .int 16), (0, .ref h), (1, .ref h2)]) hx hb dX0_spreadKey_35 rfl hl_2250 (by decide) rfl (fun ls_2253 hl_2253 => ?_)
    clear hl_2250
    refine g_up (N := 16) (B_X0_spreadKey_36_t n2 q) (ky : Nat → Int32) (Inv := fun i_0 z_2275 H_0 locs_0 ls_0 => lv_has ls_0 7 [(3, .int (nI i_0)), (2, .int 16), (0, .ref h), (1, .ref h2)] ∧ va_P E.1 vwCl [(h, .inr (2, [.ref qk, .ref qc, .ref qv, .ref qt, .int 10])), (qk, .inl (E.2.1, 240, .inl z_2275)), (qt, .inl (E.2.1, 4, .inl la)), (a2, .inl (E.2.1, n2, .inl q.2)), (h2, .inr (6, [.ref a2, .int q.1]))] H_0 ∧ va_D A [(h, .inr (2, [.ref qk, .ref qc, .ref qv, .ref qt, .int 10])), (qk, .inl (E.2.1, 240, .inl z_2275)), (qt, .inl (E.2.1, 4, .inl la)), (a2, .inl (E.2.1, n2, .inl q.2)), (h2, .inr (6, [.ref a2, .int q.1]))] ∧ va_S A s.heap H_0 locs_0) (G := fun H_0 locs_0 ls_0 => W _ _ _ _ _ _ _ _ _ _ H_0 locs_0 _ _ _ (F0 _ 36 ls_0 [])) ?_ ?_ ⟨lv_sub hl_2253 [0, 1, 2, 3] rfl, hP_2252, hD_2252, hS_2252⟩
    · intro j_2276 i_2276 z_2276 H_2276 locs_2276 ls_2276 hij_2276 hz_2276 hI_2276 ih_2276
      obtain ⟨hl_2276, hP_2276, hD_2276, hS_2276⟩ := hI_2276
      replace hl_2276 : lv_has ls_2276 7 [(3, .int (nI i_2276)), (2, .int 16), (0, .ref h), (1, .ref h2)] := hl_2276
      replace hP_2276 : va_P E.1 vwCl [(h, .inr (2, [.ref qk, .ref qc, .ref qv, .ref qt, .int 10])), (qk, .inl (E.2.1, 240, .inl z_2276)), (qt, .inl (E.2.1, 4, .inl la)), (a2, .inl (E.2.1, n2, .inl q.2)), (h2, .inr (6, [.ref a2, .int q.1]))] H_2276 := hP_2276
      replace hD_2276 : va_D A [(h, .inr (2, [.ref qk, .ref qc, .ref qv, .ref qt, .int 10])), (qk, .inl (E.2.1, 240, .inl z_2276)), (qt, .inl (E.2.1, 4, .inl la)), (a2, .inl (E.2.1, n2, .inl q.2)), (h2, .inr (6, [.ref a2, .int q.1]))] := hD_2276
      clear hl_2253 hP_2252 hD_2252 hS_2252
      refine lv_iload_n hx hb dX0_spreadKey_36 rfl (lv_at hl_2276 0 rfl) ?_
      refine lv_iload_n hx hb dX0_spreadKey_37 rfl (lv_at hl_2276 1 rfl) ?_
      refine lv_icmp_ge (tgt := 58) hx hb dX0_spreadKey_38 (by decide) (fun c_2277 => (by have c_2277 := (nI_leI (a := 16) (b := i_2276) (by omega) (by omega)).mp c_2277; exfalso; omega)) (fun c_2277 => ?_)
      replace c_2277 : ¬ 16 ≤ i_2276 := (not_congr (nI_leI (a := 16) (b := i_2276) (by omega) (by omega))).mp c_2277
      refine lv_aload_n hx hb dX0_spreadKey_41 rfl (lv_at hl_2276 2 rfl) ?_
      refine va_get (D := E.1) (ci := 2) (v := .ref qk) (C := RX0) (T := TX0) (N := 5) hx hb hts in_X0 hown hK hP_2276 0 rfl rfl 0 (by decide) w_1 (fun _ h9 => h9) rfl dX0_spreadKey_42 ?_
      refine lv_iload_n hx hb dX0_spreadKey_45 rfl (lv_at hl_2276 0 rfl) ?_
      refine lv_aload_n hx hb dX0_spreadKey_46 rfl (lv_at hl_2276 3 rfl) ?_
      refine lv_iload_n hx hb dX0_spreadKey_47 rfl (lv_at hl_2276 0 rfl) ?_
      refine gVi hF hl_2276 hV hP_2276 hD_2276 hS_2276 hA [4, 3] [0, 1, 2] (wc := [(h2, .inr (6, [.ref a2, .int q.1])), (a2, .inl (E.2.1, n2, .inl q.2))]) (wr := [(h, .inr (2, [.ref qk, .ref qc, .ref qv, .ref qt, .int 10])), (qk, .inl (E.2.1, 240, .inl z_2276)), (qt, .inl (E.2.1, 4, .inl la))]) rfl rfl rfl (by decide) 0 6 rfl rfl rfl (k_X5_at E l h2 a2 n2 q (nI i_2276) (by omega)) (cwV 1 hts gX0_spreadKey_X5_at rfl rfl rfl (by decide +kernel) ⟨Nat.le_of_ble_eq_true rfl, Nat.le_of_ble_eq_true rfl⟩) rfl rfl rfl (Nat.le_of_ble_eq_true rfl) dX0_spreadKey_48 ⟨Nat.le_of_ble_eq_true rfl, Nat.le_of_ble_eq_true rfl⟩ (fun r_2278 _ H_2279 locs_2279 hu_2278 hP_2279 hD_2279 hS_2279 => ?_)
      have er_2278 : r_2278 = F_X5_at n2 q (nI i_2276) := hu_2278
      clear hu_2278
      replace hP_2279 : va_P E.1 vwCl [(h, .inr (2, [.ref qk, .ref qc, .ref qv, .ref qt, .int 10])), (qk, .inl (E.2.1, 240, .inl z_2276)), (qt, .inl (E.2.1, 4, .inl la)), (h2, .inr (6, [.ref a2, .int q.1])), (a2, .inl (E.2.1, n2, .inl q.2))] H_2279 := hP_2279
      replace hD_2279 : va_D A [(h, .inr (2, [.ref qk, .ref qc, .ref qv, .ref qt, .int 10])), (qk, .inl (E.2.1, 240, .inl z_2276)), (qt, .inl (E.2.1, 4, .inl la)), (h2, .inr (6, [.ref a2, .int q.1])), (a2, .inl (E.2.1, n2, .inl q.2))] := hD_2279
      clear hP_2276 hD_2276 hS_2276
      refine g_iast (e0 := i_2276) hx hb hK hP_2279 hD_2279 hS_2279 1 0 rfl rfl (by omega) (by omega) dX0_spreadKey_51 (fun H_2280 locs_2280 hP_2280 hD_2280 hS_2280 => ?_)
      replace hP_2280 : va_P E.1 vwCl [(h, .inr (2, [.ref qk, .ref qc, .ref qv, .ref qt, .int 10])), (qk, .inl (E.2.1, 240, .inl (upd z_2276 i_2276 r_2278))), (qt, .inl (E.2.1, 4, .inl la)), (h2, .inr (6, [.ref a2, .int q.1])), (a2, .inl (E.2.1, n2, .inl q.2))] H_2280 := hP_2280
      replace hD_2280 : va_D A [(h, .inr (2, [.ref qk, .ref qc, .ref qv, .ref qt, .int 10])), (qk, .inl (E.2.1, 240, .inl (upd z_2276 i_2276 r_2278))), (qt, .inl (E.2.1, 4, .inl la)), (h2, .inr (6, [.ref a2, .int q.1])), (a2, .inl (E.2.1, n2, .inl q.2))] := hD_2280
      clear hP_2279 hD_2279 hS_2279
      refine lv_iinc (v := (nI (i_2276 + 1))) (lv' := [(3, .int (nI (i_2276 + 1))), (2, .int 16), (0, .ref h), (1, .ref h2)]) hx hb dX0_spreadKey_52 hl_2276 (k := 0) rfl (nI_add _ 1) (by decide) rfl (fun ls_2281 hl_2281 => ?_)
      clear hl_2276
      refine lv_goto (tgt := 36) hx hb dX0_spreadKey_55 (by decide) ?_
      exact ih_2276 ((upd z_2276 i_2276 r_2278) : Nat → Int32) _ _ _ (((show (B_X0_spreadKey_36_t n2 q) i_2276 z_2276 = _ from (gLet_eq er_2278 rfl)).symm.trans (congrArg ((B_X0_spreadKey_36_t n2 q) i_2276) hz_2276)).trans (itr_s _ _ _).symm) ⟨lv_sub hl_2281 [0, 1, 2, 3] rfl, (hP_2280.sub [0, 1, 2, 4, 3] rfl), (hD_2280.sub [0, 1, 2, 4, 3] (by decide) rfl), hS_2280⟩
    · intro z_2282 H_2282 locs_2282 ls_2282 hz_2282 hI_2282
      obtain ⟨hl_2282, hP_2282, hD_2282, hS_2282⟩ := hI_2282
      replace hl_2282 : lv_has ls_2282 7 [(3, .int (nI 16)), (2, .int 16), (0, .ref h), (1, .ref h2)] := hl_2282
      replace hP_2282 : va_P E.1 vwCl [(h, .inr (2, [.ref qk, .ref qc, .ref qv, .ref qt, .int 10])), (qk, .inl (E.2.1, 240, .inl z_2282)), (qt, .inl (E.2.1, 4, .inl la)), (a2, .inl (E.2.1, n2, .inl q.2)), (h2, .inr (6, [.ref a2, .int q.1]))] H_2282 := hP_2282
      replace hD_2282 : va_D A [(h, .inr (2, [.ref qk, .ref qc, .ref qv, .ref qt, .int 10])), (qk, .inl (E.2.1, 240, .inl z_2282)), (qt, .inl (E.2.1, 4, .inl la)), (a2, .inl (E.2.1, n2, .inl q.2)), (h2, .inr (6, [.ref a2, .int q.1]))] := hD_2282
      clear hl_2253 hP_2252 hD_2252 hS_2252
      refine lv_iload_n hx hb dX0_spreadKey_36 rfl (lv_at hl_2282 0 rfl) ?_
      refine lv_iload_n hx hb dX0_spreadKey_37 rfl (lv_at hl_2282 1 rfl) ?_
      refine lv_icmp_ge (tgt := 58) hx hb dX0_spreadKey_38 (by decide) (fun c_2283 => ?_) (fun c_2283 => (by have c_2283 := (not_congr (nI_leI (a := 16) (b := 16) (by omega) (by omega))).mp c_2283; exfalso; omega))
      replace c_2283 : 16 ≤ 16 := (nI_leI (a := 16) (b := 16) (by omega) (by omega)).mp c_2283
      refine lv_iconst (v := 1) hx hb dX0_spreadKey_58 (by decide) ?_
      refine lv_istore_n (lv' := [(3, .int 1), (2, .int 16), (0, .ref h), (1, .ref h2)]) hx hb dX0_spreadKey_59 rfl hl_2282 (by decide) rfl (fun ls_2284 hl_2284 => ?_)
      clear hl_2282
      refine lv_iload_n hx hb dX0_spreadKey_60 rfl (lv_at hl_2284 1 rfl) ?_
      refine lv_istore (lv' := [(4, .int 16), (3, .int 1), (2, .int 16), (0, .ref h), (1, .ref h2)]) hx hb dX0_spreadKey_61 hl_2284 (by decide) rfl (fun ls_2285 hl_2285 => ?_)
      clear hl_2284
      refine g_up (N := 40) B_X0_spreadKey_63_t ((1, z_2282, la) : Int32 × (Nat → Int32) × (Nat → Int32)) (Inv := fun i_0 z_2676 H_0 locs_0 ls_0 => lv_has ls_0 7 [(4, .int (nI (16 + 4 * i_0))), (3, .int z_2676.1), (2, .int 16), (0, .ref h), (1, .ref h2)] ∧ va_P E.1 vwCl [(h, .inr (2, [.ref qk, .ref qc, .ref qv, .ref qt, .int 10])), (qk, .inl (E.2.1, 240, .inl z_2676.2.1)), (qt, .inl (E.2.1, 4, .inl z_2676.2.2)), (a2, .inl (E.2.1, n2, .inl q.2)), (h2, .inr (6, [.ref a2, .int q.1]))] H_0 ∧ va_D A [(h, .inr (2, [.ref qk, .ref qc, .ref qv, .ref qt, .int 10])), (qk, .inl (E.2.1, 240, .inl z_2676.2.1)), (qt, .inl (E.2.1, 4, .inl z_2676.2.2)), (a2, .inl (E.2.1, n2, .inl q.2)), (h2, .inr (6, [.ref a2, .int q.1]))] ∧ va_S A s.heap H_0 locs_0) (G := fun H_0 locs_0 ls_0 => W _ _ _ _ _ _ _ _ _ _ H_0 locs_0 _ _ _ (F0 _ 63 ls_0 [])) ?_ ?_ ⟨lv_sub hl_2285 [0, 1, 2, 3, 4] rfl, hP_2282, hD_2282, hS_2282⟩
      · intro j_2677 i_2677 z_2677 H_2677 locs_2677 ls_2677 hij_2677 hz_2677 hI_2677 ih_2677
        obtain ⟨hl_2677, hP_2677, hD_2677, hS_2677⟩ := hI_2677
        replace hl_2677 : lv_has ls_2677 7 [(4, .int (nI (16 + 4 * i_2677))), (3, .int z_2677.1), (2, .int 16), (0, .ref h), (1, .ref h2)] := hl_2677
        replace hP_2677 : va_P E.1 vwCl [(h, .inr (2, [.ref qk, .ref qc, .ref qv, .ref qt, .int 10])), (qk, .inl (E.2.1, 240, .inl z_2677.2.1)), (qt, .inl (E.2.1, 4, .inl z_2677.2.2)), (a2, .inl (E.2.1, n2, .inl q.2)), (h2, .inr (6, [.ref a2, .int q.1]))] H_2677 := hP_2677
        replace hD_2677 : va_D A [(h, .inr (2, [.ref qk, .ref qc, .ref qv, .ref qt, .int 10])), (qk, .inl (E.2.1, 240, .inl z_2677.2.1)), (qt, .inl (E.2.1, 4, .inl z_2677.2.2)), (a2, .inl (E.2.1, n2, .inl q.2)), (h2, .inr (6, [.ref a2, .int q.1]))] := hD_2677
        clear hl_2285 hP_2282 hD_2282 hS_2282
        refine lv_iload hx hb dX0_spreadKey_63 (lv_at hl_2677 0 rfl) ?_
        refine lv_bipush (v := 16) hx hb dX0_spreadKey_65 (by decide) ?_
        refine lv_aload_n hx hb dX0_spreadKey_67 rfl (lv_at hl_2677 3 rfl) ?_
        refine va_get (D := E.1) (ci := 2) (v := .int 10) (C := RX0) (T := TX0) (N := 5) hx hb hts in_X0 hown hK hP_2677 0 rfl rfl 4 (by decide) w_0 (fun _ h9 => h9) rfl dX0_spreadKey_68 ?_
        refine lv_iconst (v := 1) hx hb dX0_spreadKey_71 (by decide) ?_
        refine lv_iadd hx hb dX0_spreadKey_72 ?_
        refine lv_topi (fun y_2678 ey_2678 => ?_)
        obtain rfl : y_2678 = 11 := ey_2678.trans (by decide)
        refine lv_imul hx hb dX0_spreadKey_73 ?_
        refine lv_topi (fun y_2679 ey_2679 => ?_)
        obtain rfl : y_2679 = 176 := ey_2679.trans (by decide)
        refine lv_icmp_ge (tgt := 199) hx hb dX0_spreadKey_74 (by decide) (fun c_2680 => (by have c_2680 := (nI_leI (a := 176) (b := 16 + 4 * i_2677) (by omega) (by omega)).mp c_2680; exfalso; omega)) (fun c_2680 => ?_)
        replace c_2680 : ¬ 176 ≤ 16 + 4 * i_2677 := (not_congr (nI_leI (a := 176) (b := 16 + 4 * i_2677) (by omega) (by omega))).mp c_2680
        refine lv_iconst (v := 0) hx hb dX0_spreadKey_77 (by decide) ?_
        refine lv_istore (lv' := [(5, .int 0), (4, .int (nI (16 + 4 * i_2677))), (3, .int z_2677.1), (2, .int 16), (0, .ref h), (1, .ref h2)]) hx hb dX0_spreadKey_78 hl_2677 (by decide) rfl (fun ls_2681 hl_2681 => ?_)
        clear hl_2677
        refine lv_iload hx hb dX0_spreadKey_80 (lv_at hl_2681 0 rfl) ?_
        refine lv_iconst (v := 4) hx hb dX0_spreadKey_82 (by decide) ?_
        refine lv_icmp_ge (tgt := 111) hx hb dX0_spreadKey_83 (by decide) (fun c_2682 => absurd c_2682 (by decide)) (fun c_2682 => ?_)
        refine lv_aload_n hx hb dX0_spreadKey_86 rfl (lv_at hl_2681 4 rfl) ?_
        refine va_get (D := E.1) (ci := 2) (v := .ref qt) (C := RX0) (T := TX0) (N := 5) hx hb hts in_X0 hown hK hP_2677 0 rfl rfl 3 (by decide) w_2 (fun _ h9 => h9) rfl dX0_spreadKey_87 ?_
        refine lv_iload hx hb dX0_spreadKey_90 (lv_at hl_2681 0 rfl) ?_
        refine lv_aload_n hx hb dX0_spreadKey_92 rfl (lv_at hl_2681 4 rfl) ?_
        refine va_get (D := E.1) (ci := 2) (v := .ref qk) (C := RX0) (T := TX0) (N := 5) hx hb hts in_X0 hown hK hP_2677 0 rfl rfl 0 (by decide) w_1 (fun _ h9 => h9) rfl dX0_spreadKey_93 ?_
        refine lv_iload hx hb dX0_spreadKey_96 (lv_at hl_2681 1 rfl) ?_
        refine lv_iconst (v := 4) hx hb dX0_spreadKey_98 (by decide) ?_
        refine lv_isub hx hb dX0_spreadKey_99 ?_
        refine lv_topi (fun y_2683 ey_2683 => ?_)
        obtain rfl : y_2683 = (nI ((16 + 4 * i_2677) - 4)) := ey_2683.trans (pk_sub (a := 16 + 4 * i_2677) (b := 4) (by omega))
        refine lv_iload hx hb dX0_spreadKey_100 (lv_at hl_2681 0 rfl) ?_
        refine lv_iadd hx hb dX0_spreadKey_102 ?_
        refine lv_topi (fun y_2684 ey_2684 => ?_)
        obtain rfl : y_2684 = (nI (((16 + 4 * i_2677) - 4) + 0)) := ey_2684.trans (nI_add _ _)
        refine g_iald (e0 := ((16 + 4 * i_2677) - 4) + 0) hx hb hK hP_2677 1 0 rfl rfl (by omega) (by omega) dX0_spreadKey_103 ?_
        refine g_iast (e0 := 0) hx hb hK hP_2677 hD_2677 hS_2677 2 0 rfl rfl (by omega) (by omega) dX0_spreadKey_104 (fun H_2685 locs_2685 hP_2685 hD_2685 hS_2685 => ?_)
        replace hP_2685 : va_P E.1 vwCl [(h, .inr (2, [.ref qk, .ref qc, .ref qv, .ref qt, .int 10])), (qk, .inl (E.2.1, 240, .inl z_2677.2.1)), (qt, .inl (E.2.1, 4, .inl (upd z_2677.2.2 0 (z_2677.2.1 (((16 + 4 * i_2677) - 4) + 0))))), (a2, .inl (E.2.1, n2, .inl q.2)), (h2, .inr (6, [.ref a2, .int q.1]))] H_2685 := hP_2685
        replace hD_2685 : va_D A [(h, .inr (2, [.ref qk, .ref qc, .ref qv, .ref qt, .int 10])), (qk, .inl (E.2.1, 240, .inl z_2677.2.1)), (qt, .inl (E.2.1, 4, .inl (upd z_2677.2.2 0 (z_2677.2.1 (((16 + 4 * i_2677) - 4) + 0))))), (a2, .inl (E.2.1, n2, .inl q.2)), (h2, .inr (6, [.ref a2, .int q.1]))] := hD_2685
        clear hP_2677 hD_2677 hS_2677
        refine lv_iinc (v := 1) (lv' := [(5, .int 1), (4, .int (nI (16 + 4 * i_2677))), (3, .int z_2677.1), (2, .int 16), (0, .ref h), (1, .ref h2)]) hx hb dX0_spreadKey_105 hl_2681 (k := 0) rfl (by decide) (by decide) rfl (fun ls_2686 hl_2686 => ?_)
        clear hl_2681
        refine lv_goto (tgt := 80) hx hb dX0_spreadKey_108 (by decide) ?_
        refine lv_iload hx hb dX0_spreadKey_80 (lv_at hl_2686 0 rfl) ?_
        refine lv_iconst (v := 4) hx hb dX0_spreadKey_82 (by decide) ?_
        refine lv_icmp_ge (tgt := 111) hx hb dX0_spreadKey_83 (by decide) (fun c_2687 => absurd c_2687 (by decide)) (fun c_2687 => ?_)
        refine lv_aload_n hx hb dX0_spreadKey_86 rfl (lv_at hl_2686 4 rfl) ?_
        refine va_get (D := E.1) (ci := 2) (v := .ref qt) (C := RX0) (T := TX0) (N := 5) hx hb hts in_X0 hown hK hP_2685 0 rfl rfl 3 (by decide) w_2 (fun _ h9 => h9) rfl dX0_spreadKey_87 ?_
        refine lv_iload hx hb dX0_spreadKey_90 (lv_at hl_2686 0 rfl) ?_
        refine lv_aload_n hx hb dX0_spreadKey_92 rfl (lv_at hl_2686 4 rfl) ?_
        refine va_get (D := E.1) (ci := 2) (v := .ref qk) (C := RX0) (T := TX0) (N := 5) hx hb hts in_X0 hown hK hP_2685 0 rfl rfl 0 (by decide) w_1 (fun _ h9 => h9) rfl dX0_spreadKey_93 ?_
        refine lv_iload hx hb dX0_spreadKey_96 (lv_at hl_2686 1 rfl) ?_
        refine lv_iconst (v := 4) hx hb dX0_spreadKey_98 (by decide) ?_
        refine lv_isub hx hb dX0_spreadKey_99 ?_
        refine lv_topi (fun y_2688 ey_2688 => ?_)
        obtain rfl : y_2688 = (nI ((16 + 4 * i_2677) - 4)) := ey_2688.trans (pk_sub (a := 16 + 4 * i_2677) (b := 4) (by omega))
        refine lv_iload hx hb dX0_spreadKey_100 (lv_at hl_2686 0 rfl) ?_
        refine lv_iadd hx hb dX0_spreadKey_102 ?_
        refine lv_topi (fun y_2689 ey_2689 => ?_)
        obtain rfl : y_2689 = (nI (((16 + 4 * i_2677) - 4) + 1)) := ey_2689.trans (nI_add _ _)
        refine g_iald (e0 := ((16 + 4 * i_2677) - 4) + 1) hx hb hK hP_2685 1 0 rfl rfl (by omega) (by omega) dX0_spreadKey_103 ?_
        refine g_iast (e0 := 1) hx hb hK hP_2685 hD_2685 hS_2685 2 0 rfl rfl (by omega) (by omega) dX0_spreadKey_104 (fun H_2690 locs_2690 hP_2690 hD_2690 hS_2690 => ?_)
        replace hP_2690 : va_P E.1 vwCl [(h, .inr (2, [.ref qk, .ref qc, .ref qv, .ref qt, .int 10])), (qk, .inl (E.2.1, 240, .inl z_2677.2.1)), (qt, .inl (E.2.1, 4, .inl (upd (upd z_2677.2.2 0 (z_2677.2.1 (((16 + 4 * i_2677) - 4) + 0))) 1 (z_2677.2.1 (((16 + 4 * i_2677) - 4) + 1))))), (a2, .inl (E.2.1, n2, .inl q.2)), (h2, .inr (6, [.ref a2, .int q.1]))] H_2690 := hP_2690
        replace hD_2690 : va_D A [(h, .inr (2, [.ref qk, .ref qc, .ref qv, .ref qt, .int 10])), (qk, .inl (E.2.1, 240, .inl z_2677.2.1)), (qt, .inl (E.2.1, 4, .inl (upd (upd z_2677.2.2 0 (z_2677.2.1 (((16 + 4 * i_2677) - 4) + 0))) 1 (z_2677.2.1 (((16 + 4 * i_2677) - 4) + 1))))), (a2, .inl (E.2.1, n2, .inl q.2)), (h2, .inr (6, [.ref a2, .int q.1]))] := hD_2690
        clear hP_2685 hD_2685 hS_2685
        refine lv_iinc (v := 2) (lv' := [(5, .int 2), (4, .int (nI (16 + 4 * i_2677))), (3, .int z_2677.1), (2, .int 16), (0, .ref h), (1, .ref h2)]) hx hb dX0_spreadKey_105 hl_2686 (k := 0) rfl (by decide) (by decide) rfl (fun ls_2691 hl_2691 => ?_)
        clear hl_2686
        refine lv_goto (tgt := 80) hx hb dX0_spreadKey_108 (by decide) ?_
        refine lv_iload hx hb dX0_spreadKey_80 (lv_at hl_2691 0 rfl) ?_
        refine lv_iconst (v := 4) hx hb dX0_spreadKey_82 (by decide) ?_
        refine lv_icmp_ge (tgt := 111) hx hb dX0_spreadKey_83 (by decide) (fun c_2692 => absurd c_2692 (by decide)) (fun c_2692 => ?_)
        refine lv_aload_n hx hb dX0_spreadKey_86 rfl (lv_at hl_2691 4 rfl) ?_
        refine va_get (D := E.1) (ci := 2) (v := .ref qt) (C := RX0) (T := TX0) (N := 5) hx hb hts in_X0 hown hK hP_2690 0 rfl rfl 3 (by decide) w_2 (fun _ h9 => h9) rfl dX0_spreadKey_87 ?_
        refine lv_iload hx hb dX0_spreadKey_90 (lv_at hl_2691 0 rfl) ?_
        refine lv_aload_n hx hb dX0_spreadKey_92 rfl (lv_at hl_2691 4 rfl) ?_
        refine va_get (D := E.1) (ci := 2) (v := .ref qk) (C := RX0) (T := TX0) (N := 5) hx hb hts in_X0 hown hK hP_2690 0 rfl rfl 0 (by decide) w_1 (fun _ h9 => h9) rfl dX0_spreadKey_93 ?_
        refine lv_iload hx hb dX0_spreadKey_96 (lv_at hl_2691 1 rfl) ?_
        refine lv_iconst (v := 4) hx hb dX0_spreadKey_98 (by decide) ?_
        refine lv_isub hx hb dX0_spreadKey_99 ?_
        refine lv_topi (fun y_2693 ey_2693 => ?_)
        obtain rfl : y_2693 = (nI ((16 + 4 * i_2677) - 4)) := ey_2693.trans (pk_sub (a := 16 + 4 * i_2677) (b := 4) (by omega))
        refine lv_iload hx hb dX0_spreadKey_100 (lv_at hl_2691 0 rfl) ?_
        refine lv_iadd hx hb dX0_spreadKey_102 ?_
        refine lv_topi (fun y_2694 ey_2694 => ?_)
        obtain rfl : y_2694 = (nI (((16 + 4 * i_2677) - 4) + 2)) := ey_2694.trans (nI_add _ _)
        refine g_iald (e0 := ((16 + 4 * i_2677) - 4) + 2) hx hb hK hP_2690 1 0 rfl rfl (by omega) (by omega) dX0_spreadKey_103 ?_
        refine g_iast (e0 := 2) hx hb hK hP_2690 hD_2690 hS_2690 2 0 rfl rfl (by omega) (by omega) dX0_spreadKey_104 (fun H_2695 locs_2695 hP_2695 hD_2695 hS_2695 => ?_)
        replace hP_2695 : va_P E.1 vwCl [(h, .inr (2, [.ref qk, .ref qc, .ref qv, .ref qt, .int 10])), (qk, .inl (E.2.1, 240, .inl z_2677.2.1)), (qt, .inl (E.2.1, 4, .inl (upd (upd (upd z_2677.2.2 0 (z_2677.2.1 (((16 + 4 * i_2677) - 4) + 0))) 1 (z_2677.2.1 (((16 + 4 * i_2677) - 4) + 1))) 2 (z_2677.2.1 (((16 + 4 * i_2677) - 4) + 2))))), (a2, .inl (E.2.1, n2, .inl q.2)), (h2, .inr (6, [.ref a2, .int q.1]))] H_2695 := hP_2695
        replace hD_2695 : va_D A [(h, .inr (2, [.ref qk, .ref qc, .ref qv, .ref qt, .int 10])), (qk, .inl (E.2.1, 240, .inl z_2677.2.1)), (qt, .inl (E.2.1, 4, .inl (upd (upd (upd z_2677.2.2 0 (z_2677.2.1 (((16 + 4 * i_2677) - 4) + 0))) 1 (z_2677.2.1 (((16 + 4 * i_2677) - 4) + 1))) 2 (z_2677.2.1 (((16 + 4 * i_2677) - 4) + 2))))), (a2, .inl (E.2.1, n2, .inl q.2)), (h2, .inr (6, [.ref a2, .int q.1]))] := hD_2695
        clear hP_2690 hD_2690 hS_2690
        refine lv_iinc (v := 3) (lv' := [(5, .int 3), (4, .int (nI (16 + 4 * i_2677))), (3, .int z_2677.1), (2, .int 16), (0, .ref h), (1, .ref h2)]) hx hb dX0_spreadKey_105 hl_2691 (k := 0) rfl (by decide) (by decide) rfl (fun ls_2696 hl_2696 => ?_)
        clear hl_2691
        refine lv_goto (tgt := 80) hx hb dX0_spreadKey_108 (by decide) ?_
        refine lv_iload hx hb dX0_spreadKey_80 (lv_at hl_2696 0 rfl) ?_
        refine lv_iconst (v := 4) hx hb dX0_spreadKey_82 (by decide) ?_
        refine lv_icmp_ge (tgt := 111) hx hb dX0_spreadKey_83 (by decide) (fun c_2697 => absurd c_2697 (by decide)) (fun c_2697 => ?_)
        refine lv_aload_n hx hb dX0_spreadKey_86 rfl (lv_at hl_2696 4 rfl) ?_
        refine va_get (D := E.1) (ci := 2) (v := .ref qt) (C := RX0) (T := TX0) (N := 5) hx hb hts in_X0 hown hK hP_2695 0 rfl rfl 3 (by decide) w_2 (fun _ h9 => h9) rfl dX0_spreadKey_87 ?_
        refine lv_iload hx hb dX0_spreadKey_90 (lv_at hl_2696 0 rfl) ?_
        refine lv_aload_n hx hb dX0_spreadKey_92 rfl (lv_at hl_2696 4 rfl) ?_
        refine va_get (D := E.1) (ci := 2) (v := .ref qk) (C := RX0) (T := TX0) (N := 5) hx hb hts in_X0 hown hK hP_2695 0 rfl rfl 0 (by decide) w_1 (fun _ h9 => h9) rfl dX0_spreadKey_93 ?_
        refine lv_iload hx hb dX0_spreadKey_96 (lv_at hl_2696 1 rfl) ?_
        refine lv_iconst (v := 4) hx hb dX0_spreadKey_98 (by decide) ?_
        refine lv_isub hx hb dX0_spreadKey_99 ?_
        refine lv_topi (fun y_2698 ey_2698 => ?_)
        obtain rfl : y_2698 = (nI ((16 + 4 * i_2677) - 4)) := ey_2698.trans (pk_sub (a := 16 + 4 * i_2677) (b := 4) (by omega))
        refine lv_iload hx hb dX0_spreadKey_100 (lv_at hl_2696 0 rfl) ?_
        refine lv_iadd hx hb dX0_spreadKey_102 ?_
        refine lv_topi (fun y_2699 ey_2699 => ?_)
        obtain rfl : y_2699 = (nI (((16 + 4 * i_2677) - 4) + 3)) := ey_2699.trans (nI_add _ _)
        refine g_iald (e0 := ((16 + 4 * i_2677) - 4) + 3) hx hb hK hP_2695 1 0 rfl rfl (by omega) (by omega) dX0_spreadKey_103 ?_
        refine g_iast (e0 := 3) hx hb hK hP_2695 hD_2695 hS_2695 2 0 rfl rfl (by omega) (by omega) dX0_spreadKey_104 (fun H_2700 locs_2700 hP_2700 hD_2700 hS_2700 => ?_)
        replace hP_2700 : va_P E.1 vwCl [(h, .inr (2, [.ref qk, .ref qc, .ref qv, .ref qt, .int 10])), (qk, .inl (E.2.1, 240, .inl z_2677.2.1)), (qt, .inl (E.2.1, 4, .inl (upd (upd (upd (upd z_2677.2.2 0 (z_2677.2.1 (((16 + 4 * i_2677) - 4) + 0))) 1 (z_2677.2.1 (((16 + 4 * i_2677) - 4) + 1))) 2 (z_2677.2.1 (((16 + 4 * i_2677) - 4) + 2))) 3 (z_2677.2.1 (((16 + 4 * i_2677) - 4) + 3))))), (a2, .inl (E.2.1, n2, .inl q.2)), (h2, .inr (6, [.ref a2, .int q.1]))] H_2700 := hP_2700
        replace hD_2700 : va_D A [(h, .inr (2, [.ref qk, .ref qc, .ref qv, .ref qt, .int 10])), (qk, .inl (E.2.1, 240, .inl z_2677.2.1)), (qt, .inl (E.2.1, 4, .inl (upd (upd (upd (upd z_2677.2.2 0 (z_2677.2.1 (((16 + 4 * i_2677) - 4) + 0))) 1 (z_2677.2.1 (((16 + 4 * i_2677) - 4) + 1))) 2 (z_2677.2.1 (((16 + 4 * i_2677) - 4) + 2))) 3 (z_2677.2.1 (((16 + 4 * i_2677) - 4) + 3))))), (a2, .inl (E.2.1, n2, .inl q.2)), (h2, .inr (6, [.ref a2, .int q.1]))] := hD_2700
        clear hP_2695 hD_2695 hS_2695
        refine lv_iinc (v := 4) (lv' := [(5, .int 4), (4, .int (nI (16 + 4 * i_2677))), (3, .int z_2677.1), (2, .int 16), (0, .ref h), (1, .ref h2)]) hx hb dX0_spreadKey_105 hl_2696 (k := 0) rfl (by decide) (by decide) rfl (fun ls_2701 hl_2701 => ?_)
        clear hl_2696
        refine lv_goto (tgt := 80) hx hb dX0_spreadKey_108 (by decide) ?_
        refine lv_iload hx hb dX0_spreadKey_80 (lv_at hl_2701 0 rfl) ?_
        refine lv_iconst (v := 4) hx hb dX0_spreadKey_82 (by decide) ?_
        refine lv_icmp_ge (tgt := 111) hx hb dX0_spreadKey_83 (by decide) (fun c_2702 => ?_) (fun c_2702 => absurd (by decide) c_2702)
        refine lv_iload hx hb dX0_spreadKey_111 (lv_at hl_2701 1 rfl) ?_
        refine lv_iload_n hx hb dX0_spreadKey_113 rfl (lv_at hl_2701 3 rfl) ?_
        refine lv_iconst (v := 1) hx hb dX0_spreadKey_114 (by decide) ?_
        refine lv_isub hx hb dX0_spreadKey_115 ?_
        refine lv_topi (fun y_2703 ey_2703 => ?_)
        obtain rfl : y_2703 = 15 := ey_2703.trans (by decide)
        refine lv_iand hx hb dX0_spreadKey_116 ?_
        refine lv_topi (fun y_2704 ey_2704 => ?_)
        obtain rfl : y_2704 = (nI ((16 + 4 * i_2677) % 16)) := ey_2704.trans (pk_andN (n := 16 + 4 * i_2677) (by omega) 4 (by decide))
        refine lv_istore (lv' := [(5, .int (nI ((16 + 4 * i_2677) % 16))), (4, .int (nI (16 + 4 * i_2677))), (3, .int z_2677.1), (2, .int 16), (0, .ref h), (1, .ref h2)]) hx hb dX0_spreadKey_117 hl_2701 (by decide) rfl (fun ls_2705 hl_2705 => ?_)
        clear hl_2701
        refine lv_iload hx hb dX0_spreadKey_119 (lv_at hl_2705 0 rfl) ?_
        refine lv_if_ne (tgt := 137) hx hb dX0_spreadKey_121 (by decide) (fun c_2706 => ?_) (fun c_2706 => ?_)
        · replace c_2706 : ¬ (16 + 4 * i_2677) % 16 = 0 := (not_congr (nI_eq (a := (16 + 4 * i_2677) % 16) (b := 0) (by omega) (by omega))).mp c_2706
          refine lv_iload hx hb dX0_spreadKey_137 (lv_at hl_2705 0 rfl) ?_
          refine lv_bipush (v := 16) hx hb dX0_spreadKey_139 (by decide) ?_
          refine lv_icmp_ne (tgt := 148) hx hb dX0_spreadKey_141 (by decide) (fun c_2707 => ?_) (fun c_2707 => ?_)
          · replace c_2707 : ¬ (16 + 4 * i_2677) % 16 = 16 := (not_congr (nI_eq (a := (16 + 4 * i_2677) % 16) (b := 16) (by omega) (by omega))).mp c_2707
            refine lv_iconst (v := 0) hx hb dX0_spreadKey_148 (by decide) ?_
            refine lv_istore (lv' := [(6, .int 0), (5, .int (nI ((16 + 4 * i_2677) % 16))), (4, .int (nI (16 + 4 * i_2677))), (3, .int z_2677.1), (2, .int 16), (0, .ref h), (1, .ref h2)]) hx hb dX0_spreadKey_149 hl_2705 (by decide) rfl (fun ls_2708 hl_2708 => ?_)
            clear hl_2705
            refine lv_iload hx hb dX0_spreadKey_151 (lv_at hl_2708 0 rfl) ?_
            refine lv_iconst (v := 4) hx hb dX0_spreadKey_153 (by decide) ?_
            refine lv_icmp_ge (tgt := 193) hx hb dX0_spreadKey_154 (by decide) (fun c_2709 => absurd c_2709 (by decide)) (fun c_2709 => ?_)
            refine lv_aload_n hx hb dX0_spreadKey_157 rfl (lv_at hl_2708 5 rfl) ?_
            refine va_get (D := E.1) (ci := 2) (v := .ref qk) (C := RX0) (T := TX0) (N := 5) hx hb hts in_X0 hown hK hP_2700 0 rfl rfl 0 (by decide) w_1 (fun _ h9 => h9) rfl dX0_spreadKey_158 ?_
            refine lv_iload hx hb dX0_spreadKey_161 (lv_at hl_2708 2 rfl) ?_
            refine lv_iload hx hb dX0_spreadKey_163 (lv_at hl_2708 0 rfl) ?_
            refine lv_iadd hx hb dX0_spreadKey_165 ?_
            refine lv_topi (fun y_2710 ey_2710 => ?_)
            obtain rfl : y_2710 = (nI ((16 + 4 * i_2677) + 0)) := ey_2710.trans (nI_add _ _)
            refine lv_aload_n hx hb dX0_spreadKey_166 rfl (lv_at hl_2708 5 rfl) ?_
            refine va_get (D := E.1) (ci := 2) (v := .ref qk) (C := RX0) (T := TX0) (N := 5) hx hb hts in_X0 hown hK hP_2700 0 rfl rfl 0 (by decide) w_1 (fun _ h9 => h9) rfl dX0_spreadKey_167 ?_
            refine lv_iload hx hb dX0_spreadKey_170 (lv_at hl_2708 2 rfl) ?_
            refine lv_iload_n hx hb dX0_spreadKey_172 rfl (lv_at hl_2708 4 rfl) ?_
            refine lv_isub hx hb dX0_spreadKey_173 ?_
            refine lv_topi (fun y_2711 ey_2711 => ?_)
            obtain rfl : y_2711 = (nI ((16 + 4 * i_2677) - 16)) := ey_2711.trans (pk_sub (a := 16 + 4 * i_2677) (b := 16) (by omega))
            refine lv_iload hx hb dX0_spreadKey_174 (lv_at hl_2708 0 rfl) ?_
            refine lv_iadd hx hb dX0_spreadKey_176 ?_
            refine lv_topi (fun y_2712 ey_2712 => ?_)
            obtain rfl : y_2712 = (nI (((16 + 4 * i_2677) - 16) + 0)) := ey_2712.trans (nI_add _ _)
            refine g_iald (e0 := ((16 + 4 * i_2677) - 16) + 0) hx hb hK hP_2700 1 0 rfl rfl (by omega) (by omega) dX0_spreadKey_177 ?_
            refine lv_aload_n hx hb dX0_spreadKey_178 rfl (lv_at hl_2708 5 rfl) ?_
            refine va_get (D := E.1) (ci := 2) (v := .ref qt) (C := RX0) (T := TX0) (N := 5) hx hb hts in_X0 hown hK hP_2700 0 rfl rfl 3 (by decide) w_2 (fun _ h9 => h9) rfl dX0_spreadKey_179 ?_
            refine lv_iload hx hb dX0_spreadKey_182 (lv_at hl_2708 0 rfl) ?_
            refine g_iald (e0 := 0) hx hb hK hP_2700 2 0 rfl rfl (by omega) (by omega) dX0_spreadKey_184 ?_
            refine lv_ixor hx hb dX0_spreadKey_185 ?_
            refine lv_topi (fun v_2713 ev_2713 => ?_)
            refine g_iast (e0 := (16 + 4 * i_2677) + 0) hx hb hK hP_2700 hD_2700 hS_2700 1 0 rfl rfl (by omega) (by omega) dX0_spreadKey_186 (fun H_2714 locs_2714 hP_2714 hD_2714 hS_2714 => ?_)
            replace hP_2714 : va_P E.1 vwCl [(h, .inr (2, [.ref qk, .ref qc, .ref qv, .ref qt, .int 10])), (qk, .inl (E.2.1, 240, .inl (upd z_2677.2.1 ((16 + 4 * i_2677) + 0) v_2713))), (qt, .inl (E.2.1, 4, .inl (upd (upd (upd (upd z_2677.2.2 0 (z_2677.2.1 (((16 + 4 * i_2677) - 4) + 0))) 1 (z_2677.2.1 (((16 + 4 * i_2677) - 4) + 1))) 2 (z_2677.2.1 (((16 + 4 * i_2677) - 4) + 2))) 3 (z_2677.2.1 (((16 + 4 * i_2677) - 4) + 3))))), (a2, .inl (E.2.1, n2, .inl q.2)), (h2, .inr (6, [.ref a2, .int q.1]))] H_2714 := hP_2714
            replace hD_2714 : va_D A [(h, .inr (2, [.ref qk, .ref qc, .ref qv, .ref qt, .int 10])), (qk, .inl (E.2.1, 240, .inl (upd z_2677.2.1 ((16 + 4 * i_2677) + 0) v_2713))), (qt, .inl (E.2.1, 4, .inl (upd (upd (upd (upd z_2677.2.2 0 (z_2677.2.1 (((16 + 4 * i_2677) - 4) + 0))) 1 (z_2677.2.1 (((16 + 4 * i_2677) - 4) + 1))) 2 (z_2677.2.1 (((16 + 4 * i_2677) - 4) + 2))) 3 (z_2677.2.1 (((16 + 4 * i_2677) - 4) + 3))))), (a2, .inl (E.2.1, n2, .inl q.2)), (h2, .inr (6, [.ref a2, .int q.1]))] := hD_2714
            clear hP_2700 hD_2700 hS_2700
            refine lv_iinc (v := 1) (lv' := [(6, .int 1), (5, .int (nI ((16 + 4 * i_2677) % 16))), (4, .int (nI (16 + 4 * i_2677))), (3, .int z_2677.1), (2, .int 16), (0, .ref h), (1, .ref h2)]) hx hb dX0_spreadKey_187 hl_2708 (k := 0) rfl (by decide) (by decide) rfl (fun ls_2715 hl_2715 => ?_)
            clear hl_2708
            refine lv_goto (tgt := 151) hx hb dX0_spreadKey_190 (by decide) ?_
            refine lv_iload hx hb dX0_spreadKey_151 (lv_at hl_2715 0 rfl) ?_
            refine lv_iconst (v := 4) hx hb dX0_spreadKey_153 (by decide) ?_
            refine lv_icmp_ge (tgt := 193) hx hb dX0_spreadKey_154 (by decide) (fun c_2716 => absurd c_2716 (by decide)) (fun c_2716 => ?_)
            refine lv_aload_n hx hb dX0_spreadKey_157 rfl (lv_at hl_2715 5 rfl) ?_
            refine va_get (D := E.1) (ci := 2) (v := .ref qk) (C := RX0) (T := TX0) (N := 5) hx hb hts in_X0 hown hK hP_2714 0 rfl rfl 0 (by decide) w_1 (fun _ h9 => h9) rfl dX0_spreadKey_158 ?_
            refine lv_iload hx hb dX0_spreadKey_161 (lv_at hl_2715 2 rfl) ?_
            refine lv_iload hx hb dX0_spreadKey_163 (lv_at hl_2715 0 rfl) ?_
            refine lv_iadd hx hb dX0_spreadKey_165 ?_
            refine lv_topi (fun y_2717 ey_2717 => ?_)
            obtain rfl : y_2717 = (nI ((16 + 4 * i_2677) + 1)) := ey_2717.trans (nI_add _ _)
            refine lv_aload_n hx hb dX0_spreadKey_166 rfl (lv_at hl_2715 5 rfl) ?_
            refine va_get (D := E.1) (ci := 2) (v := .ref qk) (C := RX0) (T := TX0) (N := 5) hx hb hts in_X0 hown hK hP_2714 0 rfl rfl 0 (by decide) w_1 (fun _ h9 => h9) rfl dX0_spreadKey_167 ?_
            refine lv_iload hx hb dX0_spreadKey_170 (lv_at hl_2715 2 rfl) ?_
            refine lv_iload_n hx hb dX0_spreadKey_172 rfl (lv_at hl_2715 4 rfl) ?_
            refine lv_isub hx hb dX0_spreadKey_173 ?_
            refine lv_topi (fun y_2718 ey_2718 => ?_)
            obtain rfl : y_2718 = (nI ((16 + 4 * i_2677) - 16)) := ey_2718.trans (pk_sub (a := 16 + 4 * i_2677) (b := 16) (by omega))
            refine lv_iload hx hb dX0_spreadKey_174 (lv_at hl_2715 0 rfl) ?_
            refine lv_iadd hx hb dX0_spreadKey_176 ?_
            refine lv_topi (fun y_2719 ey_2719 => ?_)
            obtain rfl : y_2719 = (nI (((16 + 4 * i_2677) - 16) + 1)) := ey_2719.trans (nI_add _ _)
            refine g_iald (e0 := ((16 + 4 * i_2677) - 16) + 1) hx hb hK hP_2714 1 0 rfl rfl (by omega) (by omega) dX0_spreadKey_177 ?_
            refine lv_aload_n hx hb dX0_spreadKey_178 rfl (lv_at hl_2715 5 rfl) ?_
            refine va_get (D := E.1) (ci := 2) (v := .ref qt) (C := RX0) (T := TX0) (N := 5) hx hb hts in_X0 hown hK hP_2714 0 rfl rfl 3 (by decide) w_2 (fun _ h9 => h9) rfl dX0_spreadKey_179 ?_
            refine lv_iload hx hb dX0_spreadKey_182 (lv_at hl_2715 0 rfl) ?_
            refine g_iald (e0 := 1) hx hb hK hP_2714 2 0 rfl rfl (by omega) (by omega) dX0_spreadKey_184 ?_
            refine lv_ixor hx hb dX0_spreadKey_185 ?_
            refine lv_topi (fun v_2720 ev_2720 => ?_)
            refine g_iast (e0 := (16 + 4 * i_2677) + 1) hx hb hK hP_2714 hD_2714 hS_2714 1 0 rfl rfl (by omega) (by omega) dX0_spreadKey_186 (fun H_2721 locs_2721 hP_2721 hD_2721 hS_2721 => ?_)
            replace hP_2721 : va_P E.1 vwCl [(h, .inr (2, [.ref qk, .ref qc, .ref qv, .ref qt, .int 10])), (qk, .inl (E.2.1, 240, .inl (upd (upd z_2677.2.1 ((16 + 4 * i_2677) + 0) v_2713) ((16 + 4 * i_2677) + 1) v_2720))), (qt, .inl (E.2.1, 4, .inl (upd (upd (upd (upd z_2677.2.2 0 (z_2677.2.1 (((16 + 4 * i_2677) - 4) + 0))) 1 (z_2677.2.1 (((16 + 4 * i_2677) - 4) + 1))) 2 (z_2677.2.1 (((16 + 4 * i_2677) - 4) + 2))) 3 (z_2677.2.1 (((16 + 4 * i_2677) - 4) + 3))))), (a2, .inl (E.2.1, n2, .inl q.2)), (h2, .inr (6, [.ref a2, .int q.1]))] H_2721 := hP_2721
            replace hD_2721 : va_D A [(h, .inr (2, [.ref qk, .ref qc, .ref qv, .ref qt, .int 10])), (qk, .inl (E.2.1, 240, .inl (upd (upd z_2677.2.1 ((16 + 4 * i_2677) + 0) v_2713) ((16 + 4 * i_2677) + 1) v_2720))), (qt, .inl (E.2.1, 4, .inl (upd (upd (upd (upd z_2677.2.2 0 (z_2677.2.1 (((16 + 4 * i_2677) - 4) + 0))) 1 (z_2677.2.1 (((16 + 4 * i_2677) - 4) + 1))) 2 (z_2677.2.1 (((16 + 4 * i_2677) - 4) + 2))) 3 (z_2677.2.1 (((16 + 4 * i_2677) - 4) + 3))))), (a2, .inl (E.2.1, n2, .inl q.2)), (h2, .inr (6, [.ref a2, .int q.1]))] := hD_2721
            clear hP_2714 hD_2714 hS_2714
            refine lv_iinc (v := 2) (lv' := [(6, .int 2), (5, .int (nI ((16 + 4 * i_2677) % 16))), (4, .int (nI (16 + 4 * i_2677))), (3, .int z_2677.1), (2, .int 16), (0, .ref h), (1, .ref h2)]) hx hb dX0_spreadKey_187 hl_2715 (k := 0) rfl (by decide) (by decide) rfl (fun ls_2722 hl_2722 => ?_)
            clear hl_2715
            refine lv_goto (tgt := 151) hx hb dX0_spreadKey_190 (by decide) ?_
            refine lv_iload hx hb dX0_spreadKey_151 (lv_at hl_2722 0 rfl) ?_
            refine lv_iconst (v := 4) hx hb dX0_spreadKey_153 (by decide) ?_
            refine lv_icmp_ge (tgt := 193) hx hb dX0_spreadKey_154 (by decide) (fun c_2723 => absurd c_2723 (by decide)) (fun c_2723 => ?_)
            refine lv_aload_n hx hb dX0_spreadKey_157 rfl (lv_at hl_2722 5 rfl) ?_
            refine va_get (D := E.1) (ci := 2) (v := .ref qk) (C := RX0) (T := TX0) (N := 5) hx hb hts in_X0 hown hK hP_2721 0 rfl rfl 0 (by decide) w_1 (fun _ h9 => h9) rfl dX0_spreadKey_158 ?_
            refine lv_iload hx hb dX0_spreadKey_161 (lv_at hl_2722 2 rfl) ?_
            refine lv_iload hx hb dX0_spreadKey_163 (lv_at hl_2722 0 rfl) ?_
            refine lv_iadd hx hb dX0_spreadKey_165 ?_
            refine lv_topi (fun y_2724 ey_2724 => ?_)
            obtain rfl : y_2724 = (nI ((16 + 4 * i_2677) + 2)) := ey_2724.trans (nI_add _ _)
            refine lv_aload_n hx hb dX0_spreadKey_166 rfl (lv_at hl_2722 5 rfl) ?_
            refine va_get (D := E.1) (ci := 2) (v := .ref qk) (C := RX0) (T := TX0) (N := 5) hx hb hts in_X0 hown hK hP_2721 0 rfl rfl 0 (by decide) w_1 (fun _ h9 => h9) rfl dX0_spreadKey_167 ?_
            refine lv_iload hx hb dX0_spreadKey_170 (lv_at hl_2722 2 rfl) ?_
            refine lv_iload_n hx hb dX0_spreadKey_172 rfl (lv_at hl_2722 4 rfl) ?_
            refine lv_isub hx hb dX0_spreadKey_173 ?_
            refine lv_topi (fun y_2725 ey_2725 => ?_)
            obtain rfl : y_2725 = (nI ((16 + 4 * i_2677) - 16)) := ey_2725.trans (pk_sub (a := 16 + 4 * i_2677) (b := 16) (by omega))
            refine lv_iload hx hb dX0_spreadKey_174 (lv_at hl_2722 0 rfl) ?_
            refine lv_iadd hx hb dX0_spreadKey_176 ?_
            refine lv_topi (fun y_2726 ey_2726 => ?_)
            obtain rfl : y_2726 = (nI (((16 + 4 * i_2677) - 16) + 2)) := ey_2726.trans (nI_add _ _)
            refine g_iald (e0 := ((16 + 4 * i_2677) - 16) + 2) hx hb hK hP_2721 1 0 rfl rfl (by omega) (by omega) dX0_spreadKey_177 ?_
            refine lv_aload_n hx hb dX0_spreadKey_178 rfl (lv_at hl_2722 5 rfl) ?_
            refine va_get (D := E.1) (ci := 2) (v := .ref qt) (C := RX0) (T := TX0) (N := 5) hx hb hts in_X0 hown hK hP_2721 0 rfl rfl 3 (by decide) w_2 (fun _ h9 => h9) rfl dX0_spreadKey_179 ?_
            refine lv_iload hx hb dX0_spreadKey_182 (lv_at hl_2722 0 rfl) ?_
            refine g_iald (e0 := 2) hx hb hK hP_2721 2 0 rfl rfl (by omega) (by omega) dX0_spreadKey_184 ?_
            refine lv_ixor hx hb dX0_spreadKey_185 ?_
            refine lv_topi (fun v_2727 ev_2727 => ?_)
            refine g_iast (e0 := (16 + 4 * i_2677) + 2) hx hb hK hP_2721 hD_2721 hS_2721 1 0 rfl rfl (by omega) (by omega) dX0_spreadKey_186 (fun H_2728 locs_2728 hP_2728 hD_2728 hS_2728 => ?_)
            replace hP_2728 : va_P E.1 vwCl [(h, .inr (2, [.ref qk, .ref qc, .ref qv, .ref qt, .int 10])), (qk, .inl (E.2.1, 240, .inl (upd (upd (upd z_2677.2.1 ((16 + 4 * i_2677) + 0) v_2713) ((16 + 4 * i_2677) + 1) v_2720) ((16 + 4 * i_2677) + 2) v_2727))), (qt, .inl (E.2.1, 4, .inl (upd (upd (upd (upd z_2677.2.2 0 (z_2677.2.1 (((16 + 4 * i_2677) - 4) + 0))) 1 (z_2677.2.1 (((16 + 4 * i_2677) - 4) + 1))) 2 (z_2677.2.1 (((16 + 4 * i_2677) - 4) + 2))) 3 (z_2677.2.1 (((16 + 4 * i_2677) - 4) + 3))))), (a2, .inl (E.2.1, n2, .inl q.2)), (h2, .inr (6, [.ref a2, .int q.1]))] H_2728 := hP_2728
            replace hD_2728 : va_D A [(h, .inr (2, [.ref qk, .ref qc, .ref qv, .ref qt, .int 10])), (qk, .inl (E.2.1, 240, .inl (upd (upd (upd z_2677.2.1 ((16 + 4 * i_2677) + 0) v_2713) ((16 + 4 * i_2677) + 1) v_2720) ((16 + 4 * i_2677) + 2) v_2727))), (qt, .inl (E.2.1, 4, .inl (upd (upd (upd (upd z_2677.2.2 0 (z_2677.2.1 (((16 + 4 * i_2677) - 4) + 0))) 1 (z_2677.2.1 (((16 + 4 * i_2677) - 4) + 1))) 2 (z_2677.2.1 (((16 + 4 * i_2677) - 4) + 2))) 3 (z_2677.2.1 (((16 + 4 * i_2677) - 4) + 3))))), (a2, .inl (E.2.1, n2, .inl q.2)), (h2, .inr (6, [.ref a2, .int q.1]))] := hD_2728
            clear hP_2721 hD_2721 hS_2721
            refine lv_iinc (v := 3) (lv' := [(6, .int 3), (5, .int (nI ((16 + 4 * i_2677) % 16))), (4, .int (nI (16 + 4 * i_2677))), (3, .int z_2677.1), (2, .int 16), (0, .ref h), (1, .ref h2)]) hx hb dX0_spreadKey_187 hl_2722 (k := 0) rfl (by decide) (by decide) rfl (fun ls_2729 hl_2729 => ?_)
            clear hl_2722
            refine lv_goto (tgt := 151) hx hb dX0_spreadKey_190 (by decide) ?_
            refine lv_iload hx hb dX0_spreadKey_151 (lv_at hl_2729 0 rfl) ?_
            refine lv_iconst (v := 4) hx hb dX0_spreadKey_153 (by decide) ?_
            refine lv_icmp_ge (tgt := 193) hx hb dX0_spreadKey_154 (by decide) (fun c_2730 => absurd c_2730 (by decide)) (fun c_2730 => ?_)
            refine lv_aload_n hx hb dX0_spreadKey_157 rfl (lv_at hl_2729 5 rfl) ?_
            refine va_get (D := E.1) (ci := 2) (v := .ref qk) (C := RX0) (T := TX0) (N := 5) hx hb hts in_X0 hown hK hP_2728 0 rfl rfl 0 (by decide) w_1 (fun _ h9 => h9) rfl dX0_spreadKey_158 ?_
            refine lv_iload hx hb dX0_spreadKey_161 (lv_at hl_2729 2 rfl) ?_
            refine lv_iload hx hb dX0_spreadKey_163 (lv_at hl_2729 0 rfl) ?_
            refine lv_iadd hx hb dX0_spreadKey_165 ?_
            refine lv_topi (fun y_2731 ey_2731 => ?_)
            obtain rfl : y_2731 = (nI ((16 + 4 * i_2677) + 3)) := ey_2731.trans (nI_add _ _)
            refine lv_aload_n hx hb dX0_spreadKey_166 rfl (lv_at hl_2729 5 rfl) ?_
            refine va_get (D := E.1) (ci := 2) (v := .ref qk) (C := RX0) (T := TX0) (N := 5) hx hb hts in_X0 hown hK hP_2728 0 rfl rfl 0 (by decide) w_1 (fun _ h9 => h9) rfl dX0_spreadKey_167 ?_
            refine lv_iload hx hb dX0_spreadKey_170 (lv_at hl_2729 2 rfl) ?_
            refine lv_iload_n hx hb dX0_spreadKey_172 rfl (lv_at hl_2729 4 rfl) ?_
            refine lv_isub hx hb dX0_spreadKey_173 ?_
            refine lv_topi (fun y_2732 ey_2732 => ?_)
            obtain rfl : y_2732 = (nI ((16 + 4 * i_2677) - 16)) := ey_2732.trans (pk_sub (a := 16 + 4 * i_2677) (b := 16) (by omega))
            refine lv_iload hx hb dX0_spreadKey_174 (lv_at hl_2729 0 rfl) ?_
            refine lv_iadd hx hb dX0_spreadKey_176 ?_
            refine lv_topi (fun y_2733 ey_2733 => ?_)
            obtain rfl : y_2733 = (nI (((16 + 4 * i_2677) - 16) + 3)) := ey_2733.trans (nI_add _ _)
            refine g_iald (e0 := ((16 + 4 * i_2677) - 16) + 3) hx hb hK hP_2728 1 0 rfl rfl (by omega) (by omega) dX0_spreadKey_177 ?_
            refine lv_aload_n hx hb dX0_spreadKey_178 rfl (lv_at hl_2729 5 rfl) ?_
            refine va_get (D := E.1) (ci := 2) (v := .ref qt) (C := RX0) (T := TX0) (N := 5) hx hb hts in_X0 hown hK hP_2728 0 rfl rfl 3 (by decide) w_2 (fun _ h9 => h9) rfl dX0_spreadKey_179 ?_
            refine lv_iload hx hb dX0_spreadKey_182 (lv_at hl_2729 0 rfl) ?_
            refine g_iald (e0 := 3) hx hb hK hP_2728 2 0 rfl rfl (by omega) (by omega) dX0_spreadKey_184 ?_
            refine lv_ixor hx hb dX0_spreadKey_185 ?_
            refine lv_topi (fun v_2734 ev_2734 => ?_)
            refine g_iast (e0 := (16 + 4 * i_2677) + 3) hx hb hK hP_2728 hD_2728 hS_2728 1 0 rfl rfl (by omega) (by omega) dX0_spreadKey_186 (fun H_2735 locs_2735 hP_2735 hD_2735 hS_2735 => ?_)
            replace hP_2735 : va_P E.1 vwCl [(h, .inr (2, [.ref qk, .ref qc, .ref qv, .ref qt, .int 10])), (qk, .inl (E.2.1, 240, .inl (upd (upd (upd (upd z_2677.2.1 ((16 + 4 * i_2677) + 0) v_2713) ((16 + 4 * i_2677) + 1) v_2720) ((16 + 4 * i_2677) + 2) v_2727) ((16 + 4 * i_2677) + 3) v_2734))), (qt, .inl (E.2.1, 4, .inl (upd (upd (upd (upd z_2677.2.2 0 (z_2677.2.1 (((16 + 4 * i_2677) - 4) + 0))) 1 (z_2677.2.1 (((16 + 4 * i_2677) - 4) + 1))) 2 (z_2677.2.1 (((16 + 4 * i_2677) - 4) + 2))) 3 (z_2677.2.1 (((16 + 4 * i_2677) - 4) + 3))))), (a2, .inl (E.2.1, n2, .inl q.2)), (h2, .inr (6, [.ref a2, .int q.1]))] H_2735 := hP_2735
            replace hD_2735 : va_D A [(h, .inr (2, [.ref qk, .ref qc, .ref qv, .ref qt, .int 10])), (qk, .inl (E.2.1, 240, .inl (upd (upd (upd (upd z_2677.2.1 ((16 + 4 * i_2677) + 0) v_2713) ((16 + 4 * i_2677) + 1) v_2720) ((16 + 4 * i_2677) + 2) v_2727) ((16 + 4 * i_2677) + 3) v_2734))), (qt, .inl (E.2.1, 4, .inl (upd (upd (upd (upd z_2677.2.2 0 (z_2677.2.1 (((16 + 4 * i_2677) - 4) + 0))) 1 (z_2677.2.1 (((16 + 4 * i_2677) - 4) + 1))) 2 (z_2677.2.1 (((16 + 4 * i_2677) - 4) + 2))) 3 (z_2677.2.1 (((16 + 4 * i_2677) - 4) + 3))))), (a2, .inl (E.2.1, n2, .inl q.2)), (h2, .inr (6, [.ref a2, .int q.1]))] := hD_2735
            clear hP_2728 hD_2728 hS_2728
            refine lv_iinc (v := 4) (lv' := [(6, .int 4), (5, .int (nI ((16 + 4 * i_2677) % 16))), (4, .int (nI (16 + 4 * i_2677))), (3, .int z_2677.1), (2, .int 16), (0, .ref h), (1, .ref h2)]) hx hb dX0_spreadKey_187 hl_2729 (k := 0) rfl (by decide) (by decide) rfl (fun ls_2736 hl_2736 => ?_)
            clear hl_2729
            refine lv_goto (tgt := 151) hx hb dX0_spreadKey_190 (by decide) ?_
            refine lv_iload hx hb dX0_spreadKey_151 (lv_at hl_2736 0 rfl) ?_
            refine lv_iconst (v := 4) hx hb dX0_spreadKey_153 (by decide) ?_
            refine lv_icmp_ge (tgt := 193) hx hb dX0_spreadKey_154 (by decide) (fun c_2737 => ?_) (fun c_2737 => absurd (by decide) c_2737)
            refine lv_iinc (v := (nI ((16 + 4 * i_2677) + 4))) (lv' := [(4, .int (nI ((16 + 4 * i_2677) + 4))), (6, .int 4), (5, .int (nI ((16 + 4 * i_2677) % 16))), (3, .int z_2677.1), (2, .int 16), (0, .ref h), (1, .ref h2)]) hx hb dX0_spreadKey_193 hl_2736 (k := 2) rfl (nI_add _ 4) (by decide) rfl (fun ls_2738 hl_2738 => ?_)
            clear hl_2736
            refine lv_goto (tgt := 63) hx hb dX0_spreadKey_196 (by decide) ?_
            exact ih_2677 ((z_2677.1, (upd (upd (upd (upd z_2677.2.1 ((16 + 4 * i_2677) + 0) v_2713) ((16 + 4 * i_2677) + 1) v_2720) ((16 + 4 * i_2677) + 2) v_2727) ((16 + 4 * i_2677) + 3) v_2734), (upd (upd (upd (upd z_2677.2.2 0 (z_2677.2.1 (((16 + 4 * i_2677) - 4) + 0))) 1 (z_2677.2.1 (((16 + 4 * i_2677) - 4) + 1))) 2 (z_2677.2.1 (((16 + 4 * i_2677) - 4) + 2))) 3 (z_2677.2.1 (((16 + 4 * i_2677) - 4) + 3)))) : Int32 × (Nat → Int32) × (Nat → Int32)) _ _ _ (((show B_X0_spreadKey_63_t i_2677 z_2677 = _ from ((if_neg c_2706).trans ((if_neg c_2707).trans (gLet_eq ev_2713 (gLet_eq ev_2720 (gLet_eq ev_2727 (gLet_eq ev_2734 rfl))))))).symm.trans (congrArg (B_X0_spreadKey_63_t i_2677) hz_2677)).trans (itr_s _ _ _).symm) ⟨lv_sub hl_2738 [0, 3, 4, 5, 6] rfl, (hP_2735.sub [0, 1, 2, 3, 4] rfl), (hD_2735.sub [0, 1, 2, 3, 4] (by decide) rfl), hS_2735⟩
          · replace c_2707 : (16 + 4 * i_2677) % 16 = 16 := (nI_eq (a := (16 + 4 * i_2677) % 16) (b := 16) (by omega) (by omega)).mp c_2707
            refine lv_aload_n hx hb dX0_spreadKey_144 rfl (lv_at hl_2705 4 rfl) ?_
            refine gVv hF hl_2705 hV hP_2700 hD_2700 hS_2700 hA [0, 2] [1, 3, 4] (wc := [(h, .inr (2, [.ref qk, .ref qc, .ref qv, .ref qt, .int 10])), (qt, .inl (E.2.1, 4, .inl (upd (upd (upd (upd z_2677.2.2 0 (z_2677.2.1 (((16 + 4 * i_2677) - 4) + 0))) 1 (z_2677.2.1 (((16 + 4 * i_2677) - 4) + 1))) 2 (z_2677.2.1 (((16 + 4 * i_2677) - 4) + 2))) 3 (z_2677.2.1 (((16 + 4 * i_2677) - 4) + 3)))))]) (wr := [(qk, .inl (E.2.1, 240, .inl z_2677.2.1)), (a2, .inl (E.2.1, n2, .inl q.2)), (h2, .inr (6, [.ref a2, .int q.1]))]) rfl rfl rfl (by decide) 0 2 rfl rfl rfl (k_X0_substituteLast E l h qk qc qv qt 10 (upd (upd (upd (upd z_2677.2.2 0 (z_2677.2.1 (((16 + 4 * i_2677) - 4) + 0))) 1 (z_2677.2.1 (((16 + 4 * i_2677) - 4) + 1))) 2 (z_2677.2.1 (((16 + 4 * i_2677) - 4) + 2))) 3 (z_2677.2.1 (((16 + 4 * i_2677) - 4) + 3)))) (cwV 0 hts gX0_spreadKey_X0_substituteLast rfl rfl rfl (by decide +kernel) ⟨Nat.le_of_ble_eq_true rfl, Nat.le_of_ble_eq_true rfl⟩) rfl rfl rfl (Nat.le_of_ble_eq_true rfl) dX0_spreadKey_145 ⟨Nat.le_of_ble_eq_true rfl, Nat.le_of_ble_eq_true rfl⟩ (fun u_2739 H_2740 locs_2740 hu_2739 hP_2740 hD_2740 hS_2740 => ?_)
            replace hu_2739 : u_2739 = F_X0_substituteLast (upd (upd (upd (upd z_2677.2.2 0 (z_2677.2.1 (((16 + 4 * i_2677) - 4) + 0))) 1 (z_2677.2.1 (((16 + 4 * i_2677) - 4) + 1))) 2 (z_2677.2.1 (((16 + 4 * i_2677) - 4) + 2))) 3 (z_2677.2.1 (((16 + 4 * i_2677) - 4) + 3))) := hu_2739
            replace hP_2740 : va_P E.1 vwCl [(qk, .inl (E.2.1, 240, .inl z_2677.2.1)), (a2, .inl (E.2.1, n2, .inl q.2)), (h2, .inr (6, [.ref a2, .int q.1])), (h, .inr (2, [.ref qk, .ref qc, .ref qv, .ref qt, .int 10])), (qt, .inl (E.2.1, 4, .inl u_2739))] H_2740 := hP_2740
            replace hD_2740 : va_D A [(qk, .inl (E.2.1, 240, .inl z_2677.2.1)), (a2, .inl (E.2.1, n2, .inl q.2)), (h2, .inr (6, [.ref a2, .int q.1])), (h, .inr (2, [.ref qk, .ref qc, .ref qv, .ref qt, .int 10])), (qt, .inl (E.2.1, 4, .inl u_2739))] := hD_2740
            clear hP_2700 hD_2700 hS_2700
            refine lv_iconst (v := 0) hx hb dX0_spreadKey_148 (by decide) ?_
            refine lv_istore (lv' := [(6, .int 0), (5, .int (nI ((16 + 4 * i_2677) % 16))), (4, .int (nI (16 + 4 * i_2677))), (3, .int z_2677.1), (2, .int 16), (0, .ref h), (1, .ref h2)]) hx hb dX0_spreadKey_149 hl_2705 (by decide) rfl (fun ls_2741 hl_2741 => ?_)
            clear hl_2705
            refine lv_iload hx hb dX0_spreadKey_151 (lv_at hl_2741 0 rfl) ?_
            refine lv_iconst (v := 4) hx hb dX0_spreadKey_153 (by decide) ?_
            refine lv_icmp_ge (tgt := 193) hx hb dX0_spreadKey_154 (by decide) (fun c_2742 => absurd c_2742 (by decide)) (fun c_2742 => ?_)
            refine lv_aload_n hx hb dX0_spreadKey_157 rfl (lv_at hl_2741 5 rfl) ?_
            refine va_get (D := E.1) (ci := 2) (v := .ref qk) (C := RX0) (T := TX0) (N := 5) hx hb hts in_X0 hown hK hP_2740 3 rfl rfl 0 (by decide) w_1 (fun _ h9 => h9) rfl dX0_spreadKey_158 ?_
            refine lv_iload hx hb dX0_spreadKey_161 (lv_at hl_2741 2 rfl) ?_
            refine lv_iload hx hb dX0_spreadKey_163 (lv_at hl_2741 0 rfl) ?_
            refine lv_iadd hx hb dX0_spreadKey_165 ?_
            refine lv_topi (fun y_2743 ey_2743 => ?_)
            obtain rfl : y_2743 = (nI ((16 + 4 * i_2677) + 0)) := ey_2743.trans (nI_add _ _)
            refine lv_aload_n hx hb dX0_spreadKey_166 rfl (lv_at hl_2741 5 rfl) ?_
            refine va_get (D := E.1) (ci := 2) (v := .ref qk) (C := RX0) (T := TX0) (N := 5) hx hb hts in_X0 hown hK hP_2740 3 rfl rfl 0 (by decide) w_1 (fun _ h9 => h9) rfl dX0_spreadKey_167 ?_
            refine lv_iload hx hb dX0_spreadKey_170 (lv_at hl_2741 2 rfl) ?_
            refine lv_iload_n hx hb dX0_spreadKey_172 rfl (lv_at hl_2741 4 rfl) ?_
            refine lv_isub hx hb dX0_spreadKey_173 ?_
            refine lv_topi (fun y_2744 ey_2744 => ?_)
            obtain rfl : y_2744 = (nI ((16 + 4 * i_2677) - 16)) := ey_2744.trans (pk_sub (a := 16 + 4 * i_2677) (b := 16) (by omega))
            refine lv_iload hx hb dX0_spreadKey_174 (lv_at hl_2741 0 rfl) ?_
            refine lv_iadd hx hb dX0_spreadKey_176 ?_
            refine lv_topi (fun y_2745 ey_2745 => ?_)
            obtain rfl : y_2745 = (nI (((16 + 4 * i_2677) - 16) + 0)) := ey_2745.trans (nI_add _ _)
            refine g_iald (e0 := ((16 + 4 * i_2677) - 16) + 0) hx hb hK hP_2740 0 0 rfl rfl (by omega) (by omega) dX0_spreadKey_177 ?_
            refine lv_aload_n hx hb dX0_spreadKey_178 rfl (lv_at hl_2741 5 rfl) ?_
            refine va_get (D := E.1) (ci := 2) (v := .ref qt) (C := RX0) (T := TX0) (N := 5) hx hb hts in_X0 hown hK hP_2740 3 rfl rfl 3 (by decide) w_2 (fun _ h9 => h9) rfl dX0_spreadKey_179 ?_
            refine lv_iload hx hb dX0_spreadKey_182 (lv_at hl_2741 0 rfl) ?_
            refine g_iald (e0 := 0) hx hb hK hP_2740 4 0 rfl rfl (by omega) (by omega) dX0_spreadKey_184 ?_
            refine lv_ixor hx hb dX0_spreadKey_185 ?_
            refine g_iast (e0 := (16 + 4 * i_2677) + 0) hx hb hK hP_2740 hD_2740 hS_2740 0 0 rfl rfl (by omega) (by omega) dX0_spreadKey_186 (fun H_2746 locs_2746 hP_2746 hD_2746 hS_2746 => ?_)
            replace hP_2746 : va_P E.1 vwCl [(qk, .inl (E.2.1, 240, .inl (upd z_2677.2.1 ((16 + 4 * i_2677) + 0) ((z_2677.2.1 (((16 + 4 * i_2677) - 16) + 0)) ^^^ (u_2739 0))))), (a2, .inl (E.2.1, n2, .inl q.2)), (h2, .inr (6, [.ref a2, .int q.1])), (h, .inr (2, [.ref qk, .ref qc, .ref qv, .ref qt, .int 10])), (qt, .inl (E.2.1, 4, .inl u_2739))] H_2746 := hP_2746
            replace hD_2746 : va_D A [(qk, .inl (E.2.1, 240, .inl (upd z_2677.2.1 ((16 + 4 * i_2677) + 0) ((z_2677.2.1 (((16 + 4 * i_2677) - 16) + 0)) ^^^ (u_2739 0))))), (a2, .inl (E.2.1, n2, .inl q.2)), (h2, .inr (6, [.ref a2, .int q.1])), (h, .inr (2, [.ref qk, .ref qc, .ref qv, .ref qt, .int 10])), (qt, .inl (E.2.1, 4, .inl u_2739))] := hD_2746
            clear hP_2740 hD_2740 hS_2740
            refine lv_iinc (v := 1) (lv' := [(6, .int 1), (5, .int (nI ((16 + 4 * i_2677) % 16))), (4, .int (nI (16 + 4 * i_2677))), (3, .int z_2677.1), (2, .int 16), (0, .ref h), (1, .ref h2)]) hx hb dX0_spreadKey_187 hl_2741 (k := 0) rfl (by decide) (by decide) rfl (fun ls_2747 hl_2747 => ?_)
            clear hl_2741
            refine lv_goto (tgt := 151) hx hb dX0_spreadKey_190 (by decide) ?_
            refine lv_iload hx hb dX0_spreadKey_151 (lv_at hl_2747 0 rfl) ?_
            refine lv_iconst (v := 4) hx hb dX0_spreadKey_153 (by decide) ?_
            refine lv_icmp_ge (tgt := 193) hx hb dX0_spreadKey_154 (by decide) (fun c_2748 => absurd c_2748 (by decide)) (fun c_2748 => ?_)
            refine lv_aload_n hx hb dX0_spreadKey_157 rfl (lv_at hl_2747 5 rfl) ?_
            refine va_get (D := E.1) (ci := 2) (v := .ref qk) (C := RX0) (T := TX0) (N := 5) hx hb hts in_X0 hown hK hP_2746 3 rfl rfl 0 (by decide) w_1 (fun _ h9 => h9) rfl dX0_spreadKey_158 ?_
            refine lv_iload hx hb dX0_spreadKey_161 (lv_at hl_2747 2 rfl) ?_
            refine lv_iload hx hb dX0_spreadKey_163 (lv_at hl_2747 0 rfl) ?_
            refine lv_iadd hx hb dX0_spreadKey_165 ?_
            refine lv_topi (fun y_2749 ey_2749 => ?_)
            obtain rfl : y_2749 = (nI ((16 + 4 * i_2677) + 1)) := ey_2749.trans (nI_add _ _)
            refine lv_aload_n hx hb dX0_spreadKey_166 rfl (lv_at hl_2747 5 rfl) ?_
            refine va_get (D := E.1) (ci := 2) (v := .ref qk) (C := RX0) (T := TX0) (N := 5) hx hb hts in_X0 hown hK hP_2746 3 rfl rfl 0 (by decide) w_1 (fun _ h9 => h9) rfl dX0_spreadKey_167 ?_
            refine lv_iload hx hb dX0_spreadKey_170 (lv_at hl_2747 2 rfl) ?_
            refine lv_iload_n hx hb dX0_spreadKey_172 rfl (lv_at hl_2747 4 rfl) ?_
            refine lv_isub hx hb dX0_spreadKey_173 ?_
            refine lv_topi (fun y_2750 ey_2750 => ?_)
            obtain rfl : y_2750 = (nI ((16 + 4 * i_2677) - 16)) := ey_2750.trans (pk_sub (a := 16 + 4 * i_2677) (b := 16) (by omega))
            refine lv_iload hx hb dX0_spreadKey_174 (lv_at hl_2747 0 rfl) ?_
            refine lv_iadd hx hb dX0_spreadKey_176 ?_
            refine lv_topi (fun y_2751 ey_2751 => ?_)
            obtain rfl : y_2751 = (nI (((16 + 4 * i_2677) - 16) + 1)) := ey_2751.trans (nI_add _ _)
            refine g_iald (e0 := ((16 + 4 * i_2677) - 16) + 1) hx hb hK hP_2746 0 0 rfl rfl (by omega) (by omega) dX0_spreadKey_177 ?_
            refine lv_aload_n hx hb dX0_spreadKey_178 rfl (lv_at hl_2747 5 rfl) ?_
            refine va_get (D := E.1) (ci := 2) (v := .ref qt) (C := RX0) (T := TX0) (N := 5) hx hb hts in_X0 hown hK hP_2746 3 rfl rfl 3 (by decide) w_2 (fun _ h9 => h9) rfl dX0_spreadKey_179 ?_
            refine lv_iload hx hb dX0_spreadKey_182 (lv_at hl_2747 0 rfl) ?_
            refine g_iald (e0 := 1) hx hb hK hP_2746 4 0 rfl rfl (by omega) (by omega) dX0_spreadKey_184 ?_
            refine lv_ixor hx hb dX0_spreadKey_185 ?_
            refine lv_topi (fun v_2752 ev_2752 => ?_)
            refine g_iast (e0 := (16 + 4 * i_2677) + 1) hx hb hK hP_2746 hD_2746 hS_2746 0 0 rfl rfl (by omega) (by omega) dX0_spreadKey_186 (fun H_2753 locs_2753 hP_2753 hD_2753 hS_2753 => ?_)
            replace hP_2753 : va_P E.1 vwCl [(qk, .inl (E.2.1, 240, .inl (upd (upd z_2677.2.1 ((16 + 4 * i_2677) + 0) ((z_2677.2.1 (((16 + 4 * i_2677) - 16) + 0)) ^^^ (u_2739 0))) ((16 + 4 * i_2677) + 1) v_2752))), (a2, .inl (E.2.1, n2, .inl q.2)), (h2, .inr (6, [.ref a2, .int q.1])), (h, .inr (2, [.ref qk, .ref qc, .ref qv, .ref qt, .int 10])), (qt, .inl (E.2.1, 4, .inl u_2739))] H_2753 := hP_2753
            replace hD_2753 : va_D A [(qk, .inl (E.2.1, 240, .inl (upd (upd z_2677.2.1 ((16 + 4 * i_2677) + 0) ((z_2677.2.1 (((16 + 4 * i_2677) - 16) + 0)) ^^^ (u_2739 0))) ((16 + 4 * i_2677) + 1) v_2752))), (a2, .inl (E.2.1, n2, .inl q.2)), (h2, .inr (6, [.ref a2, .int q.1])), (h, .inr (2, [.ref qk, .ref qc, .ref qv, .ref qt, .int 10])), (qt, .inl (E.2.1, 4, .inl u_2739))] := hD_2753
            clear hP_2746 hD_2746 hS_2746
            refine lv_iinc (v := 2) (lv' := [(6, .int 2), (5, .int (nI ((16 + 4 * i_2677) % 16))), (4, .int (nI (16 + 4 * i_2677))), (3, .int z_2677.1), (2, .int 16), (0, .ref h), (1, .ref h2)]) hx hb dX0_spreadKey_187 hl_2747 (k := 0) rfl (by decide) (by decide) rfl (fun ls_2754 hl_2754 => ?_)
            clear hl_2747
            refine lv_goto (tgt := 151) hx hb dX0_spreadKey_190 (by decide) ?_
            refine lv_iload hx hb dX0_spreadKey_151 (lv_at hl_2754 0 rfl) ?_
            refine lv_iconst (v := 4) hx hb dX0_spreadKey_153 (by decide) ?_
            refine lv_icmp_ge (tgt := 193) hx hb dX0_spreadKey_154 (by decide) (fun c_2755 => absurd c_2755 (by decide)) (fun c_2755 => ?_)
            refine lv_aload_n hx hb dX0_spreadKey_157 rfl (lv_at hl_2754 5 rfl) ?_
            refine va_get (D := E.1) (ci := 2) (v := .ref qk) (C := RX0) (T := TX0) (N := 5) hx hb hts in_X0 hown hK hP_2753 3 rfl rfl 0 (by decide) w_1 (fun _ h9 => h9) rfl dX0_spreadKey_158 ?_
            refine lv_iload hx hb dX0_spreadKey_161 (lv_at hl_2754 2 rfl) ?_
            refine lv_iload hx hb dX0_spreadKey_163 (lv_at hl_2754 0 rfl) ?_
            refine lv_iadd hx hb dX0_spreadKey_165 ?_
            refine lv_topi (fun y_2756 ey_2756 => ?_)
            obtain rfl : y_2756 = (nI ((16 + 4 * i_2677) + 2)) := ey_2756.trans (nI_add _ _)
            refine lv_aload_n hx hb dX0_spreadKey_166 rfl (lv_at hl_2754 5 rfl) ?_
            refine va_get (D := E.1) (ci := 2) (v := .ref qk) (C := RX0) (T := TX0) (N := 5) hx hb hts in_X0 hown hK hP_2753 3 rfl rfl 0 (by decide) w_1 (fun _ h9 => h9) rfl dX0_spreadKey_167 ?_
            refine lv_iload hx hb dX0_spreadKey_170 (lv_at hl_2754 2 rfl) ?_
            refine lv_iload_n hx hb dX0_spreadKey_172 rfl (lv_at hl_2754 4 rfl) ?_
            refine lv_isub hx hb dX0_spreadKey_173 ?_
            refine lv_topi (fun y_2757 ey_2757 => ?_)
            obtain rfl : y_2757 = (nI ((16 + 4 * i_2677) - 16)) := ey_2757.trans (pk_sub (a := 16 + 4 * i_2677) (b := 16) (by omega))
            refine lv_iload hx hb dX0_spreadKey_174 (lv_at hl_2754 0 rfl) ?_
            refine lv_iadd hx hb dX0_spreadKey_176 ?_
            refine lv_topi (fun y_2758 ey_2758 => ?_)
            obtain rfl : y_2758 = (nI (((16 + 4 * i_2677) - 16) + 2)) := ey_2758.trans (nI_add _ _)
            refine g_iald (e0 := ((16 + 4 * i_2677) - 16) + 2) hx hb hK hP_2753 0 0 rfl rfl (by omega) (by omega) dX0_spreadKey_177 ?_
            refine lv_aload_n hx hb dX0_spreadKey_178 rfl (lv_at hl_2754 5 rfl) ?_
            refine va_get (D := E.1) (ci := 2) (v := .ref qt) (C := RX0) (T := TX0) (N := 5) hx hb hts in_X0 hown hK hP_2753 3 rfl rfl 3 (by decide) w_2 (fun _ h9 => h9) rfl dX0_spreadKey_179 ?_
            refine lv_iload hx hb dX0_spreadKey_182 (lv_at hl_2754 0 rfl) ?_
            refine g_iald (e0 := 2) hx hb hK hP_2753 4 0 rfl rfl (by omega) (by omega) dX0_spreadKey_184 ?_
            refine lv_ixor hx hb dX0_spreadKey_185 ?_
            refine lv_topi (fun v_2759 ev_2759 => ?_)
            refine g_iast (e0 := (16 + 4 * i_2677) + 2) hx hb hK hP_2753 hD_2753 hS_2753 0 0 rfl rfl (by omega) (by omega) dX0_spreadKey_186 (fun H_2760 locs_2760 hP_2760 hD_2760 hS_2760 => ?_)
            replace hP_2760 : va_P E.1 vwCl [(qk, .inl (E.2.1, 240, .inl (upd (upd (upd z_2677.2.1 ((16 + 4 * i_2677) + 0) ((z_2677.2.1 (((16 + 4 * i_2677) - 16) + 0)) ^^^ (u_2739 0))) ((16 + 4 * i_2677) + 1) v_2752) ((16 + 4 * i_2677) + 2) v_2759))), (a2, .inl (E.2.1, n2, .inl q.2)), (h2, .inr (6, [.ref a2, .int q.1])), (h, .inr (2, [.ref qk, .ref qc, .ref qv, .ref qt, .int 10])), (qt, .inl (E.2.1, 4, .inl u_2739))] H_2760 := hP_2760
            replace hD_2760 : va_D A [(qk, .inl (E.2.1, 240, .inl (upd (upd (upd z_2677.2.1 ((16 + 4 * i_2677) + 0) ((z_2677.2.1 (((16 + 4 * i_2677) - 16) + 0)) ^^^ (u_2739 0))) ((16 + 4 * i_2677) + 1) v_2752) ((16 + 4 * i_2677) + 2) v_2759))), (a2, .inl (E.2.1, n2, .inl q.2)), (h2, .inr (6, [.ref a2, .int q.1])), (h, .inr (2, [.ref qk, .ref qc, .ref qv, .ref qt, .int 10])), (qt, .inl (E.2.1, 4, .inl u_2739))] := hD_2760
            clear hP_2753 hD_2753 hS_2753
            refine lv_iinc (v := 3) (lv' := [(6, .int 3), (5, .int (nI ((16 + 4 * i_2677) % 16))), (4, .int (nI (16 + 4 * i_2677))), (3, .int z_2677.1), (2, .int 16), (0, .ref h), (1, .ref h2)]) hx hb dX0_spreadKey_187 hl_2754 (k := 0) rfl (by decide) (by decide) rfl (fun ls_2761 hl_2761 => ?_)
            clear hl_2754
            refine lv_goto (tgt := 151) hx hb dX0_spreadKey_190 (by decide) ?_
            refine lv_iload hx hb dX0_spreadKey_151 (lv_at hl_2761 0 rfl) ?_
            refine lv_iconst (v := 4) hx hb dX0_spreadKey_153 (by decide) ?_
            refine lv_icmp_ge (tgt := 193) hx hb dX0_spreadKey_154 (by decide) (fun c_2762 => absurd c_2762 (by decide)) (fun c_2762 => ?_)
            refine lv_aload_n hx hb dX0_spreadKey_157 rfl (lv_at hl_2761 5 rfl) ?_
            refine va_get (D := E.1) (ci := 2) (v := .ref qk) (C := RX0) (T := TX0) (N := 5) hx hb hts in_X0 hown hK hP_2760 3 rfl rfl 0 (by decide) w_1 (fun _ h9 => h9) rfl dX0_spreadKey_158 ?_
            refine lv_iload hx hb dX0_spreadKey_161 (lv_at hl_2761 2 rfl) ?_
            refine lv_iload hx hb dX0_spreadKey_163 (lv_at hl_2761 0 rfl) ?_
            refine lv_iadd hx hb dX0_spreadKey_165 ?_
            refine lv_topi (fun y_2763 ey_2763 => ?_)
            obtain rfl : y_2763 = (nI ((16 + 4 * i_2677) + 3)) := ey_2763.trans (nI_add _ _)
            refine lv_aload_n hx hb dX0_spreadKey_166 rfl (lv_at hl_2761 5 rfl) ?_
            refine va_get (D := E.1) (ci := 2) (v := .ref qk) (C := RX0) (T := TX0) (N := 5) hx hb hts in_X0 hown hK hP_2760 3 rfl rfl 0 (by decide) w_1 (fun _ h9 => h9) rfl dX0_spreadKey_167 ?_
            refine lv_iload hx hb dX0_spreadKey_170 (lv_at hl_2761 2 rfl) ?_
            refine lv_iload_n hx hb dX0_spreadKey_172 rfl (lv_at hl_2761 4 rfl) ?_
            refine lv_isub hx hb dX0_spreadKey_173 ?_
            refine lv_topi (fun y_2764 ey_2764 => ?_)
            obtain rfl : y_2764 = (nI ((16 + 4 * i_2677) - 16)) := ey_2764.trans (pk_sub (a := 16 + 4 * i_2677) (b := 16) (by omega))
            refine lv_iload hx hb dX0_spreadKey_174 (lv_at hl_2761 0 rfl) ?_
            refine lv_iadd hx hb dX0_spreadKey_176 ?_
            refine lv_topi (fun y_2765 ey_2765 => ?_)
            obtain rfl : y_2765 = (nI (((16 + 4 * i_2677) - 16) + 3)) := ey_2765.trans (nI_add _ _)
            refine g_iald (e0 := ((16 + 4 * i_2677) - 16) + 3) hx hb hK hP_2760 0 0 rfl rfl (by omega) (by omega) dX0_spreadKey_177 ?_
            refine lv_aload_n hx hb dX0_spreadKey_178 rfl (lv_at hl_2761 5 rfl) ?_
            refine va_get (D := E.1) (ci := 2) (v := .ref qt) (C := RX0) (T := TX0) (N := 5) hx hb hts in_X0 hown hK hP_2760 3 rfl rfl 3 (by decide) w_2 (fun _ h9 => h9) rfl dX0_spreadKey_179 ?_
            refine lv_iload hx hb dX0_spreadKey_182 (lv_at hl_2761 0 rfl) ?_
            refine g_iald (e0 := 3) hx hb hK hP_2760 4 0 rfl rfl (by omega) (by omega) dX0_spreadKey_184 ?_
            refine lv_ixor hx hb dX0_spreadKey_185 ?_
            refine lv_topi (fun v_2766 ev_2766 => ?_)
            refine g_iast (e0 := (16 + 4 * i_2677) + 3) hx hb hK hP_2760 hD_2760 hS_2760 0 0 rfl rfl (by omega) (by omega) dX0_spreadKey_186 (fun H_2767 locs_2767 hP_2767 hD_2767 hS_2767 => ?_)
            replace hP_2767 : va_P E.1 vwCl [(qk, .inl (E.2.1, 240, .inl (upd (upd (upd (upd z_2677.2.1 ((16 + 4 * i_2677) + 0) ((z_2677.2.1 (((16 + 4 * i_2677) - 16) + 0)) ^^^ (u_2739 0))) ((16 + 4 * i_2677) + 1) v_2752) ((16 + 4 * i_2677) + 2) v_2759) ((16 + 4 * i_2677) + 3) v_2766))), (a2, .inl (E.2.1, n2, .inl q.2)), (h2, .inr (6, [.ref a2, .int q.1])), (h, .inr (2, [.ref qk, .ref qc, .ref qv, .ref qt, .int 10])), (qt, .inl (E.2.1, 4, .inl u_2739))] H_2767 := hP_2767
            replace hD_2767 : va_D A [(qk, .inl (E.2.1, 240, .inl (upd (upd (upd (upd z_2677.2.1 ((16 + 4 * i_2677) + 0) ((z_2677.2.1 (((16 + 4 * i_2677) - 16) + 0)) ^^^ (u_2739 0))) ((16 + 4 * i_2677) + 1) v_2752) ((16 + 4 * i_2677) + 2) v_2759) ((16 + 4 * i_2677) + 3) v_2766))), (a2, .inl (E.2.1, n2, .inl q.2)), (h2, .inr (6, [.ref a2, .int q.1])), (h, .inr (2, [.ref qk, .ref qc, .ref qv, .ref qt, .int 10])), (qt, .inl (E.2.1, 4, .inl u_2739))] := hD_2767
            clear hP_2760 hD_2760 hS_2760
            refine lv_iinc (v := 4) (lv' := [(6, .int 4), (5, .int (nI ((16 + 4 * i_2677) % 16))), (4, .int (nI (16 + 4 * i_2677))), (3, .int z_2677.1), (2, .int 16), (0, .ref h), (1, .ref h2)]) hx hb dX0_spreadKey_187 hl_2761 (k := 0) rfl (by decide) (by decide) rfl (fun ls_2768 hl_2768 => ?_)
            clear hl_2761
            refine lv_goto (tgt := 151) hx hb dX0_spreadKey_190 (by decide) ?_
            refine lv_iload hx hb dX0_spreadKey_151 (lv_at hl_2768 0 rfl) ?_
            refine lv_iconst (v := 4) hx hb dX0_spreadKey_153 (by decide) ?_
            refine lv_icmp_ge (tgt := 193) hx hb dX0_spreadKey_154 (by decide) (fun c_2769 => ?_) (fun c_2769 => absurd (by decide) c_2769)
            refine lv_iinc (v := (nI ((16 + 4 * i_2677) + 4))) (lv' := [(4, .int (nI ((16 + 4 * i_2677) + 4))), (6, .int 4), (5, .int (nI ((16 + 4 * i_2677) % 16))), (3, .int z_2677.1), (2, .int 16), (0, .ref h), (1, .ref h2)]) hx hb dX0_spreadKey_193 hl_2768 (k := 2) rfl (nI_add _ 4) (by decide) rfl (fun ls_2770 hl_2770 => ?_)
            clear hl_2768
            refine lv_goto (tgt := 63) hx hb dX0_spreadKey_196 (by decide) ?_
            exact ih_2677 ((z_2677.1, (upd (upd (upd (upd z_2677.2.1 ((16 + 4 * i_2677) + 0) ((z_2677.2.1 (((16 + 4 * i_2677) - 16) + 0)) ^^^ (u_2739 0))) ((16 + 4 * i_2677) + 1) v_2752) ((16 + 4 * i_2677) + 2) v_2759) ((16 + 4 * i_2677) + 3) v_2766), u_2739) : Int32 × (Nat → Int32) × (Nat → Int32)) _ _ _ (((show B_X0_spreadKey_63_t i_2677 z_2677 = _ from ((if_neg c_2706).trans ((if_pos c_2707).trans (gLet_eq hu_2739 (gLet_eq ev_2752 (gLet_eq ev_2759 (gLet_eq ev_2766 rfl))))))).symm.trans (congrArg (B_X0_spreadKey_63_t i_2677) hz_2677)).trans (itr_s _ _ _).symm) ⟨lv_sub hl_2770 [0, 3, 4, 5, 6] rfl, (hP_2767.sub [3, 0, 4, 1, 2] rfl), (hD_2767.sub [3, 0, 4, 1, 2] (by decide) rfl), hS_2767⟩
        · replace c_2706 : (16 + 4 * i_2677) % 16 = 0 := (nI_eq (a := (16 + 4 * i_2677) % 16) (b := 0) (by omega) (by omega)).mp c_2706
          refine lv_aload_n hx hb dX0_spreadKey_124 rfl (lv_at hl_2705 4 rfl) ?_
          refine lv_iload_n hx hb dX0_spreadKey_125 rfl (lv_at hl_2705 2 rfl) ?_
          refine gVv hF hl_2705 hV hP_2700 hD_2700 hS_2700 hA [0, 2] [1, 3, 4] (wc := [(h, .inr (2, [.ref qk, .ref qc, .ref qv, .ref qt, .int 10])), (qt, .inl (E.2.1, 4, .inl (upd (upd (upd (upd z_2677.2.2 0 (z_2677.2.1 (((16 + 4 * i_2677) - 4) + 0))) 1 (z_2677.2.1 (((16 + 4 * i_2677) - 4) + 1))) 2 (z_2677.2.1 (((16 + 4 * i_2677) - 4) + 2))) 3 (z_2677.2.1 (((16 + 4 * i_2677) - 4) + 3)))))]) (wr := [(qk, .inl (E.2.1, 240, .inl z_2677.2.1)), (a2, .inl (E.2.1, n2, .inl q.2)), (h2, .inr (6, [.ref a2, .int q.1]))]) rfl rfl rfl (by decide) 0 2 rfl rfl rfl (k_X0_turnLast E l h qk qc qv qt 10 (upd (upd (upd (upd z_2677.2.2 0 (z_2677.2.1 (((16 + 4 * i_2677) - 4) + 0))) 1 (z_2677.2.1 (((16 + 4 * i_2677) - 4) + 1))) 2 (z_2677.2.1 (((16 + 4 * i_2677) - 4) + 2))) 3 (z_2677.2.1 (((16 + 4 * i_2677) - 4) + 3))) z_2677.1) (cwV 1 hts gX0_spreadKey_X0_turnLast rfl rfl rfl (by decide +kernel) ⟨Nat.le_of_ble_eq_true rfl, Nat.le_of_ble_eq_true rfl⟩) rfl rfl rfl (Nat.le_of_ble_eq_true rfl) dX0_spreadKey_126 ⟨Nat.le_of_ble_eq_true rfl, Nat.le_of_ble_eq_true rfl⟩ (fun u_2771 H_2772 locs_2772 hu_2771 hP_2772 hD_2772 hS_2772 => ?_)
          replace hu_2771 : u_2771 = F_X0_turnLast (upd (upd (upd (upd z_2677.2.2 0 (z_2677.2.1 (((16 + 4 * i_2677) - 4) + 0))) 1 (z_2677.2.1 (((16 + 4 * i_2677) - 4) + 1))) 2 (z_2677.2.1 (((16 + 4 * i_2677) - 4) + 2))) 3 (z_2677.2.1 (((16 + 4 * i_2677) - 4) + 3))) z_2677.1 := hu_2771
          replace hP_2772 : va_P E.1 vwCl [(qk, .inl (E.2.1, 240, .inl z_2677.2.1)), (a2, .inl (E.2.1, n2, .inl q.2)), (h2, .inr (6, [.ref a2, .int q.1])), (h, .inr (2, [.ref qk, .ref qc, .ref qv, .ref qt, .int 10])), (qt, .inl (E.2.1, 4, .inl u_2771))] H_2772 := hP_2772
          replace hD_2772 : va_D A [(qk, .inl (E.2.1, 240, .inl z_2677.2.1)), (a2, .inl (E.2.1, n2, .inl q.2)), (h2, .inr (6, [.ref a2, .int q.1])), (h, .inr (2, [.ref qk, .ref qc, .ref qv, .ref qt, .int 10])), (qt, .inl (E.2.1, 4, .inl u_2771))] := hD_2772
          clear hP_2700 hD_2700 hS_2700
          refine lv_iload_n hx hb dX0_spreadKey_129 rfl (lv_at hl_2705 2 rfl) ?_
          refine gSi hF hl_2705 hV hP_2772 hD_2772 hS_2772 hA [] [0, 1, 2, 3, 4] (wc := []) (wr := [(qk, .inl (E.2.1, 240, .inl z_2677.2.1)), (a2, .inl (E.2.1, n2, .inl q.2)), (h2, .inr (6, [.ref a2, .int q.1])), (h, .inr (2, [.ref qk, .ref qc, .ref qv, .ref qt, .int 10])), (qt, .inl (E.2.1, 4, .inl u_2771))]) rfl rfl rfl (by decide) (k_X0_twice E l z_2677.1) (va_cwS 1 hts gX0_spreadKey_X0_twice rfl rfl rfl (by decide +kernel) ⟨Nat.le_of_ble_eq_true rfl, Nat.le_of_ble_eq_true rfl⟩) rfl rfl (Nat.le_of_ble_eq_true rfl) dX0_spreadKey_130 ⟨Nat.le_of_ble_eq_true rfl, Nat.le_of_ble_eq_true rfl⟩ (fun r_2773 _ H_2774 locs_2774 hu_2773 hP_2774 hD_2774 hS_2774 => ?_)
          have er_2773 : r_2773 = F_X0_twice z_2677.1 := hu_2773
          clear hu_2773
          replace hP_2774 : va_P E.1 vwCl [(qk, .inl (E.2.1, 240, .inl z_2677.2.1)), (a2, .inl (E.2.1, n2, .inl q.2)), (h2, .inr (6, [.ref a2, .int q.1])), (h, .inr (2, [.ref qk, .ref qc, .ref qv, .ref qt, .int 10])), (qt, .inl (E.2.1, 4, .inl u_2771))] H_2774 := hP_2774
          replace hD_2774 : va_D A [(qk, .inl (E.2.1, 240, .inl z_2677.2.1)), (a2, .inl (E.2.1, n2, .inl q.2)), (h2, .inr (6, [.ref a2, .int q.1])), (h, .inr (2, [.ref qk, .ref qc, .ref qv, .ref qt, .int 10])), (qt, .inl (E.2.1, 4, .inl u_2771))] := hD_2774
          clear hP_2772 hD_2772 hS_2772
          refine lv_istore_n (lv' := [(3, .int r_2773), (5, .int (nI ((16 + 4 * i_2677) % 16))), (4, .int (nI (16 + 4 * i_2677))), (2, .int 16), (0, .ref h), (1, .ref h2)]) hx hb dX0_spreadKey_133 rfl hl_2705 (by decide) rfl (fun ls_2775 hl_2775 => ?_)
          clear hl_2705
          refine lv_goto (tgt := 148) hx hb dX0_spreadKey_134 (by decide) ?_
          refine lv_iconst (v := 0) hx hb dX0_spreadKey_148 (by decide) ?_
          refine lv_istore (lv' := [(6, .int 0), (3, .int r_2773), (5, .int (nI ((16 + 4 * i_2677) % 16))), (4, .int (nI (16 + 4 * i_2677))), (2, .int 16), (0, .ref h), (1, .ref h2)]) hx hb dX0_spreadKey_149 hl_2775 (by decide) rfl (fun ls_2776 hl_2776 => ?_)
          clear hl_2775
          refine lv_iload hx hb dX0_spreadKey_151 (lv_at hl_2776 0 rfl) ?_
          refine lv_iconst (v := 4) hx hb dX0_spreadKey_153 (by decide) ?_
          refine lv_icmp_ge (tgt := 193) hx hb dX0_spreadKey_154 (by decide) (fun c_2777 => absurd c_2777 (by decide)) (fun c_2777 => ?_)
          refine lv_aload_n hx hb dX0_spreadKey_157 rfl (lv_at hl_2776 5 rfl) ?_
          refine va_get (D := E.1) (ci := 2) (v := .ref qk) (C := RX0) (T := TX0) (N := 5) hx hb hts in_X0 hown hK hP_2774 3 rfl rfl 0 (by decide) w_1 (fun _ h9 => h9) rfl dX0_spreadKey_158 ?_
          refine lv_iload hx hb dX0_spreadKey_161 (lv_at hl_2776 3 rfl) ?_
          refine lv_iload hx hb dX0_spreadKey_163 (lv_at hl_2776 0 rfl) ?_
          refine lv_iadd hx hb dX0_spreadKey_165 ?_
          refine lv_topi (fun y_2778 ey_2778 => ?_)
          obtain rfl : y_2778 = (nI ((16 + 4 * i_2677) + 0)) := ey_2778.trans (nI_add _ _)
          refine lv_aload_n hx hb dX0_spreadKey_166 rfl (lv_at hl_2776 5 rfl) ?_
          refine va_get (D := E.1) (ci := 2) (v := .ref qk) (C := RX0) (T := TX0) (N := 5) hx hb hts in_X0 hown hK hP_2774 3 rfl rfl 0 (by decide) w_1 (fun _ h9 => h9) rfl dX0_spreadKey_167 ?_
          refine lv_iload hx hb dX0_spreadKey_170 (lv_at hl_2776 3 rfl) ?_
          refine lv_iload_n hx hb dX0_spreadKey_172 rfl (lv_at hl_2776 4 rfl) ?_
          refine lv_isub hx hb dX0_spreadKey_173 ?_
          refine lv_topi (fun y_2779 ey_2779 => ?_)
          obtain rfl : y_2779 = (nI ((16 + 4 * i_2677) - 16)) := ey_2779.trans (pk_sub (a := 16 + 4 * i_2677) (b := 16) (by omega))
          refine lv_iload hx hb dX0_spreadKey_174 (lv_at hl_2776 0 rfl) ?_
          refine lv_iadd hx hb dX0_spreadKey_176 ?_
          refine lv_topi (fun y_2780 ey_2780 => ?_)
          obtain rfl : y_2780 = (nI (((16 + 4 * i_2677) - 16) + 0)) := ey_2780.trans (nI_add _ _)
          refine g_iald (e0 := ((16 + 4 * i_2677) - 16) + 0) hx hb hK hP_2774 0 0 rfl rfl (by omega) (by omega) dX0_spreadKey_177 ?_
          refine lv_aload_n hx hb dX0_spreadKey_178 rfl (lv_at hl_2776 5 rfl) ?_
          refine va_get (D := E.1) (ci := 2) (v := .ref qt) (C := RX0) (T := TX0) (N := 5) hx hb hts in_X0 hown hK hP_2774 3 rfl rfl 3 (by decide) w_2 (fun _ h9 => h9) rfl dX0_spreadKey_179 ?_
          refine lv_iload hx hb dX0_spreadKey_182 (lv_at hl_2776 0 rfl) ?_
          refine g_iald (e0 := 0) hx hb hK hP_2774 4 0 rfl rfl (by omega) (by omega) dX0_spreadKey_184 ?_
          refine lv_ixor hx hb dX0_spreadKey_185 ?_
          refine g_iast (e0 := (16 + 4 * i_2677) + 0) hx hb hK hP_2774 hD_2774 hS_2774 0 0 rfl rfl (by omega) (by omega) dX0_spreadKey_186 (fun H_2781 locs_2781 hP_2781 hD_2781 hS_2781 => ?_)
          replace hP_2781 : va_P E.1 vwCl [(qk, .inl (E.2.1, 240, .inl (upd z_2677.2.1 ((16 + 4 * i_2677) + 0) ((z_2677.2.1 (((16 + 4 * i_2677) - 16) + 0)) ^^^ (u_2771 0))))), (a2, .inl (E.2.1, n2, .inl q.2)), (h2, .inr (6, [.ref a2, .int q.1])), (h, .inr (2, [.ref qk, .ref qc, .ref qv, .ref qt, .int 10])), (qt, .inl (E.2.1, 4, .inl u_2771))] H_2781 := hP_2781
          replace hD_2781 : va_D A [(qk, .inl (E.2.1, 240, .inl (upd z_2677.2.1 ((16 + 4 * i_2677) + 0) ((z_2677.2.1 (((16 + 4 * i_2677) - 16) + 0)) ^^^ (u_2771 0))))), (a2, .inl (E.2.1, n2, .inl q.2)), (h2, .inr (6, [.ref a2, .int q.1])), (h, .inr (2, [.ref qk, .ref qc, .ref qv, .ref qt, .int 10])), (qt, .inl (E.2.1, 4, .inl u_2771))] := hD_2781
          clear hP_2774 hD_2774 hS_2774
          refine lv_iinc (v := 1) (lv' := [(6, .int 1), (3, .int r_2773), (5, .int (nI ((16 + 4 * i_2677) % 16))), (4, .int (nI (16 + 4 * i_2677))), (2, .int 16), (0, .ref h), (1, .ref h2)]) hx hb dX0_spreadKey_187 hl_2776 (k := 0) rfl (by decide) (by decide) rfl (fun ls_2782 hl_2782 => ?_)
          clear hl_2776
          refine lv_goto (tgt := 151) hx hb dX0_spreadKey_190 (by decide) ?_
          refine lv_iload hx hb dX0_spreadKey_151 (lv_at hl_2782 0 rfl) ?_
          refine lv_iconst (v := 4) hx hb dX0_spreadKey_153 (by decide) ?_
          refine lv_icmp_ge (tgt := 193) hx hb dX0_spreadKey_154 (by decide) (fun c_2783 => absurd c_2783 (by decide)) (fun c_2783 => ?_)
          refine lv_aload_n hx hb dX0_spreadKey_157 rfl (lv_at hl_2782 5 rfl) ?_
          refine va_get (D := E.1) (ci := 2) (v := .ref qk) (C := RX0) (T := TX0) (N := 5) hx hb hts in_X0 hown hK hP_2781 3 rfl rfl 0 (by decide) w_1 (fun _ h9 => h9) rfl dX0_spreadKey_158 ?_
          refine lv_iload hx hb dX0_spreadKey_161 (lv_at hl_2782 3 rfl) ?_
          refine lv_iload hx hb dX0_spreadKey_163 (lv_at hl_2782 0 rfl) ?_
          refine lv_iadd hx hb dX0_spreadKey_165 ?_
          refine lv_topi (fun y_2784 ey_2784 => ?_)
          obtain rfl : y_2784 = (nI ((16 + 4 * i_2677) + 1)) := ey_2784.trans (nI_add _ _)
          refine lv_aload_n hx hb dX0_spreadKey_166 rfl (lv_at hl_2782 5 rfl) ?_
          refine va_get (D := E.1) (ci := 2) (v := .ref qk) (C := RX0) (T := TX0) (N := 5) hx hb hts in_X0 hown hK hP_2781 3 rfl rfl 0 (by decide) w_1 (fun _ h9 => h9) rfl dX0_spreadKey_167 ?_
          refine lv_iload hx hb dX0_spreadKey_170 (lv_at hl_2782 3 rfl) ?_
          refine lv_iload_n hx hb dX0_spreadKey_172 rfl (lv_at hl_2782 4 rfl) ?_
          refine lv_isub hx hb dX0_spreadKey_173 ?_
          refine lv_topi (fun y_2785 ey_2785 => ?_)
          obtain rfl : y_2785 = (nI ((16 + 4 * i_2677) - 16)) := ey_2785.trans (pk_sub (a := 16 + 4 * i_2677) (b := 16) (by omega))
          refine lv_iload hx hb dX0_spreadKey_174 (lv_at hl_2782 0 rfl) ?_
          refine lv_iadd hx hb dX0_spreadKey_176 ?_
          refine lv_topi (fun y_2786 ey_2786 => ?_)
          obtain rfl : y_2786 = (nI (((16 + 4 * i_2677) - 16) + 1)) := ey_2786.trans (nI_add _ _)
          refine g_iald (e0 := ((16 + 4 * i_2677) - 16) + 1) hx hb hK hP_2781 0 0 rfl rfl (by omega) (by omega) dX0_spreadKey_177 ?_
          refine lv_aload_n hx hb dX0_spreadKey_178 rfl (lv_at hl_2782 5 rfl) ?_
          refine va_get (D := E.1) (ci := 2) (v := .ref qt) (C := RX0) (T := TX0) (N := 5) hx hb hts in_X0 hown hK hP_2781 3 rfl rfl 3 (by decide) w_2 (fun _ h9 => h9) rfl dX0_spreadKey_179 ?_
          refine lv_iload hx hb dX0_spreadKey_182 (lv_at hl_2782 0 rfl) ?_
          refine g_iald (e0 := 1) hx hb hK hP_2781 4 0 rfl rfl (by omega) (by omega) dX0_spreadKey_184 ?_
          refine lv_ixor hx hb dX0_spreadKey_185 ?_
          refine lv_topi (fun v_2787 ev_2787 => ?_)
          refine g_iast (e0 := (16 + 4 * i_2677) + 1) hx hb hK hP_2781 hD_2781 hS_2781 0 0 rfl rfl (by omega) (by omega) dX0_spreadKey_186 (fun H_2788 locs_2788 hP_2788 hD_2788 hS_2788 => ?_)
          replace hP_2788 : va_P E.1 vwCl [(qk, .inl (E.2.1, 240, .inl (upd (upd z_2677.2.1 ((16 + 4 * i_2677) + 0) ((z_2677.2.1 (((16 + 4 * i_2677) - 16) + 0)) ^^^ (u_2771 0))) ((16 + 4 * i_2677) + 1) v_2787))), (a2, .inl (E.2.1, n2, .inl q.2)), (h2, .inr (6, [.ref a2, .int q.1])), (h, .inr (2, [.ref qk, .ref qc, .ref qv, .ref qt, .int 10])), (qt, .inl (E.2.1, 4, .inl u_2771))] H_2788 := hP_2788
          replace hD_2788 : va_D A [(qk, .inl (E.2.1, 240, .inl (upd (upd z_2677.2.1 ((16 + 4 * i_2677) + 0) ((z_2677.2.1 (((16 + 4 * i_2677) - 16) + 0)) ^^^ (u_2771 0))) ((16 + 4 * i_2677) + 1) v_2787))), (a2, .inl (E.2.1, n2, .inl q.2)), (h2, .inr (6, [.ref a2, .int q.1])), (h, .inr (2, [.ref qk, .ref qc, .ref qv, .ref qt, .int 10])), (qt, .inl (E.2.1, 4, .inl u_2771))] := hD_2788
          clear hP_2781 hD_2781 hS_2781
          refine lv_iinc (v := 2) (lv' := [(6, .int 2), (3, .int r_2773), (5, .int (nI ((16 + 4 * i_2677) % 16))), (4, .int (nI (16 + 4 * i_2677))), (2, .int 16), (0, .ref h), (1, .ref h2)]) hx hb dX0_spreadKey_187 hl_2782 (k := 0) rfl (by decide) (by decide) rfl (fun ls_2789 hl_2789 => ?_)
          clear hl_2782
          refine lv_goto (tgt := 151) hx hb dX0_spreadKey_190 (by decide) ?_
          refine lv_iload hx hb dX0_spreadKey_151 (lv_at hl_2789 0 rfl) ?_
          refine lv_iconst (v := 4) hx hb dX0_spreadKey_153 (by decide) ?_
          refine lv_icmp_ge (tgt := 193) hx hb dX0_spreadKey_154 (by decide) (fun c_2790 => absurd c_2790 (by decide)) (fun c_2790 => ?_)
          refine lv_aload_n hx hb dX0_spreadKey_157 rfl (lv_at hl_2789 5 rfl) ?_
          refine va_get (D := E.1) (ci := 2) (v := .ref qk) (C := RX0) (T := TX0) (N := 5) hx hb hts in_X0 hown hK hP_2788 3 rfl rfl 0 (by decide) w_1 (fun _ h9 => h9) rfl dX0_spreadKey_158 ?_
          refine lv_iload hx hb dX0_spreadKey_161 (lv_at hl_2789 3 rfl) ?_
          refine lv_iload hx hb dX0_spreadKey_163 (lv_at hl_2789 0 rfl) ?_
          refine lv_iadd hx hb dX0_spreadKey_165 ?_
          refine lv_topi (fun y_2791 ey_2791 => ?_)
          obtain rfl : y_2791 = (nI ((16 + 4 * i_2677) + 2)) := ey_2791.trans (nI_add _ _)
          refine lv_aload_n hx hb dX0_spreadKey_166 rfl (lv_at hl_2789 5 rfl) ?_
          refine va_get (D := E.1) (ci := 2) (v := .ref qk) (C := RX0) (T := TX0) (N := 5) hx hb hts in_X0 hown hK hP_2788 3 rfl rfl 0 (by decide) w_1 (fun _ h9 => h9) rfl dX0_spreadKey_167 ?_
          refine lv_iload hx hb dX0_spreadKey_170 (lv_at hl_2789 3 rfl) ?_
          refine lv_iload_n hx hb dX0_spreadKey_172 rfl (lv_at hl_2789 4 rfl) ?_
          refine lv_isub hx hb dX0_spreadKey_173 ?_
          refine lv_topi (fun y_2792 ey_2792 => ?_)
          obtain rfl : y_2792 = (nI ((16 + 4 * i_2677) - 16)) := ey_2792.trans (pk_sub (a := 16 + 4 * i_2677) (b := 16) (by omega))
          refine lv_iload hx hb dX0_spreadKey_174 (lv_at hl_2789 0 rfl) ?_
          refine lv_iadd hx hb dX0_spreadKey_176 ?_
          refine lv_topi (fun y_2793 ey_2793 => ?_)
          obtain rfl : y_2793 = (nI (((16 + 4 * i_2677) - 16) + 2)) := ey_2793.trans (nI_add _ _)
          refine g_iald (e0 := ((16 + 4 * i_2677) - 16) + 2) hx hb hK hP_2788 0 0 rfl rfl (by omega) (by omega) dX0_spreadKey_177 ?_
          refine lv_aload_n hx hb dX0_spreadKey_178 rfl (lv_at hl_2789 5 rfl) ?_
          refine va_get (D := E.1) (ci := 2) (v := .ref qt) (C := RX0) (T := TX0) (N := 5) hx hb hts in_X0 hown hK hP_2788 3 rfl rfl 3 (by decide) w_2 (fun _ h9 => h9) rfl dX0_spreadKey_179 ?_
          refine lv_iload hx hb dX0_spreadKey_182 (lv_at hl_2789 0 rfl) ?_
          refine g_iald (e0 := 2) hx hb hK hP_2788 4 0 rfl rfl (by omega) (by omega) dX0_spreadKey_184 ?_
          refine lv_ixor hx hb dX0_spreadKey_185 ?_
          refine lv_topi (fun v_2794 ev_2794 => ?_)
          refine g_iast (e0 := (16 + 4 * i_2677) + 2) hx hb hK hP_2788 hD_2788 hS_2788 0 0 rfl rfl (by omega) (by omega) dX0_spreadKey_186 (fun H_2795 locs_2795 hP_2795 hD_2795 hS_2795 => ?_)
          replace hP_2795 : va_P E.1 vwCl [(qk, .inl (E.2.1, 240, .inl (upd (upd (upd z_2677.2.1 ((16 + 4 * i_2677) + 0) ((z_2677.2.1 (((16 + 4 * i_2677) - 16) + 0)) ^^^ (u_2771 0))) ((16 + 4 * i_2677) + 1) v_2787) ((16 + 4 * i_2677) + 2) v_2794))), (a2, .inl (E.2.1, n2, .inl q.2)), (h2, .inr (6, [.ref a2, .int q.1])), (h, .inr (2, [.ref qk, .ref qc, .ref qv, .ref qt, .int 10])), (qt, .inl (E.2.1, 4, .inl u_2771))] H_2795 := hP_2795
          replace hD_2795 : va_D A [(qk, .inl (E.2.1, 240, .inl (upd (upd (upd z_2677.2.1 ((16 + 4 * i_2677) + 0) ((z_2677.2.1 (((16 + 4 * i_2677) - 16) + 0)) ^^^ (u_2771 0))) ((16 + 4 * i_2677) + 1) v_2787) ((16 + 4 * i_2677) + 2) v_2794))), (a2, .inl (E.2.1, n2, .inl q.2)), (h2, .inr (6, [.ref a2, .int q.1])), (h, .inr (2, [.ref qk, .ref qc, .ref qv, .ref qt, .int 10])), (qt, .inl (E.2.1, 4, .inl u_2771))] := hD_2795
          clear hP_2788 hD_2788 hS_2788
          refine lv_iinc (v := 3) (lv' := [(6, .int 3), (3, .int r_2773), (5, .int (nI ((16 + 4 * i_2677) % 16))), (4, .int (nI (16 + 4 * i_2677))), (2, .int 16), (0, .ref h), (1, .ref h2)]) hx hb dX0_spreadKey_187 hl_2789 (k := 0) rfl (by decide) (by decide) rfl (fun ls_2796 hl_2796 => ?_)
          clear hl_2789
          refine lv_goto (tgt := 151) hx hb dX0_spreadKey_190 (by decide) ?_
          refine lv_iload hx hb dX0_spreadKey_151 (lv_at hl_2796 0 rfl) ?_
          refine lv_iconst (v := 4) hx hb dX0_spreadKey_153 (by decide) ?_
          refine lv_icmp_ge (tgt := 193) hx hb dX0_spreadKey_154 (by decide) (fun c_2797 => absurd c_2797 (by decide)) (fun c_2797 => ?_)
          refine lv_aload_n hx hb dX0_spreadKey_157 rfl (lv_at hl_2796 5 rfl) ?_
          refine va_get (D := E.1) (ci := 2) (v := .ref qk) (C := RX0) (T := TX0) (N := 5) hx hb hts in_X0 hown hK hP_2795 3 rfl rfl 0 (by decide) w_1 (fun _ h9 => h9) rfl dX0_spreadKey_158 ?_
          refine lv_iload hx hb dX0_spreadKey_161 (lv_at hl_2796 3 rfl) ?_
          refine lv_iload hx hb dX0_spreadKey_163 (lv_at hl_2796 0 rfl) ?_
          refine lv_iadd hx hb dX0_spreadKey_165 ?_
          refine lv_topi (fun y_2798 ey_2798 => ?_)
          obtain rfl : y_2798 = (nI ((16 + 4 * i_2677) + 3)) := ey_2798.trans (nI_add _ _)
          refine lv_aload_n hx hb dX0_spreadKey_166 rfl (lv_at hl_2796 5 rfl) ?_
          refine va_get (D := E.1) (ci := 2) (v := .ref qk) (C := RX0) (T := TX0) (N := 5) hx hb hts in_X0 hown hK hP_2795 3 rfl rfl 0 (by decide) w_1 (fun _ h9 => h9) rfl dX0_spreadKey_167 ?_
          refine lv_iload hx hb dX0_spreadKey_170 (lv_at hl_2796 3 rfl) ?_
          refine lv_iload_n hx hb dX0_spreadKey_172 rfl (lv_at hl_2796 4 rfl) ?_
          refine lv_isub hx hb dX0_spreadKey_173 ?_
          refine lv_topi (fun y_2799 ey_2799 => ?_)
          obtain rfl : y_2799 = (nI ((16 + 4 * i_2677) - 16)) := ey_2799.trans (pk_sub (a := 16 + 4 * i_2677) (b := 16) (by omega))
          refine lv_iload hx hb dX0_spreadKey_174 (lv_at hl_2796 0 rfl) ?_
          refine lv_iadd hx hb dX0_spreadKey_176 ?_
          refine lv_topi (fun y_2800 ey_2800 => ?_)
          obtain rfl : y_2800 = (nI (((16 + 4 * i_2677) - 16) + 3)) := ey_2800.trans (nI_add _ _)
          refine g_iald (e0 := ((16 + 4 * i_2677) - 16) + 3) hx hb hK hP_2795 0 0 rfl rfl (by omega) (by omega) dX0_spreadKey_177 ?_
          refine lv_aload_n hx hb dX0_spreadKey_178 rfl (lv_at hl_2796 5 rfl) ?_
          refine va_get (D := E.1) (ci := 2) (v := .ref qt) (C := RX0) (T := TX0) (N := 5) hx hb hts in_X0 hown hK hP_2795 3 rfl rfl 3 (by decide) w_2 (fun _ h9 => h9) rfl dX0_spreadKey_179 ?_
          refine lv_iload hx hb dX0_spreadKey_182 (lv_at hl_2796 0 rfl) ?_
          refine g_iald (e0 := 3) hx hb hK hP_2795 4 0 rfl rfl (by omega) (by omega) dX0_spreadKey_184 ?_
          refine lv_ixor hx hb dX0_spreadKey_185 ?_
          refine lv_topi (fun v_2801 ev_2801 => ?_)
          refine g_iast (e0 := (16 + 4 * i_2677) + 3) hx hb hK hP_2795 hD_2795 hS_2795 0 0 rfl rfl (by omega) (by omega) dX0_spreadKey_186 (fun H_2802 locs_2802 hP_2802 hD_2802 hS_2802 => ?_)
          replace hP_2802 : va_P E.1 vwCl [(qk, .inl (E.2.1, 240, .inl (upd (upd (upd (upd z_2677.2.1 ((16 + 4 * i_2677) + 0) ((z_2677.2.1 (((16 + 4 * i_2677) - 16) + 0)) ^^^ (u_2771 0))) ((16 + 4 * i_2677) + 1) v_2787) ((16 + 4 * i_2677) + 2) v_2794) ((16 + 4 * i_2677) + 3) v_2801))), (a2, .inl (E.2.1, n2, .inl q.2)), (h2, .inr (6, [.ref a2, .int q.1])), (h, .inr (2, [.ref qk, .ref qc, .ref qv, .ref qt, .int 10])), (qt, .inl (E.2.1, 4, .inl u_2771))] H_2802 := hP_2802
          replace hD_2802 : va_D A [(qk, .inl (E.2.1, 240, .inl (upd (upd (upd (upd z_2677.2.1 ((16 + 4 * i_2677) + 0) ((z_2677.2.1 (((16 + 4 * i_2677) - 16) + 0)) ^^^ (u_2771 0))) ((16 + 4 * i_2677) + 1) v_2787) ((16 + 4 * i_2677) + 2) v_2794) ((16 + 4 * i_2677) + 3) v_2801))), (a2, .inl (E.2.1, n2, .inl q.2)), (h2, .inr (6, [.ref a2, .int q.1])), (h, .inr (2, [.ref qk, .ref qc, .ref qv, .ref qt, .int 10])), (qt, .inl (E.2.1, 4, .inl u_2771))] := hD_2802
          clear hP_2795 hD_2795 hS_2795
          refine lv_iinc (v := 4) (lv' := [(6, .int 4), (3, .int r_2773), (5, .int (nI ((16 + 4 * i_2677) % 16))), (4, .int (nI (16 + 4 * i_2677))), (2, .int 16), (0, .ref h), (1, .ref h2)]) hx hb dX0_spreadKey_187 hl_2796 (k := 0) rfl (by decide) (by decide) rfl (fun ls_2803 hl_2803 => ?_)
          clear hl_2796
          refine lv_goto (tgt := 151) hx hb dX0_spreadKey_190 (by decide) ?_
          refine lv_iload hx hb dX0_spreadKey_151 (lv_at hl_2803 0 rfl) ?_
          refine lv_iconst (v := 4) hx hb dX0_spreadKey_153 (by decide) ?_
          refine lv_icmp_ge (tgt := 193) hx hb dX0_spreadKey_154 (by decide) (fun c_2804 => ?_) (fun c_2804 => absurd (by decide) c_2804)
          refine lv_iinc (v := (nI ((16 + 4 * i_2677) + 4))) (lv' := [(4, .int (nI ((16 + 4 * i_2677) + 4))), (6, .int 4), (3, .int r_2773), (5, .int (nI ((16 + 4 * i_2677) % 16))), (2, .int 16), (0, .ref h), (1, .ref h2)]) hx hb dX0_spreadKey_193 hl_2803 (k := 3) rfl (nI_add _ 4) (by decide) rfl (fun ls_2805 hl_2805 => ?_)
          clear hl_2803
          refine lv_goto (tgt := 63) hx hb dX0_spreadKey_196 (by decide) ?_
          exact ih_2677 ((r_2773, (upd (upd (upd (upd z_2677.2.1 ((16 + 4 * i_2677) + 0) ((z_2677.2.1 (((16 + 4 * i_2677) - 16) + 0)) ^^^ (u_2771 0))) ((16 + 4 * i_2677) + 1) v_2787) ((16 + 4 * i_2677) + 2) v_2794) ((16 + 4 * i_2677) + 3) v_2801), u_2771) : Int32 × (Nat → Int32) × (Nat → Int32)) _ _ _ (((show B_X0_spreadKey_63_t i_2677 z_2677 = _ from ((if_pos c_2706).trans (gLet_eq hu_2771 (gLet_eq er_2773 (gLet_eq ev_2787 (gLet_eq ev_2794 (gLet_eq ev_2801 rfl))))))).symm.trans (congrArg (B_X0_spreadKey_63_t i_2677) hz_2677)).trans (itr_s _ _ _).symm) ⟨lv_sub hl_2805 [0, 2, 4, 5, 6] rfl, (hP_2802.sub [3, 0, 4, 1, 2] rfl), (hD_2802.sub [3, 0, 4, 1, 2] (by decide) rfl), hS_2802⟩
      · intro z_2806 H_2806 locs_2806 ls_2806 hz_2806 hI_2806
        obtain ⟨hl_2806, hP_2806, hD_2806, hS_2806⟩ := hI_2806
        replace hl_2806 : lv_has ls_2806 7 [(4, .int (nI (16 + 4 * 40))), (3, .int z_2806.1), (2, .int 16), (0, .ref h), (1, .ref h2)] := hl_2806
        replace hP_2806 : va_P E.1 vwCl [(h, .inr (2, [.ref qk, .ref qc, .ref qv, .ref qt, .int 10])), (qk, .inl (E.2.1, 240, .inl z_2806.2.1)), (qt, .inl (E.2.1, 4, .inl z_2806.2.2)), (a2, .inl (E.2.1, n2, .inl q.2)), (h2, .inr (6, [.ref a2, .int q.1]))] H_2806 := hP_2806
        replace hD_2806 : va_D A [(h, .inr (2, [.ref qk, .ref qc, .ref qv, .ref qt, .int 10])), (qk, .inl (E.2.1, 240, .inl z_2806.2.1)), (qt, .inl (E.2.1, 4, .inl z_2806.2.2)), (a2, .inl (E.2.1, n2, .inl q.2)), (h2, .inr (6, [.ref a2, .int q.1]))] := hD_2806
        clear hl_2285 hP_2282 hD_2282 hS_2282
        refine lv_iload hx hb dX0_spreadKey_63 (lv_at hl_2806 0 rfl) ?_
        refine lv_bipush (v := 16) hx hb dX0_spreadKey_65 (by decide) ?_
        refine lv_aload_n hx hb dX0_spreadKey_67 rfl (lv_at hl_2806 3 rfl) ?_
        refine va_get (D := E.1) (ci := 2) (v := .int 10) (C := RX0) (T := TX0) (N := 5) hx hb hts in_X0 hown hK hP_2806 0 rfl rfl 4 (by decide) w_0 (fun _ h9 => h9) rfl dX0_spreadKey_68 ?_
        refine lv_iconst (v := 1) hx hb dX0_spreadKey_71 (by decide) ?_
        refine lv_iadd hx hb dX0_spreadKey_72 ?_
        refine lv_topi (fun y_2807 ey_2807 => ?_)
        obtain rfl : y_2807 = 11 := ey_2807.trans (by decide)
        refine lv_imul hx hb dX0_spreadKey_73 ?_
        refine lv_topi (fun y_2808 ey_2808 => ?_)
        obtain rfl : y_2808 = 176 := ey_2808.trans (by decide)
        refine lv_icmp_ge (tgt := 199) hx hb dX0_spreadKey_74 (by decide) (fun c_2809 => ?_) (fun c_2809 => (by have c_2809 := (not_congr (nI_leI (a := 176) (b := 16 + 4 * 40) (by omega) (by omega))).mp c_2809; exfalso; omega))
        replace c_2809 : 176 ≤ 16 + 4 * 40 := (nI_leI (a := 176) (b := 16 + 4 * 40) (by omega) (by omega)).mp c_2809
        have hpost : ((10, z_2806.2.1, z_2806.2.2) : Int32 × (Nat → Int32) × (Nat → Int32)) = F_X0_spreadKey n2 ky la q := (show F_X0_spreadKey n2 ky la q = ((10, z_2806.2.1, z_2806.2.2) : Int32 × (Nat → Int32) × (Nat → Int32)) from (gLet_eq er_2247 ((if_pos c_2249).trans (gLet_eq hz_2282 (gLet_eq hz_2806 rfl))))).symm
        have hP9 := hP_2806.sub (ws' := [(h, .inr (2, [.ref qk, .ref qc, .ref qv, .ref qt, .int 10])), (qk, .inl (E.2.1, 240, .inl z_2806.2.1)), (qt, .inl (E.2.1, 4, .inl z_2806.2.2)), (h2, .inr (6, [.ref a2, .int q.1])), (a2, .inl (E.2.1, n2, .inl q.2))]) [0, 1, 2, 4, 3] rfl
        have hD9 := hD_2806.sub (ws' := [(h, .inr (2, [.ref qk, .ref qc, .ref qv, .ref qt, .int 10])), (qk, .inl (E.2.1, 240, .inl z_2806.2.1)), (qt, .inl (E.2.1, 4, .inl z_2806.2.2)), (h2, .inr (6, [.ref a2, .int q.1])), (a2, .inl (E.2.1, n2, .inl q.2))]) [0, 1, 2, 4, 3] (by decide) rfl
        exact W.vret hx hb hr (fun t ht hW => ⟨⟨(10, z_2806.2.1, z_2806.2.2), rfl, hpost, by rw [ht]; exact hP9, hD9⟩, hS_2806.F ht⟩) hS_2806.2.2 dX0_spreadKey_199
  · replace c_2249 : ¬ (r_2247 ≤ 16) := c_2249
    refine lv_bipush (v := 32) hx hb dX0_spreadKey_9 (by decide) ?_
    refine lv_goto (tgt := 16) hx hb dX0_spreadKey_11 (by decide) ?_
    refine lv_istore_n (lv' := [(2, .int 32), (0, .ref h), (1, .ref h2)]) hx hb dX0_spreadKey_16 rfl hl (by decide) rfl (fun ls_2810 hl_2810 => ?_)
    clear hl
    refine lv_aload_n hx hb dX0_spreadKey_17 rfl (lv_at hl_2810 1 rfl) ?_
    refine lv_iload_n hx hb dX0_spreadKey_18 rfl (lv_at hl_2810 0 rfl) ?_
    refine lv_bipush (v := 32) hx hb dX0_spreadKey_19 (by decide) ?_
    refine lv_icmp_ne (tgt := 29) hx hb dX0_spreadKey_21 (by decide) (fun c_2811 => absurd (by decide) c_2811) (fun c_2811 => ?_)
    refine lv_bipush (v := 14) hx hb dX0_spreadKey_24 (by decide) ?_
    refine lv_goto (tgt := 31) hx hb dX0_spreadKey_26 (by decide) ?_
    refine va_put (D := E.1) (ci := 2) (v := .int 14) (ty := .int) (C := RX0) (T := TX0) (N := 5) hx hb hts in_X0 tyX0 tyX0_ok nmX0 hown hK hP_2248 hD_2248 hS_2248 0 rfl rfl 4 (by decide) w_0 (fun _ h9 => h9) rfl (by decide +kernel) rfl rfl (Nat.le_of_ble_eq_true rfl) dX0_spreadKey_31 (fun H_2812 locs_2812 hP_2812 hD_2812 hS_2812 => ?_)
    replace hP_2812 : va_P E.1 vwCl [(h, .inr (2, [.ref qk, .ref qc, .ref qv, .ref qt, .int 14])), (qk, .inl (E.2.1, 240, .inl ky)), (qt, .inl (E.2.1, 4, .inl la)), (a2, .inl (E.2.1, n2, .inl q.2)), (h2, .inr (6, [.ref a2, .int q.1]))] H_2812 := hP_2812
    replace hD_2812 : va_D A [(h, .inr (2, [.ref qk, .ref qc, .ref qv, .ref qt, .int 14])), (qk, .inl (E.2.1, 240, .inl ky)), (qt, .inl (E.2.1, 4, .inl la)), (a2, .inl (E.2.1, n2, .inl q.2)), (h2, .inr (6, [.ref a2, .int q.1]))] := hD_2812
    clear hP_2248 hD_2248 hS_2248
    refine lv_iconst (v := 0) hx hb dX0_spreadKey_34 (by decide) ?_
    refine lv_istore_n (lv' := [(3, .int 0), (2, .int 32), (0, .ref h), (1, .ref h2)]) hx hb dX0_spreadKey_35 rfl hl_2810 (by decide) rfl (fun ls_2813 hl_2813 => ?_)
    clear hl_2810
    refine g_up (N := 32) (B_X0_spreadKey_36_f n2 q) (ky : Nat → Int32) (Inv := fun i_0 z_2835 H_0 locs_0 ls_0 => lv_has ls_0 7 [(3, .int (nI i_0)), (2, .int 32), (0, .ref h), (1, .ref h2)] ∧ va_P E.1 vwCl [(h, .inr (2, [.ref qk, .ref qc, .ref qv, .ref qt, .int 14])), (qk, .inl (E.2.1, 240, .inl z_2835)), (qt, .inl (E.2.1, 4, .inl la)), (a2, .inl (E.2.1, n2, .inl q.2)), (h2, .inr (6, [.ref a2, .int q.1]))] H_0 ∧ va_D A [(h, .inr (2, [.ref qk, .ref qc, .ref qv, .ref qt, .int 14])), (qk, .inl (E.2.1, 240, .inl z_2835)), (qt, .inl (E.2.1, 4, .inl la)), (a2, .inl (E.2.1, n2, .inl q.2)), (h2, .inr (6, [.ref a2, .int q.1]))] ∧ va_S A s.heap H_0 locs_0) (G := fun H_0 locs_0 ls_0 => W _ _ _ _ _ _ _ _ _ _ H_0 locs_0 _ _ _ (F0 _ 36 ls_0 [])) ?_ ?_ ⟨lv_sub hl_2813 [0, 1, 2, 3] rfl, hP_2812, hD_2812, hS_2812⟩
    · intro j_2836 i_2836 z_2836 H_2836 locs_2836 ls_2836 hij_2836 hz_2836 hI_2836 ih_2836
      obtain ⟨hl_2836, hP_2836, hD_2836, hS_2836⟩ := hI_2836
      replace hl_2836 : lv_has ls_2836 7 [(3, .int (nI i_2836)), (2, .int 32), (0, .ref h), (1, .ref h2)] := hl_2836
      replace hP_2836 : va_P E.1 vwCl [(h, .inr (2, [.ref qk, .ref qc, .ref qv, .ref qt, .int 14])), (qk, .inl (E.2.1, 240, .inl z_2836)), (qt, .inl (E.2.1, 4, .inl la)), (a2, .inl (E.2.1, n2, .inl q.2)), (h2, .inr (6, [.ref a2, .int q.1]))] H_2836 := hP_2836
      replace hD_2836 : va_D A [(h, .inr (2, [.ref qk, .ref qc, .ref qv, .ref qt, .int 14])), (qk, .inl (E.2.1, 240, .inl z_2836)), (qt, .inl (E.2.1, 4, .inl la)), (a2, .inl (E.2.1, n2, .inl q.2)), (h2, .inr (6, [.ref a2, .int q.1]))] := hD_2836
      clear hl_2813 hP_2812 hD_2812 hS_2812
      refine lv_iload_n hx hb dX0_spreadKey_36 rfl (lv_at hl_2836 0 rfl) ?_
      refine lv_iload_n hx hb dX0_spreadKey_37 rfl (lv_at hl_2836 1 rfl) ?_
      refine lv_icmp_ge (tgt := 58) hx hb dX0_spreadKey_38 (by decide) (fun c_2837 => (by have c_2837 := (nI_leI (a := 32) (b := i_2836) (by omega) (by omega)).mp c_2837; exfalso; omega)) (fun c_2837 => ?_)
      replace c_2837 : ¬ 32 ≤ i_2836 := (not_congr (nI_leI (a := 32) (b := i_2836) (by omega) (by omega))).mp c_2837
      refine lv_aload_n hx hb dX0_spreadKey_41 rfl (lv_at hl_2836 2 rfl) ?_
      refine va_get (D := E.1) (ci := 2) (v := .ref qk) (C := RX0) (T := TX0) (N := 5) hx hb hts in_X0 hown hK hP_2836 0 rfl rfl 0 (by decide) w_1 (fun _ h9 => h9) rfl dX0_spreadKey_42 ?_
      refine lv_iload_n hx hb dX0_spreadKey_45 rfl (lv_at hl_2836 0 rfl) ?_
      refine lv_aload_n hx hb dX0_spreadKey_46 rfl (lv_at hl_2836 3 rfl) ?_
      refine lv_iload_n hx hb dX0_spreadKey_47 rfl (lv_at hl_2836 0 rfl) ?_
      refine gVi hF hl_2836 hV hP_2836 hD_2836 hS_2836 hA [4, 3] [0, 1, 2] (wc := [(h2, .inr (6, [.ref a2, .int q.1])), (a2, .inl (E.2.1, n2, .inl q.2))]) (wr := [(h, .inr (2, [.ref qk, .ref qc, .ref qv, .ref qt, .int 14])), (qk, .inl (E.2.1, 240, .inl z_2836)), (qt, .inl (E.2.1, 4, .inl la))]) rfl rfl rfl (by decide) 0 6 rfl rfl rfl (k_X5_at E l h2 a2 n2 q (nI i_2836) (by omega)) (cwV 1 hts gX0_spreadKey_X5_at rfl rfl rfl (by decide +kernel) ⟨Nat.le_of_ble_eq_true rfl, Nat.le_of_ble_eq_true rfl⟩) rfl rfl rfl (Nat.le_of_ble_eq_true rfl) dX0_spreadKey_48 ⟨Nat.le_of_ble_eq_true rfl, Nat.le_of_ble_eq_true rfl⟩ (fun r_2838 _ H_2839 locs_2839 hu_2838 hP_2839 hD_2839 hS_2839 => ?_)
      have er_2838 : r_2838 = F_X5_at n2 q (nI i_2836) := hu_2838
      clear hu_2838
      replace hP_2839 : va_P E.1 vwCl [(h, .inr (2, [.ref qk, .ref qc, .ref qv, .ref qt, .int 14])), (qk, .inl (E.2.1, 240, .inl z_2836)), (qt, .inl (E.2.1, 4, .inl la)), (h2, .inr (6, [.ref a2, .int q.1])), (a2, .inl (E.2.1, n2, .inl q.2))] H_2839 := hP_2839
      replace hD_2839 : va_D A [(h, .inr (2, [.ref qk, .ref qc, .ref qv, .ref qt, .int 14])), (qk, .inl (E.2.1, 240, .inl z_2836)), (qt, .inl (E.2.1, 4, .inl la)), (h2, .inr (6, [.ref a2, .int q.1])), (a2, .inl (E.2.1, n2, .inl q.2))] := hD_2839
      clear hP_2836 hD_2836 hS_2836
      refine g_iast (e0 := i_2836) hx hb hK hP_2839 hD_2839 hS_2839 1 0 rfl rfl (by omega) (by omega) dX0_spreadKey_51 (fun H_2840 locs_2840 hP_2840 hD_2840 hS_2840 => ?_)
      replace hP_2840 : va_P E.1 vwCl [(h, .inr (2, [.ref qk, .ref qc, .ref qv, .ref qt, .int 14])), (qk, .inl (E.2.1, 240, .inl (upd z_2836 i_2836 r_2838))), (qt, .inl (E.2.1, 4, .inl la)), (h2, .inr (6, [.ref a2, .int q.1])), (a2, .inl (E.2.1, n2, .inl q.2))] H_2840 := hP_2840
      replace hD_2840 : va_D A [(h, .inr (2, [.ref qk, .ref qc, .ref qv, .ref qt, .int 14])), (qk, .inl (E.2.1, 240, .inl (upd z_2836 i_2836 r_2838))), (qt, .inl (E.2.1, 4, .inl la)), (h2, .inr (6, [.ref a2, .int q.1])), (a2, .inl (E.2.1, n2, .inl q.2))] := hD_2840
      clear hP_2839 hD_2839 hS_2839
      refine lv_iinc (v := (nI (i_2836 + 1))) (lv' := [(3, .int (nI (i_2836 + 1))), (2, .int 32), (0, .ref h), (1, .ref h2)]) hx hb dX0_spreadKey_52 hl_2836 (k := 0) rfl (nI_add _ 1) (by decide) rfl (fun ls_2841 hl_2841 => ?_)
      clear hl_2836
      refine lv_goto (tgt := 36) hx hb dX0_spreadKey_55 (by decide) ?_
      exact ih_2836 ((upd z_2836 i_2836 r_2838) : Nat → Int32) _ _ _ (((show (B_X0_spreadKey_36_f n2 q) i_2836 z_2836 = _ from (gLet_eq er_2838 rfl)).symm.trans (congrArg ((B_X0_spreadKey_36_f n2 q) i_2836) hz_2836)).trans (itr_s _ _ _).symm) ⟨lv_sub hl_2841 [0, 1, 2, 3] rfl, (hP_2840.sub [0, 1, 2, 4, 3] rfl), (hD_2840.sub [0, 1, 2, 4, 3] (by decide) rfl), hS_2840⟩
    · intro z_2842 H_2842 locs_2842 ls_2842 hz_2842 hI_2842
      obtain ⟨hl_2842, hP_2842, hD_2842, hS_2842⟩ := hI_2842
      replace hl_2842 : lv_has ls_2842 7 [(3, .int (nI 32)), (2, .int 32), (0, .ref h), (1, .ref h2)] := hl_2842
      replace hP_2842 : va_P E.1 vwCl [(h, .inr (2, [.ref qk, .ref qc, .ref qv, .ref qt, .int 14])), (qk, .inl (E.2.1, 240, .inl z_2842)), (qt, .inl (E.2.1, 4, .inl la)), (a2, .inl (E.2.1, n2, .inl q.2)), (h2, .inr (6, [.ref a2, .int q.1]))] H_2842 := hP_2842
      replace hD_2842 : va_D A [(h, .inr (2, [.ref qk, .ref qc, .ref qv, .ref qt, .int 14])), (qk, .inl (E.2.1, 240, .inl z_2842)), (qt, .inl (E.2.1, 4, .inl la)), (a2, .inl (E.2.1, n2, .inl q.2)), (h2, .inr (6, [.ref a2, .int q.1]))] := hD_2842
      clear hl_2813 hP_2812 hD_2812 hS_2812
      refine lv_iload_n hx hb dX0_spreadKey_36 rfl (lv_at hl_2842 0 rfl) ?_
      refine lv_iload_n hx hb dX0_spreadKey_37 rfl (lv_at hl_2842 1 rfl) ?_
      refine lv_icmp_ge (tgt := 58) hx hb dX0_spreadKey_38 (by decide) (fun c_2843 => ?_) (fun c_2843 => (by have c_2843 := (not_congr (nI_leI (a := 32) (b := 32) (by omega) (by omega))).mp c_2843; exfalso; omega))
      replace c_2843 : 32 ≤ 32 := (nI_leI (a := 32) (b := 32) (by omega) (by omega)).mp c_2843
      refine lv_iconst (v := 1) hx hb dX0_spreadKey_58 (by decide) ?_
      refine lv_istore_n (lv' := [(3, .int 1), (2, .int 32), (0, .ref h), (1, .ref h2)]) hx hb dX0_spreadKey_59 rfl hl_2842 (by decide) rfl (fun ls_2844 hl_2844 => ?_)
      clear hl_2842
      refine lv_iload_n hx hb dX0_spreadKey_60 rfl (lv_at hl_2844 1 rfl) ?_
      refine lv_istore (lv' := [(4, .int 32), (3, .int 1), (2, .int 32), (0, .ref h), (1, .ref h2)]) hx hb dX0_spreadKey_61 hl_2844 (by decide) rfl (fun ls_2845 hl_2845 => ?_)
      clear hl_2844
      refine g_up (N := 52) B_X0_spreadKey_63_f ((1, z_2842, la) : Int32 × (Nat → Int32) × (Nat → Int32)) (Inv := fun i_0 z_3236 H_0 locs_0 ls_0 => lv_has ls_0 7 [(4, .int (nI (32 + 4 * i_0))), (3, .int z_3236.1), (2, .int 32), (0, .ref h), (1, .ref h2)] ∧ va_P E.1 vwCl [(h, .inr (2, [.ref qk, .ref qc, .ref qv, .ref qt, .int 14])), (qk, .inl (E.2.1, 240, .inl z_3236.2.1)), (qt, .inl (E.2.1, 4, .inl z_3236.2.2)), (a2, .inl (E.2.1, n2, .inl q.2)), (h2, .inr (6, [.ref a2, .int q.1]))] H_0 ∧ va_D A [(h, .inr (2, [.ref qk, .ref qc, .ref qv, .ref qt, .int 14])), (qk, .inl (E.2.1, 240, .inl z_3236.2.1)), (qt, .inl (E.2.1, 4, .inl z_3236.2.2)), (a2, .inl (E.2.1, n2, .inl q.2)), (h2, .inr (6, [.ref a2, .int q.1]))] ∧ va_S A s.heap H_0 locs_0) (G := fun H_0 locs_0 ls_0 => W _ _ _ _ _ _ _ _ _ _ H_0 locs_0 _ _ _ (F0 _ 63 ls_0 [])) ?_ ?_ ⟨lv_sub hl_2845 [0, 1, 2, 3, 4] rfl, hP_2842, hD_2842, hS_2842⟩
      · intro j_3237 i_3237 z_3237 H_3237 locs_3237 ls_3237 hij_3237 hz_3237 hI_3237 ih_3237
        obtain ⟨hl_3237, hP_3237, hD_3237, hS_3237⟩ := hI_3237
        replace hl_3237 : lv_has ls_3237 7 [(4, .int (nI (32 + 4 * i_3237))), (3, .int z_3237.1), (2, .int 32), (0, .ref h), (1, .ref h2)] := hl_3237
        replace hP_3237 : va_P E.1 vwCl [(h, .inr (2, [.ref qk, .ref qc, .ref qv, .ref qt, .int 14])), (qk, .inl (E.2.1, 240, .inl z_3237.2.1)), (qt, .inl (E.2.1, 4, .inl z_3237.2.2)), (a2, .inl (E.2.1, n2, .inl q.2)), (h2, .inr (6, [.ref a2, .int q.1]))] H_3237 := hP_3237
        replace hD_3237 : va_D A [(h, .inr (2, [.ref qk, .ref qc, .ref qv, .ref qt, .int 14])), (qk, .inl (E.2.1, 240, .inl z_3237.2.1)), (qt, .inl (E.2.1, 4, .inl z_3237.2.2)), (a2, .inl (E.2.1, n2, .inl q.2)), (h2, .inr (6, [.ref a2, .int q.1]))] := hD_3237
        clear hl_2845 hP_2842 hD_2842 hS_2842
        refine lv_iload hx hb dX0_spreadKey_63 (lv_at hl_3237 0 rfl) ?_
        refine lv_bipush (v := 16) hx hb dX0_spreadKey_65 (by decide) ?_
        refine lv_aload_n hx hb dX0_spreadKey_67 rfl (lv_at hl_3237 3 rfl) ?_
        refine va_get (D := E.1) (ci := 2) (v := .int 14) (C := RX0) (T := TX0) (N := 5) hx hb hts in_X0 hown hK hP_3237 0 rfl rfl 4 (by decide) w_0 (fun _ h9 => h9) rfl dX0_spreadKey_68 ?_
        refine lv_iconst (v := 1) hx hb dX0_spreadKey_71 (by decide) ?_
        refine lv_iadd hx hb dX0_spreadKey_72 ?_
        refine lv_topi (fun y_3238 ey_3238 => ?_)
        obtain rfl : y_3238 = 15 := ey_3238.trans (by decide)
        refine lv_imul hx hb dX0_spreadKey_73 ?_
        refine lv_topi (fun y_3239 ey_3239 => ?_)
        obtain rfl : y_3239 = 240 := ey_3239.trans (by decide)
        refine lv_icmp_ge (tgt := 199) hx hb dX0_spreadKey_74 (by decide) (fun c_3240 => (by have c_3240 := (nI_leI (a := 240) (b := 32 + 4 * i_3237) (by omega) (by omega)).mp c_3240; exfalso; omega)) (fun c_3240 => ?_)
        replace c_3240 : ¬ 240 ≤ 32 + 4 * i_3237 := (not_congr (nI_leI (a := 240) (b := 32 + 4 * i_3237) (by omega) (by omega))).mp c_3240
        refine lv_iconst (v := 0) hx hb dX0_spreadKey_77 (by decide) ?_
        refine lv_istore (lv' := [(5, .int 0), (4, .int (nI (32 + 4 * i_3237))), (3, .int z_3237.1), (2, .int 32), (0, .ref h), (1, .ref h2)]) hx hb dX0_spreadKey_78 hl_3237 (by decide) rfl (fun ls_3241 hl_3241 => ?_)
        clear hl_3237
        refine lv_iload hx hb dX0_spreadKey_80 (lv_at hl_3241 0 rfl) ?_
        refine lv_iconst (v := 4) hx hb dX0_spreadKey_82 (by decide) ?_
        refine lv_icmp_ge (tgt := 111) hx hb dX0_spreadKey_83 (by decide) (fun c_3242 => absurd c_3242 (by decide)) (fun c_3242 => ?_)
        refine lv_aload_n hx hb dX0_spreadKey_86 rfl (lv_at hl_3241 4 rfl) ?_
        refine va_get (D := E.1) (ci := 2) (v := .ref qt) (C := RX0) (T := TX0) (N := 5) hx hb hts in_X0 hown hK hP_3237 0 rfl rfl 3 (by decide) w_2 (fun _ h9 => h9) rfl dX0_spreadKey_87 ?_
        refine lv_iload hx hb dX0_spreadKey_90 (lv_at hl_3241 0 rfl) ?_
        refine lv_aload_n hx hb dX0_spreadKey_92 rfl (lv_at hl_3241 4 rfl) ?_
        refine va_get (D := E.1) (ci := 2) (v := .ref qk) (C := RX0) (T := TX0) (N := 5) hx hb hts in_X0 hown hK hP_3237 0 rfl rfl 0 (by decide) w_1 (fun _ h9 => h9) rfl dX0_spreadKey_93 ?_
        refine lv_iload hx hb dX0_spreadKey_96 (lv_at hl_3241 1 rfl) ?_
        refine lv_iconst (v := 4) hx hb dX0_spreadKey_98 (by decide) ?_
        refine lv_isub hx hb dX0_spreadKey_99 ?_
        refine lv_topi (fun y_3243 ey_3243 => ?_)
        obtain rfl : y_3243 = (nI ((32 + 4 * i_3237) - 4)) := ey_3243.trans (pk_sub (a := 32 + 4 * i_3237) (b := 4) (by omega))
        refine lv_iload hx hb dX0_spreadKey_100 (lv_at hl_3241 0 rfl) ?_
        refine lv_iadd hx hb dX0_spreadKey_102 ?_
        refine lv_topi (fun y_3244 ey_3244 => ?_)
        obtain rfl : y_3244 = (nI (((32 + 4 * i_3237) - 4) + 0)) := ey_3244.trans (nI_add _ _)
        refine g_iald (e0 := ((32 + 4 * i_3237) - 4) + 0) hx hb hK hP_3237 1 0 rfl rfl (by omega) (by omega) dX0_spreadKey_103 ?_
        refine g_iast (e0 := 0) hx hb hK hP_3237 hD_3237 hS_3237 2 0 rfl rfl (by omega) (by omega) dX0_spreadKey_104 (fun H_3245 locs_3245 hP_3245 hD_3245 hS_3245 => ?_)
        replace hP_3245 : va_P E.1 vwCl [(h, .inr (2, [.ref qk, .ref qc, .ref qv, .ref qt, .int 14])), (qk, .inl (E.2.1, 240, .inl z_3237.2.1)), (qt, .inl (E.2.1, 4, .inl (upd z_3237.2.2 0 (z_3237.2.1 (((32 + 4 * i_3237) - 4) + 0))))), (a2, .inl (E.2.1, n2, .inl q.2)), (h2, .inr (6, [.ref a2, .int q.1]))] H_3245 := hP_3245
        replace hD_3245 : va_D A [(h, .inr (2, [.ref qk, .ref qc, .ref qv, .ref qt, .int 14])), (qk, .inl (E.2.1, 240, .inl z_3237.2.1)), (qt, .inl (E.2.1, 4, .inl (upd z_3237.2.2 0 (z_3237.2.1 (((32 + 4 * i_3237) - 4) + 0))))), (a2, .inl (E.2.1, n2, .inl q.2)), (h2, .inr (6, [.ref a2, .int q.1]))] := hD_3245
        clear hP_3237 hD_3237 hS_3237
        refine lv_iinc (v := 1) (lv' := [(5, .int 1), (4, .int (nI (32 + 4 * i_3237))), (3, .int z_3237.1), (2, .int 32), (0, .ref h), (1, .ref h2)]) hx hb dX0_spreadKey_105 hl_3241 (k := 0) rfl (by decide) (by decide) rfl (fun ls_3246 hl_3246 => ?_)
        clear hl_3241
        refine lv_goto (tgt := 80) hx hb dX0_spreadKey_108 (by decide) ?_
        refine lv_iload hx hb dX0_spreadKey_80 (lv_at hl_3246 0 rfl) ?_
        refine lv_iconst (v := 4) hx hb dX0_spreadKey_82 (by decide) ?_
        refine lv_icmp_ge (tgt := 111) hx hb dX0_spreadKey_83 (by decide) (fun c_3247 => absurd c_3247 (by decide)) (fun c_3247 => ?_)
        refine lv_aload_n hx hb dX0_spreadKey_86 rfl (lv_at hl_3246 4 rfl) ?_
        refine va_get (D := E.1) (ci := 2) (v := .ref qt) (C := RX0) (T := TX0) (N := 5) hx hb hts in_X0 hown hK hP_3245 0 rfl rfl 3 (by decide) w_2 (fun _ h9 => h9) rfl dX0_spreadKey_87 ?_
        refine lv_iload hx hb dX0_spreadKey_90 (lv_at hl_3246 0 rfl) ?_
        refine lv_aload_n hx hb dX0_spreadKey_92 rfl (lv_at hl_3246 4 rfl) ?_
        refine va_get (D := E.1) (ci := 2) (v := .ref qk) (C := RX0) (T := TX0) (N := 5) hx hb hts in_X0 hown hK hP_3245 0 rfl rfl 0 (by decide) w_1 (fun _ h9 => h9) rfl dX0_spreadKey_93 ?_
        refine lv_iload hx hb dX0_spreadKey_96 (lv_at hl_3246 1 rfl) ?_
        refine lv_iconst (v := 4) hx hb dX0_spreadKey_98 (by decide) ?_
        refine lv_isub hx hb dX0_spreadKey_99 ?_
        refine lv_topi (fun y_3248 ey_3248 => ?_)
        obtain rfl : y_3248 = (nI ((32 + 4 * i_3237) - 4)) := ey_3248.trans (pk_sub (a := 32 + 4 * i_3237) (b := 4) (by omega))
        refine lv_iload hx hb dX0_spreadKey_100 (lv_at hl_3246 0 rfl) ?_
        refine lv_iadd hx hb dX0_spreadKey_102 ?_
        refine lv_topi (fun y_3249 ey_3249 => ?_)
        obtain rfl : y_3249 = (nI (((32 + 4 * i_3237) - 4) + 1)) := ey_3249.trans (nI_add _ _)
        refine g_iald (e0 := ((32 + 4 * i_3237) - 4) + 1) hx hb hK hP_3245 1 0 rfl rfl (by omega) (by omega) dX0_spreadKey_103 ?_
        refine g_iast (e0 := 1) hx hb hK hP_3245 hD_3245 hS_3245 2 0 rfl rfl (by omega) (by omega) dX0_spreadKey_104 (fun H_3250 locs_3250 hP_3250 hD_3250 hS_3250 => ?_)
        replace hP_3250 : va_P E.1 vwCl [(h, .inr (2, [.ref qk, .ref qc, .ref qv, .ref qt, .int 14])), (qk, .inl (E.2.1, 240, .inl z_3237.2.1)), (qt, .inl (E.2.1, 4, .inl (upd (upd z_3237.2.2 0 (z_3237.2.1 (((32 + 4 * i_3237) - 4) + 0))) 1 (z_3237.2.1 (((32 + 4 * i_3237) - 4) + 1))))), (a2, .inl (E.2.1, n2, .inl q.2)), (h2, .inr (6, [.ref a2, .int q.1]))] H_3250 := hP_3250
        replace hD_3250 : va_D A [(h, .inr (2, [.ref qk, .ref qc, .ref qv, .ref qt, .int 14])), (qk, .inl (E.2.1, 240, .inl z_3237.2.1)), (qt, .inl (E.2.1, 4, .inl (upd (upd z_3237.2.2 0 (z_3237.2.1 (((32 + 4 * i_3237) - 4) + 0))) 1 (z_3237.2.1 (((32 + 4 * i_3237) - 4) + 1))))), (a2, .inl (E.2.1, n2, .inl q.2)), (h2, .inr (6, [.ref a2, .int q.1]))] := hD_3250
        clear hP_3245 hD_3245 hS_3245
        refine lv_iinc (v := 2) (lv' := [(5, .int 2), (4, .int (nI (32 + 4 * i_3237))), (3, .int z_3237.1), (2, .int 32), (0, .ref h), (1, .ref h2)]) hx hb dX0_spreadKey_105 hl_3246 (k := 0) rfl (by decide) (by decide) rfl (fun ls_3251 hl_3251 => ?_)
        clear hl_3246
        refine lv_goto (tgt := 80) hx hb dX0_spreadKey_108 (by decide) ?_
        refine lv_iload hx hb dX0_spreadKey_80 (lv_at hl_3251 0 rfl) ?_
        refine lv_iconst (v := 4) hx hb dX0_spreadKey_82 (by decide) ?_
        refine lv_icmp_ge (tgt := 111) hx hb dX0_spreadKey_83 (by decide) (fun c_3252 => absurd c_3252 (by decide)) (fun c_3252 => ?_)
        refine lv_aload_n hx hb dX0_spreadKey_86 rfl (lv_at hl_3251 4 rfl) ?_
        refine va_get (D := E.1) (ci := 2) (v := .ref qt) (C := RX0) (T := TX0) (N := 5) hx hb hts in_X0 hown hK hP_3250 0 rfl rfl 3 (by decide) w_2 (fun _ h9 => h9) rfl dX0_spreadKey_87 ?_
        refine lv_iload hx hb dX0_spreadKey_90 (lv_at hl_3251 0 rfl) ?_
        refine lv_aload_n hx hb dX0_spreadKey_92 rfl (lv_at hl_3251 4 rfl) ?_
        refine va_get (D := E.1) (ci := 2) (v := .ref qk) (C := RX0) (T := TX0) (N := 5) hx hb hts in_X0 hown hK hP_3250 0 rfl rfl 0 (by decide) w_1 (fun _ h9 => h9) rfl dX0_spreadKey_93 ?_
        refine lv_iload hx hb dX0_spreadKey_96 (lv_at hl_3251 1 rfl) ?_
        refine lv_iconst (v := 4) hx hb dX0_spreadKey_98 (by decide) ?_
        refine lv_isub hx hb dX0_spreadKey_99 ?_
        refine lv_topi (fun y_3253 ey_3253 => ?_)
        obtain rfl : y_3253 = (nI ((32 + 4 * i_3237) - 4)) := ey_3253.trans (pk_sub (a := 32 + 4 * i_3237) (b := 4) (by omega))
        refine lv_iload hx hb dX0_spreadKey_100 (lv_at hl_3251 0 rfl) ?_
        refine lv_iadd hx hb dX0_spreadKey_102 ?_
        refine lv_topi (fun y_3254 ey_3254 => ?_)
        obtain rfl : y_3254 = (nI (((32 + 4 * i_3237) - 4) + 2)) := ey_3254.trans (nI_add _ _)
        refine g_iald (e0 := ((32 + 4 * i_3237) - 4) + 2) hx hb hK hP_3250 1 0 rfl rfl (by omega) (by omega) dX0_spreadKey_103 ?_
        refine g_iast (e0 := 2) hx hb hK hP_3250 hD_3250 hS_3250 2 0 rfl rfl (by omega) (by omega) dX0_spreadKey_104 (fun H_3255 locs_3255 hP_3255 hD_3255 hS_3255 => ?_)
        replace hP_3255 : va_P E.1 vwCl [(h, .inr (2, [.ref qk, .ref qc, .ref qv, .ref qt, .int 14])), (qk, .inl (E.2.1, 240, .inl z_3237.2.1)), (qt, .inl (E.2.1, 4, .inl (upd (upd (upd z_3237.2.2 0 (z_3237.2.1 (((32 + 4 * i_3237) - 4) + 0))) 1 (z_3237.2.1 (((32 + 4 * i_3237) - 4) + 1))) 2 (z_3237.2.1 (((32 + 4 * i_3237) - 4) + 2))))), (a2, .inl (E.2.1, n2, .inl q.2)), (h2, .inr (6, [.ref a2, .int q.1]))] H_3255 := hP_3255
        replace hD_3255 : va_D A [(h, .inr (2, [.ref qk, .ref qc, .ref qv, .ref qt, .int 14])), (qk, .inl (E.2.1, 240, .inl z_3237.2.1)), (qt, .inl (E.2.1, 4, .inl (upd (upd (upd z_3237.2.2 0 (z_3237.2.1 (((32 + 4 * i_3237) - 4) + 0))) 1 (z_3237.2.1 (((32 + 4 * i_3237) - 4) + 1))) 2 (z_3237.2.1 (((32 + 4 * i_3237) - 4) + 2))))), (a2, .inl (E.2.1, n2, .inl q.2)), (h2, .inr (6, [.ref a2, .int q.1]))] := hD_3255
        clear hP_3250 hD_3250 hS_3250
        refine lv_iinc (v := 3) (lv' := [(5, .int 3), (4, .int (nI (32 + 4 * i_3237))), (3, .int z_3237.1), (2, .int 32), (0, .ref h), (1, .ref h2)]) hx hb dX0_spreadKey_105 hl_3251 (k := 0) rfl (by decide) (by decide) rfl (fun ls_3256 hl_3256 => ?_)
        clear hl_3251
        refine lv_goto (tgt := 80) hx hb dX0_spreadKey_108 (by decide) ?_
        refine lv_iload hx hb dX0_spreadKey_80 (lv_at hl_3256 0 rfl) ?_
        refine lv_iconst (v := 4) hx hb dX0_spreadKey_82 (by decide) ?_
        refine lv_icmp_ge (tgt := 111) hx hb dX0_spreadKey_83 (by decide) (fun c_3257 => absurd c_3257 (by decide)) (fun c_3257 => ?_)
        refine lv_aload_n hx hb dX0_spreadKey_86 rfl (lv_at hl_3256 4 rfl) ?_
        refine va_get (D := E.1) (ci := 2) (v := .ref qt) (C := RX0) (T := TX0) (N := 5) hx hb hts in_X0 hown hK hP_3255 0 rfl rfl 3 (by decide) w_2 (fun _ h9 => h9) rfl dX0_spreadKey_87 ?_
        refine lv_iload hx hb dX0_spreadKey_90 (lv_at hl_3256 0 rfl) ?_
        refine lv_aload_n hx hb dX0_spreadKey_92 rfl (lv_at hl_3256 4 rfl) ?_
        refine va_get (D := E.1) (ci := 2) (v := .ref qk) (C := RX0) (T := TX0) (N := 5) hx hb hts in_X0 hown hK hP_3255 0 rfl rfl 0 (by decide) w_1 (fun _ h9 => h9) rfl dX0_spreadKey_93 ?_
        refine lv_iload hx hb dX0_spreadKey_96 (lv_at hl_3256 1 rfl) ?_
        refine lv_iconst (v := 4) hx hb dX0_spreadKey_98 (by decide) ?_
        refine lv_isub hx hb dX0_spreadKey_99 ?_
        refine lv_topi (fun y_3258 ey_3258 => ?_)
        obtain rfl : y_3258 = (nI ((32 + 4 * i_3237) - 4)) := ey_3258.trans (pk_sub (a := 32 + 4 * i_3237) (b := 4) (by omega))
        refine lv_iload hx hb dX0_spreadKey_100 (lv_at hl_3256 0 rfl) ?_
        refine lv_iadd hx hb dX0_spreadKey_102 ?_
        refine lv_topi (fun y_3259 ey_3259 => ?_)
        obtain rfl : y_3259 = (nI (((32 + 4 * i_3237) - 4) + 3)) := ey_3259.trans (nI_add _ _)
        refine g_iald (e0 := ((32 + 4 * i_3237) - 4) + 3) hx hb hK hP_3255 1 0 rfl rfl (by omega) (by omega) dX0_spreadKey_103 ?_
        refine g_iast (e0 := 3) hx hb hK hP_3255 hD_3255 hS_3255 2 0 rfl rfl (by omega) (by omega) dX0_spreadKey_104 (fun H_3260 locs_3260 hP_3260 hD_3260 hS_3260 => ?_)
        replace hP_3260 : va_P E.1 vwCl [(h, .inr (2, [.ref qk, .ref qc, .ref qv, .ref qt, .int 14])), (qk, .inl (E.2.1, 240, .inl z_3237.2.1)), (qt, .inl (E.2.1, 4, .inl (upd (upd (upd (upd z_3237.2.2 0 (z_3237.2.1 (((32 + 4 * i_3237) - 4) + 0))) 1 (z_3237.2.1 (((32 + 4 * i_3237) - 4) + 1))) 2 (z_3237.2.1 (((32 + 4 * i_3237) - 4) + 2))) 3 (z_3237.2.1 (((32 + 4 * i_3237) - 4) + 3))))), (a2, .inl (E.2.1, n2, .inl q.2)), (h2, .inr (6, [.ref a2, .int q.1]))] H_3260 := hP_3260
        replace hD_3260 : va_D A [(h, .inr (2, [.ref qk, .ref qc, .ref qv, .ref qt, .int 14])), (qk, .inl (E.2.1, 240, .inl z_3237.2.1)), (qt, .inl (E.2.1, 4, .inl (upd (upd (upd (upd z_3237.2.2 0 (z_3237.2.1 (((32 + 4 * i_3237) - 4) + 0))) 1 (z_3237.2.1 (((32 + 4 * i_3237) - 4) + 1))) 2 (z_3237.2.1 (((32 + 4 * i_3237) - 4) + 2))) 3 (z_3237.2.1 (((32 + 4 * i_3237) - 4) + 3))))), (a2, .inl (E.2.1, n2, .inl q.2)), (h2, .inr (6, [.ref a2, .int q.1]))] := hD_3260
        clear hP_3255 hD_3255 hS_3255
        refine lv_iinc (v := 4) (lv' := [(5, .int 4), (4, .int (nI (32 + 4 * i_3237))), (3, .int z_3237.1), (2, .int 32), (0, .ref h), (1, .ref h2)]) hx hb dX0_spreadKey_105 hl_3256 (k := 0) rfl (by decide) (by decide) rfl (fun ls_3261 hl_3261 => ?_)
        clear hl_3256
        refine lv_goto (tgt := 80) hx hb dX0_spreadKey_108 (by decide) ?_
        refine lv_iload hx hb dX0_spreadKey_80 (lv_at hl_3261 0 rfl) ?_
        refine lv_iconst (v := 4) hx hb dX0_spreadKey_82 (by decide) ?_
        refine lv_icmp_ge (tgt := 111) hx hb dX0_spreadKey_83 (by decide) (fun c_3262 => ?_) (fun c_3262 => absurd (by decide) c_3262)
        refine lv_iload hx hb dX0_spreadKey_111 (lv_at hl_3261 1 rfl) ?_
        refine lv_iload_n hx hb dX0_spreadKey_113 rfl (lv_at hl_3261 3 rfl) ?_
        refine lv_iconst (v := 1) hx hb dX0_spreadKey_114 (by decide) ?_
        refine lv_isub hx hb dX0_spreadKey_115 ?_
        refine lv_topi (fun y_3263 ey_3263 => ?_)
        obtain rfl : y_3263 = 31 := ey_3263.trans (by decide)
        refine lv_iand hx hb dX0_spreadKey_116 ?_
        refine lv_topi (fun y_3264 ey_3264 => ?_)
        obtain rfl : y_3264 = (nI ((32 + 4 * i_3237) % 32)) := ey_3264.trans (pk_andN (n := 32 + 4 * i_3237) (by omega) 5 (by decide))
        refine lv_istore (lv' := [(5, .int (nI ((32 + 4 * i_3237) % 32))), (4, .int (nI (32 + 4 * i_3237))), (3, .int z_3237.1), (2, .int 32), (0, .ref h), (1, .ref h2)]) hx hb dX0_spreadKey_117 hl_3261 (by decide) rfl (fun ls_3265 hl_3265 => ?_)
        clear hl_3261
        refine lv_iload hx hb dX0_spreadKey_119 (lv_at hl_3265 0 rfl) ?_
        refine lv_if_ne (tgt := 137) hx hb dX0_spreadKey_121 (by decide) (fun c_3266 => ?_) (fun c_3266 => ?_)
        · replace c_3266 : ¬ (32 + 4 * i_3237) % 32 = 0 := (not_congr (nI_eq (a := (32 + 4 * i_3237) % 32) (b := 0) (by omega) (by omega))).mp c_3266
          refine lv_iload hx hb dX0_spreadKey_137 (lv_at hl_3265 0 rfl) ?_
          refine lv_bipush (v := 16) hx hb dX0_spreadKey_139 (by decide) ?_
          refine lv_icmp_ne (tgt := 148) hx hb dX0_spreadKey_141 (by decide) (fun c_3267 => ?_) (fun c_3267 => ?_)
          · replace c_3267 : ¬ (32 + 4 * i_3237) % 32 = 16 := (not_congr (nI_eq (a := (32 + 4 * i_3237) % 32) (b := 16) (by omega) (by omega))).mp c_3267
            refine lv_iconst (v := 0) hx hb dX0_spreadKey_148 (by decide) ?_
            refine lv_istore (lv' := [(6, .int 0), (5, .int (nI ((32 + 4 * i_3237) % 32))), (4, .int (nI (32 + 4 * i_3237))), (3, .int z_3237.1), (2, .int 32), (0, .ref h), (1, .ref h2)]) hx hb dX0_spreadKey_149 hl_3265 (by decide) rfl (fun ls_3268 hl_3268 => ?_)
            clear hl_3265
            refine lv_iload hx hb dX0_spreadKey_151 (lv_at hl_3268 0 rfl) ?_
            refine lv_iconst (v := 4) hx hb dX0_spreadKey_153 (by decide) ?_
            refine lv_icmp_ge (tgt := 193) hx hb dX0_spreadKey_154 (by decide) (fun c_3269 => absurd c_3269 (by decide)) (fun c_3269 => ?_)
            refine lv_aload_n hx hb dX0_spreadKey_157 rfl (lv_at hl_3268 5 rfl) ?_
            refine va_get (D := E.1) (ci := 2) (v := .ref qk) (C := RX0) (T := TX0) (N := 5) hx hb hts in_X0 hown hK hP_3260 0 rfl rfl 0 (by decide) w_1 (fun _ h9 => h9) rfl dX0_spreadKey_158 ?_
            refine lv_iload hx hb dX0_spreadKey_161 (lv_at hl_3268 2 rfl) ?_
            refine lv_iload hx hb dX0_spreadKey_163 (lv_at hl_3268 0 rfl) ?_
            refine lv_iadd hx hb dX0_spreadKey_165 ?_
            refine lv_topi (fun y_3270 ey_3270 => ?_)
            obtain rfl : y_3270 = (nI ((32 + 4 * i_3237) + 0)) := ey_3270.trans (nI_add _ _)
            refine lv_aload_n hx hb dX0_spreadKey_166 rfl (lv_at hl_3268 5 rfl) ?_
            refine va_get (D := E.1) (ci := 2) (v := .ref qk) (C := RX0) (T := TX0) (N := 5) hx hb hts in_X0 hown hK hP_3260 0 rfl rfl 0 (by decide) w_1 (fun _ h9 => h9) rfl dX0_spreadKey_167 ?_
            refine lv_iload hx hb dX0_spreadKey_170 (lv_at hl_3268 2 rfl) ?_
            refine lv_iload_n hx hb dX0_spreadKey_172 rfl (lv_at hl_3268 4 rfl) ?_
            refine lv_isub hx hb dX0_spreadKey_173 ?_
            refine lv_topi (fun y_3271 ey_3271 => ?_)
            obtain rfl : y_3271 = (nI ((32 + 4 * i_3237) - 32)) := ey_3271.trans (pk_sub (a := 32 + 4 * i_3237) (b := 32) (by omega))
            refine lv_iload hx hb dX0_spreadKey_174 (lv_at hl_3268 0 rfl) ?_
            refine lv_iadd hx hb dX0_spreadKey_176 ?_
            refine lv_topi (fun y_3272 ey_3272 => ?_)
            obtain rfl : y_3272 = (nI (((32 + 4 * i_3237) - 32) + 0)) := ey_3272.trans (nI_add _ _)
            refine g_iald (e0 := ((32 + 4 * i_3237) - 32) + 0) hx hb hK hP_3260 1 0 rfl rfl (by omega) (by omega) dX0_spreadKey_177 ?_
            refine lv_aload_n hx hb dX0_spreadKey_178 rfl (lv_at hl_3268 5 rfl) ?_
            refine va_get (D := E.1) (ci := 2) (v := .ref qt) (C := RX0) (T := TX0) (N := 5) hx hb hts in_X0 hown hK hP_3260 0 rfl rfl 3 (by decide) w_2 (fun _ h9 => h9) rfl dX0_spreadKey_179 ?_
            refine lv_iload hx hb dX0_spreadKey_182 (lv_at hl_3268 0 rfl) ?_
            refine g_iald (e0 := 0) hx hb hK hP_3260 2 0 rfl rfl (by omega) (by omega) dX0_spreadKey_184 ?_
            refine lv_ixor hx hb dX0_spreadKey_185 ?_
            refine lv_topi (fun v_3273 ev_3273 => ?_)
            refine g_iast (e0 := (32 + 4 * i_3237) + 0) hx hb hK hP_3260 hD_3260 hS_3260 1 0 rfl rfl (by omega) (by omega) dX0_spreadKey_186 (fun H_3274 locs_3274 hP_3274 hD_3274 hS_3274 => ?_)
            replace hP_3274 : va_P E.1 vwCl [(h, .inr (2, [.ref qk, .ref qc, .ref qv, .ref qt, .int 14])), (qk, .inl (E.2.1, 240, .inl (upd z_3237.2.1 ((32 + 4 * i_3237) + 0) v_3273))), (qt, .inl (E.2.1, 4, .inl (upd (upd (upd (upd z_3237.2.2 0 (z_3237.2.1 (((32 + 4 * i_3237) - 4) + 0))) 1 (z_3237.2.1 (((32 + 4 * i_3237) - 4) + 1))) 2 (z_3237.2.1 (((32 + 4 * i_3237) - 4) + 2))) 3 (z_3237.2.1 (((32 + 4 * i_3237) - 4) + 3))))), (a2, .inl (E.2.1, n2, .inl q.2)), (h2, .inr (6, [.ref a2, .int q.1]))] H_3274 := hP_3274
            replace hD_3274 : va_D A [(h, .inr (2, [.ref qk, .ref qc, .ref qv, .ref qt, .int 14])), (qk, .inl (E.2.1, 240, .inl (upd z_3237.2.1 ((32 + 4 * i_3237) + 0) v_3273))), (qt, .inl (E.2.1, 4, .inl (upd (upd (upd (upd z_3237.2.2 0 (z_3237.2.1 (((32 + 4 * i_3237) - 4) + 0))) 1 (z_3237.2.1 (((32 + 4 * i_3237) - 4) + 1))) 2 (z_3237.2.1 (((32 + 4 * i_3237) - 4) + 2))) 3 (z_3237.2.1 (((32 + 4 * i_3237) - 4) + 3))))), (a2, .inl (E.2.1, n2, .inl q.2)), (h2, .inr (6, [.ref a2, .int q.1]))] := hD_3274
            clear hP_3260 hD_3260 hS_3260
            refine lv_iinc (v := 1) (lv' := [(6, .int 1), (5, .int (nI ((32 + 4 * i_3237) % 32))), (4, .int (nI (32 + 4 * i_3237))), (3, .int z_3237.1), (2, .int 32), (0, .ref h), (1, .ref h2)]) hx hb dX0_spreadKey_187 hl_3268 (k := 0) rfl (by decide) (by decide) rfl (fun ls_3275 hl_3275 => ?_)
            clear hl_3268
            refine lv_goto (tgt := 151) hx hb dX0_spreadKey_190 (by decide) ?_
            refine lv_iload hx hb dX0_spreadKey_151 (lv_at hl_3275 0 rfl) ?_
            refine lv_iconst (v := 4) hx hb dX0_spreadKey_153 (by decide) ?_
            refine lv_icmp_ge (tgt := 193) hx hb dX0_spreadKey_154 (by decide) (fun c_3276 => absurd c_3276 (by decide)) (fun c_3276 => ?_)
            refine lv_aload_n hx hb dX0_spreadKey_157 rfl (lv_at hl_3275 5 rfl) ?_
            refine va_get (D := E.1) (ci := 2) (v := .ref qk) (C := RX0) (T := TX0) (N := 5) hx hb hts in_X0 hown hK hP_3274 0 rfl rfl 0 (by decide) w_1 (fun _ h9 => h9) rfl dX0_spreadKey_158 ?_
            refine lv_iload hx hb dX0_spreadKey_161 (lv_at hl_3275 2 rfl) ?_
            refine lv_iload hx hb dX0_spreadKey_163 (lv_at hl_3275 0 rfl) ?_
            refine lv_iadd hx hb dX0_spreadKey_165 ?_
            refine lv_topi (fun y_3277 ey_3277 => ?_)
            obtain rfl : y_3277 = (nI ((32 + 4 * i_3237) + 1)) := ey_3277.trans (nI_add _ _)
            refine lv_aload_n hx hb dX0_spreadKey_166 rfl (lv_at hl_3275 5 rfl) ?_
            refine va_get (D := E.1) (ci := 2) (v := .ref qk) (C := RX0) (T := TX0) (N := 5) hx hb hts in_X0 hown hK hP_3274 0 rfl rfl 0 (by decide) w_1 (fun _ h9 => h9) rfl dX0_spreadKey_167 ?_
            refine lv_iload hx hb dX0_spreadKey_170 (lv_at hl_3275 2 rfl) ?_
            refine lv_iload_n hx hb dX0_spreadKey_172 rfl (lv_at hl_3275 4 rfl) ?_
            refine lv_isub hx hb dX0_spreadKey_173 ?_
            refine lv_topi (fun y_3278 ey_3278 => ?_)
            obtain rfl : y_3278 = (nI ((32 + 4 * i_3237) - 32)) := ey_3278.trans (pk_sub (a := 32 + 4 * i_3237) (b := 32) (by omega))
            refine lv_iload hx hb dX0_spreadKey_174 (lv_at hl_3275 0 rfl) ?_
            refine lv_iadd hx hb dX0_spreadKey_176 ?_
            refine lv_topi (fun y_3279 ey_3279 => ?_)
            obtain rfl : y_3279 = (nI (((32 + 4 * i_3237) - 32) + 1)) := ey_3279.trans (nI_add _ _)
            refine g_iald (e0 := ((32 + 4 * i_3237) - 32) + 1) hx hb hK hP_3274 1 0 rfl rfl (by omega) (by omega) dX0_spreadKey_177 ?_
            refine lv_aload_n hx hb dX0_spreadKey_178 rfl (lv_at hl_3275 5 rfl) ?_
            refine va_get (D := E.1) (ci := 2) (v := .ref qt) (C := RX0) (T := TX0) (N := 5) hx hb hts in_X0 hown hK hP_3274 0 rfl rfl 3 (by decide) w_2 (fun _ h9 => h9) rfl dX0_spreadKey_179 ?_
            refine lv_iload hx hb dX0_spreadKey_182 (lv_at hl_3275 0 rfl) ?_
            refine g_iald (e0 := 1) hx hb hK hP_3274 2 0 rfl rfl (by omega) (by omega) dX0_spreadKey_184 ?_
            refine lv_ixor hx hb dX0_spreadKey_185 ?_
            refine lv_topi (fun v_3280 ev_3280 => ?_)
            refine g_iast (e0 := (32 + 4 * i_3237) + 1) hx hb hK hP_3274 hD_3274 hS_3274 1 0 rfl rfl (by omega) (by omega) dX0_spreadKey_186 (fun H_3281 locs_3281 hP_3281 hD_3281 hS_3281 => ?_)
            replace hP_3281 : va_P E.1 vwCl [(h, .inr (2, [.ref qk, .ref qc, .ref qv, .ref qt, .int 14])), (qk, .inl (E.2.1, 240, .inl (upd (upd z_3237.2.1 ((32 + 4 * i_3237) + 0) v_3273) ((32 + 4 * i_3237) + 1) v_3280))), (qt, .inl (E.2.1, 4, .inl (upd (upd (upd (upd z_3237.2.2 0 (z_3237.2.1 (((32 + 4 * i_3237) - 4) + 0))) 1 (z_3237.2.1 (((32 + 4 * i_3237) - 4) + 1))) 2 (z_3237.2.1 (((32 + 4 * i_3237) - 4) + 2))) 3 (z_3237.2.1 (((32 + 4 * i_3237) - 4) + 3))))), (a2, .inl (E.2.1, n2, .inl q.2)), (h2, .inr (6, [.ref a2, .int q.1]))] H_3281 := hP_3281
            replace hD_3281 : va_D A [(h, .inr (2, [.ref qk, .ref qc, .ref qv, .ref qt, .int 14])), (qk, .inl (E.2.1, 240, .inl (upd (upd z_3237.2.1 ((32 + 4 * i_3237) + 0) v_3273) ((32 + 4 * i_3237) + 1) v_3280))), (qt, .inl (E.2.1, 4, .inl (upd (upd (upd (upd z_3237.2.2 0 (z_3237.2.1 (((32 + 4 * i_3237) - 4) + 0))) 1 (z_3237.2.1 (((32 + 4 * i_3237) - 4) + 1))) 2 (z_3237.2.1 (((32 + 4 * i_3237) - 4) + 2))) 3 (z_3237.2.1 (((32 + 4 * i_3237) - 4) + 3))))), (a2, .inl (E.2.1, n2, .inl q.2)), (h2, .inr (6, [.ref a2, .int q.1]))] := hD_3281
            clear hP_3274 hD_3274 hS_3274
            refine lv_iinc (v := 2) (lv' := [(6, .int 2), (5, .int (nI ((32 + 4 * i_3237) % 32))), (4, .int (nI (32 + 4 * i_3237))), (3, .int z_3237.1), (2, .int 32), (0, .ref h), (1, .ref h2)]) hx hb dX0_spreadKey_187 hl_3275 (k := 0) rfl (by decide) (by decide) rfl (fun ls_3282 hl_3282 => ?_)
            clear hl_3275
            refine lv_goto (tgt := 151) hx hb dX0_spreadKey_190 (by decide) ?_
            refine lv_iload hx hb dX0_spreadKey_151 (lv_at hl_3282 0 rfl) ?_
            refine lv_iconst (v := 4) hx hb dX0_spreadKey_153 (by decide) ?_
            refine lv_icmp_ge (tgt := 193) hx hb dX0_spreadKey_154 (by decide) (fun c_3283 => absurd c_3283 (by decide)) (fun c_3283 => ?_)
            refine lv_aload_n hx hb dX0_spreadKey_157 rfl (lv_at hl_3282 5 rfl) ?_
            refine va_get (D := E.1) (ci := 2) (v := .ref qk) (C := RX0) (T := TX0) (N := 5) hx hb hts in_X0 hown hK hP_3281 0 rfl rfl 0 (by decide) w_1 (fun _ h9 => h9) rfl dX0_spreadKey_158 ?_
            refine lv_iload hx hb dX0_spreadKey_161 (lv_at hl_3282 2 rfl) ?_
            refine lv_iload hx hb dX0_spreadKey_163 (lv_at hl_3282 0 rfl) ?_
            refine lv_iadd hx hb dX0_spreadKey_165 ?_
            refine lv_topi (fun y_3284 ey_3284 => ?_)
            obtain rfl : y_3284 = (nI ((32 + 4 * i_3237) + 2)) := ey_3284.trans (nI_add _ _)
            refine lv_aload_n hx hb dX0_spreadKey_166 rfl (lv_at hl_3282 5 rfl) ?_
            refine va_get (D := E.1) (ci := 2) (v := .ref qk) (C := RX0) (T := TX0) (N := 5) hx hb hts in_X0 hown hK hP_3281 0 rfl rfl 0 (by decide) w_1 (fun _ h9 => h9) rfl dX0_spreadKey_167 ?_
            refine lv_iload hx hb dX0_spreadKey_170 (lv_at hl_3282 2 rfl) ?_
            refine lv_iload_n hx hb dX0_spreadKey_172 rfl (lv_at hl_3282 4 rfl) ?_
            refine lv_isub hx hb dX0_spreadKey_173 ?_
            refine lv_topi (fun y_3285 ey_3285 => ?_)
            obtain rfl : y_3285 = (nI ((32 + 4 * i_3237) - 32)) := ey_3285.trans (pk_sub (a := 32 + 4 * i_3237) (b := 32) (by omega))
            refine lv_iload hx hb dX0_spreadKey_174 (lv_at hl_3282 0 rfl) ?_
            refine lv_iadd hx hb dX0_spreadKey_176 ?_
            refine lv_topi (fun y_3286 ey_3286 => ?_)
            obtain rfl : y_3286 = (nI (((32 + 4 * i_3237) - 32) + 2)) := ey_3286.trans (nI_add _ _)
            refine g_iald (e0 := ((32 + 4 * i_3237) - 32) + 2) hx hb hK hP_3281 1 0 rfl rfl (by omega) (by omega) dX0_spreadKey_177 ?_
            refine lv_aload_n hx hb dX0_spreadKey_178 rfl (lv_at hl_3282 5 rfl) ?_
            refine va_get (D := E.1) (ci := 2) (v := .ref qt) (C := RX0) (T := TX0) (N := 5) hx hb hts in_X0 hown hK hP_3281 0 rfl rfl 3 (by decide) w_2 (fun _ h9 => h9) rfl dX0_spreadKey_179 ?_
            refine lv_iload hx hb dX0_spreadKey_182 (lv_at hl_3282 0 rfl) ?_
            refine g_iald (e0 := 2) hx hb hK hP_3281 2 0 rfl rfl (by omega) (by omega) dX0_spreadKey_184 ?_
            refine lv_ixor hx hb dX0_spreadKey_185 ?_
            refine lv_topi (fun v_3287 ev_3287 => ?_)
            refine g_iast (e0 := (32 + 4 * i_3237) + 2) hx hb hK hP_3281 hD_3281 hS_3281 1 0 rfl rfl (by omega) (by omega) dX0_spreadKey_186 (fun H_3288 locs_3288 hP_3288 hD_3288 hS_3288 => ?_)
            replace hP_3288 : va_P E.1 vwCl [(h, .inr (2, [.ref qk, .ref qc, .ref qv, .ref qt, .int 14])), (qk, .inl (E.2.1, 240, .inl (upd (upd (upd z_3237.2.1 ((32 + 4 * i_3237) + 0) v_3273) ((32 + 4 * i_3237) + 1) v_3280) ((32 + 4 * i_3237) + 2) v_3287))), (qt, .inl (E.2.1, 4, .inl (upd (upd (upd (upd z_3237.2.2 0 (z_3237.2.1 (((32 + 4 * i_3237) - 4) + 0))) 1 (z_3237.2.1 (((32 + 4 * i_3237) - 4) + 1))) 2 (z_3237.2.1 (((32 + 4 * i_3237) - 4) + 2))) 3 (z_3237.2.1 (((32 + 4 * i_3237) - 4) + 3))))), (a2, .inl (E.2.1, n2, .inl q.2)), (h2, .inr (6, [.ref a2, .int q.1]))] H_3288 := hP_3288
            replace hD_3288 : va_D A [(h, .inr (2, [.ref qk, .ref qc, .ref qv, .ref qt, .int 14])), (qk, .inl (E.2.1, 240, .inl (upd (upd (upd z_3237.2.1 ((32 + 4 * i_3237) + 0) v_3273) ((32 + 4 * i_3237) + 1) v_3280) ((32 + 4 * i_3237) + 2) v_3287))), (qt, .inl (E.2.1, 4, .inl (upd (upd (upd (upd z_3237.2.2 0 (z_3237.2.1 (((32 + 4 * i_3237) - 4) + 0))) 1 (z_3237.2.1 (((32 + 4 * i_3237) - 4) + 1))) 2 (z_3237.2.1 (((32 + 4 * i_3237) - 4) + 2))) 3 (z_3237.2.1 (((32 + 4 * i_3237) - 4) + 3))))), (a2, .inl (E.2.1, n2, .inl q.2)), (h2, .inr (6, [.ref a2, .int q.1]))] := hD_3288
            clear hP_3281 hD_3281 hS_3281
            refine lv_iinc (v := 3) (lv' := [(6, .int 3), (5, .int (nI ((32 + 4 * i_3237) % 32))), (4, .int (nI (32 + 4 * i_3237))), (3, .int z_3237.1), (2, .int 32), (0, .ref h), (1, .ref h2)]) hx hb dX0_spreadKey_187 hl_3282 (k := 0) rfl (by decide) (by decide) rfl (fun ls_3289 hl_3289 => ?_)
            clear hl_3282
            refine lv_goto (tgt := 151) hx hb dX0_spreadKey_190 (by decide) ?_
            refine lv_iload hx hb dX0_spreadKey_151 (lv_at hl_3289 0 rfl) ?_
            refine lv_iconst (v := 4) hx hb dX0_spreadKey_153 (by decide) ?_
            refine lv_icmp_ge (tgt := 193) hx hb dX0_spreadKey_154 (by decide) (fun c_3290 => absurd c_3290 (by decide)) (fun c_3290 => ?_)
            refine lv_aload_n hx hb dX0_spreadKey_157 rfl (lv_at hl_3289 5 rfl) ?_
            refine va_get (D := E.1) (ci := 2) (v := .ref qk) (C := RX0) (T := TX0) (N := 5) hx hb hts in_X0 hown hK hP_3288 0 rfl rfl 0 (by decide) w_1 (fun _ h9 => h9) rfl dX0_spreadKey_158 ?_
            refine lv_iload hx hb dX0_spreadKey_161 (lv_at hl_3289 2 rfl) ?_
            refine lv_iload hx hb dX0_spreadKey_163 (lv_at hl_3289 0 rfl) ?_
            refine lv_iadd hx hb dX0_spreadKey_165 ?_
            refine lv_topi (fun y_3291 ey_3291 => ?_)
            obtain rfl : y_3291 = (nI ((32 + 4 * i_3237) + 3)) := ey_3291.trans (nI_add _ _)
            refine lv_aload_n hx hb dX0_spreadKey_166 rfl (lv_at hl_3289 5 rfl) ?_
            refine va_get (D := E.1) (ci := 2) (v := .ref qk) (C := RX0) (T := TX0) (N := 5) hx hb hts in_X0 hown hK hP_3288 0 rfl rfl 0 (by decide) w_1 (fun _ h9 => h9) rfl dX0_spreadKey_167 ?_
            refine lv_iload hx hb dX0_spreadKey_170 (lv_at hl_3289 2 rfl) ?_
            refine lv_iload_n hx hb dX0_spreadKey_172 rfl (lv_at hl_3289 4 rfl) ?_
            refine lv_isub hx hb dX0_spreadKey_173 ?_
            refine lv_topi (fun y_3292 ey_3292 => ?_)
            obtain rfl : y_3292 = (nI ((32 + 4 * i_3237) - 32)) := ey_3292.trans (pk_sub (a := 32 + 4 * i_3237) (b := 32) (by omega))
            refine lv_iload hx hb dX0_spreadKey_174 (lv_at hl_3289 0 rfl) ?_
            refine lv_iadd hx hb dX0_spreadKey_176 ?_
            refine lv_topi (fun y_3293 ey_3293 => ?_)
            obtain rfl : y_3293 = (nI (((32 + 4 * i_3237) - 32) + 3)) := ey_3293.trans (nI_add _ _)
            refine g_iald (e0 := ((32 + 4 * i_3237) - 32) + 3) hx hb hK hP_3288 1 0 rfl rfl (by omega) (by omega) dX0_spreadKey_177 ?_
            refine lv_aload_n hx hb dX0_spreadKey_178 rfl (lv_at hl_3289 5 rfl) ?_
            refine va_get (D := E.1) (ci := 2) (v := .ref qt) (C := RX0) (T := TX0) (N := 5) hx hb hts in_X0 hown hK hP_3288 0 rfl rfl 3 (by decide) w_2 (fun _ h9 => h9) rfl dX0_spreadKey_179 ?_
            refine lv_iload hx hb dX0_spreadKey_182 (lv_at hl_3289 0 rfl) ?_
            refine g_iald (e0 := 3) hx hb hK hP_3288 2 0 rfl rfl (by omega) (by omega) dX0_spreadKey_184 ?_
            refine lv_ixor hx hb dX0_spreadKey_185 ?_
            refine lv_topi (fun v_3294 ev_3294 => ?_)
            refine g_iast (e0 := (32 + 4 * i_3237) + 3) hx hb hK hP_3288 hD_3288 hS_3288 1 0 rfl rfl (by omega) (by omega) dX0_spreadKey_186 (fun H_3295 locs_3295 hP_3295 hD_3295 hS_3295 => ?_)
            replace hP_3295 : va_P E.1 vwCl [(h, .inr (2, [.ref qk, .ref qc, .ref qv, .ref qt, .int 14])), (qk, .inl (E.2.1, 240, .inl (upd (upd (upd (upd z_3237.2.1 ((32 + 4 * i_3237) + 0) v_3273) ((32 + 4 * i_3237) + 1) v_3280) ((32 + 4 * i_3237) + 2) v_3287) ((32 + 4 * i_3237) + 3) v_3294))), (qt, .inl (E.2.1, 4, .inl (upd (upd (upd (upd z_3237.2.2 0 (z_3237.2.1 (((32 + 4 * i_3237) - 4) + 0))) 1 (z_3237.2.1 (((32 + 4 * i_3237) - 4) + 1))) 2 (z_3237.2.1 (((32 + 4 * i_3237) - 4) + 2))) 3 (z_3237.2.1 (((32 + 4 * i_3237) - 4) + 3))))), (a2, .inl (E.2.1, n2, .inl q.2)), (h2, .inr (6, [.ref a2, .int q.1]))] H_3295 := hP_3295
            replace hD_3295 : va_D A [(h, .inr (2, [.ref qk, .ref qc, .ref qv, .ref qt, .int 14])), (qk, .inl (E.2.1, 240, .inl (upd (upd (upd (upd z_3237.2.1 ((32 + 4 * i_3237) + 0) v_3273) ((32 + 4 * i_3237) + 1) v_3280) ((32 + 4 * i_3237) + 2) v_3287) ((32 + 4 * i_3237) + 3) v_3294))), (qt, .inl (E.2.1, 4, .inl (upd (upd (upd (upd z_3237.2.2 0 (z_3237.2.1 (((32 + 4 * i_3237) - 4) + 0))) 1 (z_3237.2.1 (((32 + 4 * i_3237) - 4) + 1))) 2 (z_3237.2.1 (((32 + 4 * i_3237) - 4) + 2))) 3 (z_3237.2.1 (((32 + 4 * i_3237) - 4) + 3))))), (a2, .inl (E.2.1, n2, .inl q.2)), (h2, .inr (6, [.ref a2, .int q.1]))] := hD_3295
            clear hP_3288 hD_3288 hS_3288
            refine lv_iinc (v := 4) (lv' := [(6, .int 4), (5, .int (nI ((32 + 4 * i_3237) % 32))), (4, .int (nI (32 + 4 * i_3237))), (3, .int z_3237.1), (2, .int 32), (0, .ref h), (1, .ref h2)]) hx hb dX0_spreadKey_187 hl_3289 (k := 0) rfl (by decide) (by decide) rfl (fun ls_3296 hl_3296 => ?_)
            clear hl_3289
            refine lv_goto (tgt := 151) hx hb dX0_spreadKey_190 (by decide) ?_
            refine lv_iload hx hb dX0_spreadKey_151 (lv_at hl_3296 0 rfl) ?_
            refine lv_iconst (v := 4) hx hb dX0_spreadKey_153 (by decide) ?_
            refine lv_icmp_ge (tgt := 193) hx hb dX0_spreadKey_154 (by decide) (fun c_3297 => ?_) (fun c_3297 => absurd (by decide) c_3297)
            refine lv_iinc (v := (nI ((32 + 4 * i_3237) + 4))) (lv' := [(4, .int (nI ((32 + 4 * i_3237) + 4))), (6, .int 4), (5, .int (nI ((32 + 4 * i_3237) % 32))), (3, .int z_3237.1), (2, .int 32), (0, .ref h), (1, .ref h2)]) hx hb dX0_spreadKey_193 hl_3296 (k := 2) rfl (nI_add _ 4) (by decide) rfl (fun ls_3298 hl_3298 => ?_)
            clear hl_3296
            refine lv_goto (tgt := 63) hx hb dX0_spreadKey_196 (by decide) ?_
            exact ih_3237 ((z_3237.1, (upd (upd (upd (upd z_3237.2.1 ((32 + 4 * i_3237) + 0) v_3273) ((32 + 4 * i_3237) + 1) v_3280) ((32 + 4 * i_3237) + 2) v_3287) ((32 + 4 * i_3237) + 3) v_3294), (upd (upd (upd (upd z_3237.2.2 0 (z_3237.2.1 (((32 + 4 * i_3237) - 4) + 0))) 1 (z_3237.2.1 (((32 + 4 * i_3237) - 4) + 1))) 2 (z_3237.2.1 (((32 + 4 * i_3237) - 4) + 2))) 3 (z_3237.2.1 (((32 + 4 * i_3237) - 4) + 3)))) : Int32 × (Nat → Int32) × (Nat → Int32)) _ _ _ (((show B_X0_spreadKey_63_f i_3237 z_3237 = _ from ((if_neg c_3266).trans ((if_neg c_3267).trans (gLet_eq ev_3273 (gLet_eq ev_3280 (gLet_eq ev_3287 (gLet_eq ev_3294 rfl))))))).symm.trans (congrArg (B_X0_spreadKey_63_f i_3237) hz_3237)).trans (itr_s _ _ _).symm) ⟨lv_sub hl_3298 [0, 3, 4, 5, 6] rfl, (hP_3295.sub [0, 1, 2, 3, 4] rfl), (hD_3295.sub [0, 1, 2, 3, 4] (by decide) rfl), hS_3295⟩
          · replace c_3267 : (32 + 4 * i_3237) % 32 = 16 := (nI_eq (a := (32 + 4 * i_3237) % 32) (b := 16) (by omega) (by omega)).mp c_3267
            refine lv_aload_n hx hb dX0_spreadKey_144 rfl (lv_at hl_3265 4 rfl) ?_
            refine gVv hF hl_3265 hV hP_3260 hD_3260 hS_3260 hA [0, 2] [1, 3, 4] (wc := [(h, .inr (2, [.ref qk, .ref qc, .ref qv, .ref qt, .int 14])), (qt, .inl (E.2.1, 4, .inl (upd (upd (upd (upd z_3237.2.2 0 (z_3237.2.1 (((32 + 4 * i_3237) - 4) + 0))) 1 (z_3237.2.1 (((32 + 4 * i_3237) - 4) + 1))) 2 (z_3237.2.1 (((32 + 4 * i_3237) - 4) + 2))) 3 (z_3237.2.1 (((32 + 4 * i_3237) - 4) + 3)))))]) (wr := [(qk, .inl (E.2.1, 240, .inl z_3237.2.1)), (a2, .inl (E.2.1, n2, .inl q.2)), (h2, .inr (6, [.ref a2, .int q.1]))]) rfl rfl rfl (by decide) 0 2 rfl rfl rfl (k_X0_substituteLast E l h qk qc qv qt 14 (upd (upd (upd (upd z_3237.2.2 0 (z_3237.2.1 (((32 + 4 * i_3237) - 4) + 0))) 1 (z_3237.2.1 (((32 + 4 * i_3237) - 4) + 1))) 2 (z_3237.2.1 (((32 + 4 * i_3237) - 4) + 2))) 3 (z_3237.2.1 (((32 + 4 * i_3237) - 4) + 3)))) (cwV 0 hts gX0_spreadKey_X0_substituteLast rfl rfl rfl (by decide +kernel) ⟨Nat.le_of_ble_eq_true rfl, Nat.le_of_ble_eq_true rfl⟩) rfl rfl rfl (Nat.le_of_ble_eq_true rfl) dX0_spreadKey_145 ⟨Nat.le_of_ble_eq_true rfl, Nat.le_of_ble_eq_true rfl⟩ (fun u_3299 H_3300 locs_3300 hu_3299 hP_3300 hD_3300 hS_3300 => ?_)
            replace hu_3299 : u_3299 = F_X0_substituteLast (upd (upd (upd (upd z_3237.2.2 0 (z_3237.2.1 (((32 + 4 * i_3237) - 4) + 0))) 1 (z_3237.2.1 (((32 + 4 * i_3237) - 4) + 1))) 2 (z_3237.2.1 (((32 + 4 * i_3237) - 4) + 2))) 3 (z_3237.2.1 (((32 + 4 * i_3237) - 4) + 3))) := hu_3299
            replace hP_3300 : va_P E.1 vwCl [(qk, .inl (E.2.1, 240, .inl z_3237.2.1)), (a2, .inl (E.2.1, n2, .inl q.2)), (h2, .inr (6, [.ref a2, .int q.1])), (h, .inr (2, [.ref qk, .ref qc, .ref qv, .ref qt, .int 14])), (qt, .inl (E.2.1, 4, .inl u_3299))] H_3300 := hP_3300
            replace hD_3300 : va_D A [(qk, .inl (E.2.1, 240, .inl z_3237.2.1)), (a2, .inl (E.2.1, n2, .inl q.2)), (h2, .inr (6, [.ref a2, .int q.1])), (h, .inr (2, [.ref qk, .ref qc, .ref qv, .ref qt, .int 14])), (qt, .inl (E.2.1, 4, .inl u_3299))] := hD_3300
            clear hP_3260 hD_3260 hS_3260
            refine lv_iconst (v := 0) hx hb dX0_spreadKey_148 (by decide) ?_
            refine lv_istore (lv' := [(6, .int 0), (5, .int (nI ((32 + 4 * i_3237) % 32))), (4, .int (nI (32 + 4 * i_3237))), (3, .int z_3237.1), (2, .int 32), (0, .ref h), (1, .ref h2)]) hx hb dX0_spreadKey_149 hl_3265 (by decide) rfl (fun ls_3301 hl_3301 => ?_)
            clear hl_3265
            refine lv_iload hx hb dX0_spreadKey_151 (lv_at hl_3301 0 rfl) ?_
            refine lv_iconst (v := 4) hx hb dX0_spreadKey_153 (by decide) ?_
            refine lv_icmp_ge (tgt := 193) hx hb dX0_spreadKey_154 (by decide) (fun c_3302 => absurd c_3302 (by decide)) (fun c_3302 => ?_)
            refine lv_aload_n hx hb dX0_spreadKey_157 rfl (lv_at hl_3301 5 rfl) ?_
            refine va_get (D := E.1) (ci := 2) (v := .ref qk) (C := RX0) (T := TX0) (N := 5) hx hb hts in_X0 hown hK hP_3300 3 rfl rfl 0 (by decide) w_1 (fun _ h9 => h9) rfl dX0_spreadKey_158 ?_
            refine lv_iload hx hb dX0_spreadKey_161 (lv_at hl_3301 2 rfl) ?_
            refine lv_iload hx hb dX0_spreadKey_163 (lv_at hl_3301 0 rfl) ?_
            refine lv_iadd hx hb dX0_spreadKey_165 ?_
            refine lv_topi (fun y_3303 ey_3303 => ?_)
            obtain rfl : y_3303 = (nI ((32 + 4 * i_3237) + 0)) := ey_3303.trans (nI_add _ _)
            refine lv_aload_n hx hb dX0_spreadKey_166 rfl (lv_at hl_3301 5 rfl) ?_
            refine va_get (D := E.1) (ci := 2) (v := .ref qk) (C := RX0) (T := TX0) (N := 5) hx hb hts in_X0 hown hK hP_3300 3 rfl rfl 0 (by decide) w_1 (fun _ h9 => h9) rfl dX0_spreadKey_167 ?_
            refine lv_iload hx hb dX0_spreadKey_170 (lv_at hl_3301 2 rfl) ?_
            refine lv_iload_n hx hb dX0_spreadKey_172 rfl (lv_at hl_3301 4 rfl) ?_
            refine lv_isub hx hb dX0_spreadKey_173 ?_
            refine lv_topi (fun y_3304 ey_3304 => ?_)
            obtain rfl : y_3304 = (nI ((32 + 4 * i_3237) - 32)) := ey_3304.trans (pk_sub (a := 32 + 4 * i_3237) (b := 32) (by omega))
            refine lv_iload hx hb dX0_spreadKey_174 (lv_at hl_3301 0 rfl) ?_
            refine lv_iadd hx hb dX0_spreadKey_176 ?_
            refine lv_topi (fun y_3305 ey_3305 => ?_)
            obtain rfl : y_3305 = (nI (((32 + 4 * i_3237) - 32) + 0)) := ey_3305.trans (nI_add _ _)
            refine g_iald (e0 := ((32 + 4 * i_3237) - 32) + 0) hx hb hK hP_3300 0 0 rfl rfl (by omega) (by omega) dX0_spreadKey_177 ?_
            refine lv_aload_n hx hb dX0_spreadKey_178 rfl (lv_at hl_3301 5 rfl) ?_
            refine va_get (D := E.1) (ci := 2) (v := .ref qt) (C := RX0) (T := TX0) (N := 5) hx hb hts in_X0 hown hK hP_3300 3 rfl rfl 3 (by decide) w_2 (fun _ h9 => h9) rfl dX0_spreadKey_179 ?_
            refine lv_iload hx hb dX0_spreadKey_182 (lv_at hl_3301 0 rfl) ?_
            refine g_iald (e0 := 0) hx hb hK hP_3300 4 0 rfl rfl (by omega) (by omega) dX0_spreadKey_184 ?_
            refine lv_ixor hx hb dX0_spreadKey_185 ?_
            refine g_iast (e0 := (32 + 4 * i_3237) + 0) hx hb hK hP_3300 hD_3300 hS_3300 0 0 rfl rfl (by omega) (by omega) dX0_spreadKey_186 (fun H_3306 locs_3306 hP_3306 hD_3306 hS_3306 => ?_)
            replace hP_3306 : va_P E.1 vwCl [(qk, .inl (E.2.1, 240, .inl (upd z_3237.2.1 ((32 + 4 * i_3237) + 0) ((z_3237.2.1 (((32 + 4 * i_3237) - 32) + 0)) ^^^ (u_3299 0))))), (a2, .inl (E.2.1, n2, .inl q.2)), (h2, .inr (6, [.ref a2, .int q.1])), (h, .inr (2, [.ref qk, .ref qc, .ref qv, .ref qt, .int 14])), (qt, .inl (E.2.1, 4, .inl u_3299))] H_3306 := hP_3306
            replace hD_3306 : va_D A [(qk, .inl (E.2.1, 240, .inl (upd z_3237.2.1 ((32 + 4 * i_3237) + 0) ((z_3237.2.1 (((32 + 4 * i_3237) - 32) + 0)) ^^^ (u_3299 0))))), (a2, .inl (E.2.1, n2, .inl q.2)), (h2, .inr (6, [.ref a2, .int q.1])), (h, .inr (2, [.ref qk, .ref qc, .ref qv, .ref qt, .int 14])), (qt, .inl (E.2.1, 4, .inl u_3299))] := hD_3306
            clear hP_3300 hD_3300 hS_3300
            refine lv_iinc (v := 1) (lv' := [(6, .int 1), (5, .int (nI ((32 + 4 * i_3237) % 32))), (4, .int (nI (32 + 4 * i_3237))), (3, .int z_3237.1), (2, .int 32), (0, .ref h), (1, .ref h2)]) hx hb dX0_spreadKey_187 hl_3301 (k := 0) rfl (by decide) (by decide) rfl (fun ls_3307 hl_3307 => ?_)
            clear hl_3301
            refine lv_goto (tgt := 151) hx hb dX0_spreadKey_190 (by decide) ?_
            refine lv_iload hx hb dX0_spreadKey_151 (lv_at hl_3307 0 rfl) ?_
            refine lv_iconst (v := 4) hx hb dX0_spreadKey_153 (by decide) ?_
            refine lv_icmp_ge (tgt := 193) hx hb dX0_spreadKey_154 (by decide) (fun c_3308 => absurd c_3308 (by decide)) (fun c_3308 => ?_)
            refine lv_aload_n hx hb dX0_spreadKey_157 rfl (lv_at hl_3307 5 rfl) ?_
            refine va_get (D := E.1) (ci := 2) (v := .ref qk) (C := RX0) (T := TX0) (N := 5) hx hb hts in_X0 hown hK hP_3306 3 rfl rfl 0 (by decide) w_1 (fun _ h9 => h9) rfl dX0_spreadKey_158 ?_
            refine lv_iload hx hb dX0_spreadKey_161 (lv_at hl_3307 2 rfl) ?_
            refine lv_iload hx hb dX0_spreadKey_163 (lv_at hl_3307 0 rfl) ?_
            refine lv_iadd hx hb dX0_spreadKey_165 ?_
            refine lv_topi (fun y_3309 ey_3309 => ?_)
            obtain rfl : y_3309 = (nI ((32 + 4 * i_3237) + 1)) := ey_3309.trans (nI_add _ _)
            refine lv_aload_n hx hb dX0_spreadKey_166 rfl (lv_at hl_3307 5 rfl) ?_
            refine va_get (D := E.1) (ci := 2) (v := .ref qk) (C := RX0) (T := TX0) (N := 5) hx hb hts in_X0 hown hK hP_3306 3 rfl rfl 0 (by decide) w_1 (fun _ h9 => h9) rfl dX0_spreadKey_167 ?_
            refine lv_iload hx hb dX0_spreadKey_170 (lv_at hl_3307 2 rfl) ?_
            refine lv_iload_n hx hb dX0_spreadKey_172 rfl (lv_at hl_3307 4 rfl) ?_
            refine lv_isub hx hb dX0_spreadKey_173 ?_
            refine lv_topi (fun y_3310 ey_3310 => ?_)
            obtain rfl : y_3310 = (nI ((32 + 4 * i_3237) - 32)) := ey_3310.trans (pk_sub (a := 32 + 4 * i_3237) (b := 32) (by omega))
            refine lv_iload hx hb dX0_spreadKey_174 (lv_at hl_3307 0 rfl) ?_
            refine lv_iadd hx hb dX0_spreadKey_176 ?_
            refine lv_topi (fun y_3311 ey_3311 => ?_)
            obtain rfl : y_3311 = (nI (((32 + 4 * i_3237) - 32) + 1)) := ey_3311.trans (nI_add _ _)
            refine g_iald (e0 := ((32 + 4 * i_3237) - 32) + 1) hx hb hK hP_3306 0 0 rfl rfl (by omega) (by omega) dX0_spreadKey_177 ?_
            refine lv_aload_n hx hb dX0_spreadKey_178 rfl (lv_at hl_3307 5 rfl) ?_
            refine va_get (D := E.1) (ci := 2) (v := .ref qt) (C := RX0) (T := TX0) (N := 5) hx hb hts in_X0 hown hK hP_3306 3 rfl rfl 3 (by decide) w_2 (fun _ h9 => h9) rfl dX0_spreadKey_179 ?_
            refine lv_iload hx hb dX0_spreadKey_182 (lv_at hl_3307 0 rfl) ?_
            refine g_iald (e0 := 1) hx hb hK hP_3306 4 0 rfl rfl (by omega) (by omega) dX0_spreadKey_184 ?_
            refine lv_ixor hx hb dX0_spreadKey_185 ?_
            refine lv_topi (fun v_3312 ev_3312 => ?_)
            refine g_iast (e0 := (32 + 4 * i_3237) + 1) hx hb hK hP_3306 hD_3306 hS_3306 0 0 rfl rfl (by omega) (by omega) dX0_spreadKey_186 (fun H_3313 locs_3313 hP_3313 hD_3313 hS_3313 => ?_)
            replace hP_3313 : va_P E.1 vwCl [(qk, .inl (E.2.1, 240, .inl (upd (upd z_3237.2.1 ((32 + 4 * i_3237) + 0) ((z_3237.2.1 (((32 + 4 * i_3237) - 32) + 0)) ^^^ (u_3299 0))) ((32 + 4 * i_3237) + 1) v_3312))), (a2, .inl (E.2.1, n2, .inl q.2)), (h2, .inr (6, [.ref a2, .int q.1])), (h, .inr (2, [.ref qk, .ref qc, .ref qv, .ref qt, .int 14])), (qt, .inl (E.2.1, 4, .inl u_3299))] H_3313 := hP_3313
            replace hD_3313 : va_D A [(qk, .inl (E.2.1, 240, .inl (upd (upd z_3237.2.1 ((32 + 4 * i_3237) + 0) ((z_3237.2.1 (((32 + 4 * i_3237) - 32) + 0)) ^^^ (u_3299 0))) ((32 + 4 * i_3237) + 1) v_3312))), (a2, .inl (E.2.1, n2, .inl q.2)), (h2, .inr (6, [.ref a2, .int q.1])), (h, .inr (2, [.ref qk, .ref qc, .ref qv, .ref qt, .int 14])), (qt, .inl (E.2.1, 4, .inl u_3299))] := hD_3313
            clear hP_3306 hD_3306 hS_3306
            refine lv_iinc (v := 2) (lv' := [(6, .int 2), (5, .int (nI ((32 + 4 * i_3237) % 32))), (4, .int (nI (32 + 4 * i_3237))), (3, .int z_3237.1), (2, .int 32), (0, .ref h), (1, .ref h2)]) hx hb dX0_spreadKey_187 hl_3307 (k := 0) rfl (by decide) (by decide) rfl (fun ls_3314 hl_3314 => ?_)
            clear hl_3307
            refine lv_goto (tgt := 151) hx hb dX0_spreadKey_190 (by decide) ?_
            refine lv_iload hx hb dX0_spreadKey_151 (lv_at hl_3314 0 rfl) ?_
            refine lv_iconst (v := 4) hx hb dX0_spreadKey_153 (by decide) ?_
            refine lv_icmp_ge (tgt := 193) hx hb dX0_spreadKey_154 (by decide) (fun c_3315 => absurd c_3315 (by decide)) (fun c_3315 => ?_)
            refine lv_aload_n hx hb dX0_spreadKey_157 rfl (lv_at hl_3314 5 rfl) ?_
            refine va_get (D := E.1) (ci := 2) (v := .ref qk) (C := RX0) (T := TX0) (N := 5) hx hb hts in_X0 hown hK hP_3313 3 rfl rfl 0 (by decide) w_1 (fun _ h9 => h9) rfl dX0_spreadKey_158 ?_
            refine lv_iload hx hb dX0_spreadKey_161 (lv_at hl_3314 2 rfl) ?_
            refine lv_iload hx hb dX0_spreadKey_163 (lv_at hl_3314 0 rfl) ?_
            refine lv_iadd hx hb dX0_spreadKey_165 ?_
            refine lv_topi (fun y_3316 ey_3316 => ?_)
            obtain rfl : y_3316 = (nI ((32 + 4 * i_3237) + 2)) := ey_3316.trans (nI_add _ _)
            refine lv_aload_n hx hb dX0_spreadKey_166 rfl (lv_at hl_3314 5 rfl) ?_
            refine va_get (D := E.1) (ci := 2) (v := .ref qk) (C := RX0) (T := TX0) (N := 5) hx hb hts in_X0 hown hK hP_3313 3 rfl rfl 0 (by decide) w_1 (fun _ h9 => h9) rfl dX0_spreadKey_167 ?_
            refine lv_iload hx hb dX0_spreadKey_170 (lv_at hl_3314 2 rfl) ?_
            refine lv_iload_n hx hb dX0_spreadKey_172 rfl (lv_at hl_3314 4 rfl) ?_
            refine lv_isub hx hb dX0_spreadKey_173 ?_
            refine lv_topi (fun y_3317 ey_3317 => ?_)
            obtain rfl : y_3317 = (nI ((32 + 4 * i_3237) - 32)) := ey_3317.trans (pk_sub (a := 32 + 4 * i_3237) (b := 32) (by omega))
            refine lv_iload hx hb dX0_spreadKey_174 (lv_at hl_3314 0 rfl) ?_
            refine lv_iadd hx hb dX0_spreadKey_176 ?_
            refine lv_topi (fun y_3318 ey_3318 => ?_)
            obtain rfl : y_3318 = (nI (((32 + 4 * i_3237) - 32) + 2)) := ey_3318.trans (nI_add _ _)
            refine g_iald (e0 := ((32 + 4 * i_3237) - 32) + 2) hx hb hK hP_3313 0 0 rfl rfl (by omega) (by omega) dX0_spreadKey_177 ?_
            refine lv_aload_n hx hb dX0_spreadKey_178 rfl (lv_at hl_3314 5 rfl) ?_
            refine va_get (D := E.1) (ci := 2) (v := .ref qt) (C := RX0) (T := TX0) (N := 5) hx hb hts in_X0 hown hK hP_3313 3 rfl rfl 3 (by decide) w_2 (fun _ h9 => h9) rfl dX0_spreadKey_179 ?_
            refine lv_iload hx hb dX0_spreadKey_182 (lv_at hl_3314 0 rfl) ?_
            refine g_iald (e0 := 2) hx hb hK hP_3313 4 0 rfl rfl (by omega) (by omega) dX0_spreadKey_184 ?_
            refine lv_ixor hx hb dX0_spreadKey_185 ?_
            refine lv_topi (fun v_3319 ev_3319 => ?_)
            refine g_iast (e0 := (32 + 4 * i_3237) + 2) hx hb hK hP_3313 hD_3313 hS_3313 0 0 rfl rfl (by omega) (by omega) dX0_spreadKey_186 (fun H_3320 locs_3320 hP_3320 hD_3320 hS_3320 => ?_)
            replace hP_3320 : va_P E.1 vwCl [(qk, .inl (E.2.1, 240, .inl (upd (upd (upd z_3237.2.1 ((32 + 4 * i_3237) + 0) ((z_3237.2.1 (((32 + 4 * i_3237) - 32) + 0)) ^^^ (u_3299 0))) ((32 + 4 * i_3237) + 1) v_3312) ((32 + 4 * i_3237) + 2) v_3319))), (a2, .inl (E.2.1, n2, .inl q.2)), (h2, .inr (6, [.ref a2, .int q.1])), (h, .inr (2, [.ref qk, .ref qc, .ref qv, .ref qt, .int 14])), (qt, .inl (E.2.1, 4, .inl u_3299))] H_3320 := hP_3320
            replace hD_3320 : va_D A [(qk, .inl (E.2.1, 240, .inl (upd (upd (upd z_3237.2.1 ((32 + 4 * i_3237) + 0) ((z_3237.2.1 (((32 + 4 * i_3237) - 32) + 0)) ^^^ (u_3299 0))) ((32 + 4 * i_3237) + 1) v_3312) ((32 + 4 * i_3237) + 2) v_3319))), (a2, .inl (E.2.1, n2, .inl q.2)), (h2, .inr (6, [.ref a2, .int q.1])), (h, .inr (2, [.ref qk, .ref qc, .ref qv, .ref qt, .int 14])), (qt, .inl (E.2.1, 4, .inl u_3299))] := hD_3320
            clear hP_3313 hD_3313 hS_3313
            refine lv_iinc (v := 3) (lv' := [(6, .int 3), (5, .int (nI ((32 + 4 * i_3237) % 32))), (4, .int (nI (32 + 4 * i_3237))), (3, .int z_3237.1), (2, .int 32), (0, .ref h), (1, .ref h2)]) hx hb dX0_spreadKey_187 hl_3314 (k := 0) rfl (by decide) (by decide) rfl (fun ls_3321 hl_3321 => ?_)
            clear hl_3314
            refine lv_goto (tgt := 151) hx hb dX0_spreadKey_190 (by decide) ?_
            refine lv_iload hx hb dX0_spreadKey_151 (lv_at hl_3321 0 rfl) ?_
            refine lv_iconst (v := 4) hx hb dX0_spreadKey_153 (by decide) ?_
            refine lv_icmp_ge (tgt := 193) hx hb dX0_spreadKey_154 (by decide) (fun c_3322 => absurd c_3322 (by decide)) (fun c_3322 => ?_)
            refine lv_aload_n hx hb dX0_spreadKey_157 rfl (lv_at hl_3321 5 rfl) ?_
            refine va_get (D := E.1) (ci := 2) (v := .ref qk) (C := RX0) (T := TX0) (N := 5) hx hb hts in_X0 hown hK hP_3320 3 rfl rfl 0 (by decide) w_1 (fun _ h9 => h9) rfl dX0_spreadKey_158 ?_
            refine lv_iload hx hb dX0_spreadKey_161 (lv_at hl_3321 2 rfl) ?_
            refine lv_iload hx hb dX0_spreadKey_163 (lv_at hl_3321 0 rfl) ?_
            refine lv_iadd hx hb dX0_spreadKey_165 ?_
            refine lv_topi (fun y_3323 ey_3323 => ?_)
            obtain rfl : y_3323 = (nI ((32 + 4 * i_3237) + 3)) := ey_3323.trans (nI_add _ _)
            refine lv_aload_n hx hb dX0_spreadKey_166 rfl (lv_at hl_3321 5 rfl) ?_
            refine va_get (D := E.1) (ci := 2) (v := .ref qk) (C := RX0) (T := TX0) (N := 5) hx hb hts in_X0 hown hK hP_3320 3 rfl rfl 0 (by decide) w_1 (fun _ h9 => h9) rfl dX0_spreadKey_167 ?_
            refine lv_iload hx hb dX0_spreadKey_170 (lv_at hl_3321 2 rfl) ?_
            refine lv_iload_n hx hb dX0_spreadKey_172 rfl (lv_at hl_3321 4 rfl) ?_
            refine lv_isub hx hb dX0_spreadKey_173 ?_
            refine lv_topi (fun y_3324 ey_3324 => ?_)
            obtain rfl : y_3324 = (nI ((32 + 4 * i_3237) - 32)) := ey_3324.trans (pk_sub (a := 32 + 4 * i_3237) (b := 32) (by omega))
            refine lv_iload hx hb dX0_spreadKey_174 (lv_at hl_3321 0 rfl) ?_
            refine lv_iadd hx hb dX0_spreadKey_176 ?_
            refine lv_topi (fun y_3325 ey_3325 => ?_)
            obtain rfl : y_3325 = (nI (((32 + 4 * i_3237) - 32) + 3)) := ey_3325.trans (nI_add _ _)
            refine g_iald (e0 := ((32 + 4 * i_3237) - 32) + 3) hx hb hK hP_3320 0 0 rfl rfl (by omega) (by omega) dX0_spreadKey_177 ?_
            refine lv_aload_n hx hb dX0_spreadKey_178 rfl (lv_at hl_3321 5 rfl) ?_
            refine va_get (D := E.1) (ci := 2) (v := .ref qt) (C := RX0) (T := TX0) (N := 5) hx hb hts in_X0 hown hK hP_3320 3 rfl rfl 3 (by decide) w_2 (fun _ h9 => h9) rfl dX0_spreadKey_179 ?_
            refine lv_iload hx hb dX0_spreadKey_182 (lv_at hl_3321 0 rfl) ?_
            refine g_iald (e0 := 3) hx hb hK hP_3320 4 0 rfl rfl (by omega) (by omega) dX0_spreadKey_184 ?_
            refine lv_ixor hx hb dX0_spreadKey_185 ?_
            refine lv_topi (fun v_3326 ev_3326 => ?_)
            refine g_iast (e0 := (32 + 4 * i_3237) + 3) hx hb hK hP_3320 hD_3320 hS_3320 0 0 rfl rfl (by omega) (by omega) dX0_spreadKey_186 (fun H_3327 locs_3327 hP_3327 hD_3327 hS_3327 => ?_)
            replace hP_3327 : va_P E.1 vwCl [(qk, .inl (E.2.1, 240, .inl (upd (upd (upd (upd z_3237.2.1 ((32 + 4 * i_3237) + 0) ((z_3237.2.1 (((32 + 4 * i_3237) - 32) + 0)) ^^^ (u_3299 0))) ((32 + 4 * i_3237) + 1) v_3312) ((32 + 4 * i_3237) + 2) v_3319) ((32 + 4 * i_3237) + 3) v_3326))), (a2, .inl (E.2.1, n2, .inl q.2)), (h2, .inr (6, [.ref a2, .int q.1])), (h, .inr (2, [.ref qk, .ref qc, .ref qv, .ref qt, .int 14])), (qt, .inl (E.2.1, 4, .inl u_3299))] H_3327 := hP_3327
            replace hD_3327 : va_D A [(qk, .inl (E.2.1, 240, .inl (upd (upd (upd (upd z_3237.2.1 ((32 + 4 * i_3237) + 0) ((z_3237.2.1 (((32 + 4 * i_3237) - 32) + 0)) ^^^ (u_3299 0))) ((32 + 4 * i_3237) + 1) v_3312) ((32 + 4 * i_3237) + 2) v_3319) ((32 + 4 * i_3237) + 3) v_3326))), (a2, .inl (E.2.1, n2, .inl q.2)), (h2, .inr (6, [.ref a2, .int q.1])), (h, .inr (2, [.ref qk, .ref qc, .ref qv, .ref qt, .int 14])), (qt, .inl (E.2.1, 4, .inl u_3299))] := hD_3327
            clear hP_3320 hD_3320 hS_3320
            refine lv_iinc (v := 4) (lv' := [(6, .int 4), (5, .int (nI ((32 + 4 * i_3237) % 32))), (4, .int (nI (32 + 4 * i_3237))), (3, .int z_3237.1), (2, .int 32), (0, .ref h), (1, .ref h2)]) hx hb dX0_spreadKey_187 hl_3321 (k := 0) rfl (by decide) (by decide) rfl (fun ls_3328 hl_3328 => ?_)
            clear hl_3321
            refine lv_goto (tgt := 151) hx hb dX0_spreadKey_190 (by decide) ?_
            refine lv_iload hx hb dX0_spreadKey_151 (lv_at hl_3328 0 rfl) ?_
            refine lv_iconst (v := 4) hx hb dX0_spreadKey_153 (by decide) ?_
            refine lv_icmp_ge (tgt := 193) hx hb dX0_spreadKey_154 (by decide) (fun c_3329 => ?_) (fun c_3329 => absurd (by decide) c_3329)
            refine lv_iinc (v := (nI ((32 + 4 * i_3237) + 4))) (lv' := [(4, .int (nI ((32 + 4 * i_3237) + 4))), (6, .int 4), (5, .int (nI ((32 + 4 * i_3237) % 32))), (3, .int z_3237.1), (2, .int 32), (0, .ref h), (1, .ref h2)]) hx hb dX0_spreadKey_193 hl_3328 (k := 2) rfl (nI_add _ 4) (by decide) rfl (fun ls_3330 hl_3330 => ?_)
            clear hl_3328
            refine lv_goto (tgt := 63) hx hb dX0_spreadKey_196 (by decide) ?_
            exact ih_3237 ((z_3237.1, (upd (upd (upd (upd z_3237.2.1 ((32 + 4 * i_3237) + 0) ((z_3237.2.1 (((32 + 4 * i_3237) - 32) + 0)) ^^^ (u_3299 0))) ((32 + 4 * i_3237) + 1) v_3312) ((32 + 4 * i_3237) + 2) v_3319) ((32 + 4 * i_3237) + 3) v_3326), u_3299) : Int32 × (Nat → Int32) × (Nat → Int32)) _ _ _ (((show B_X0_spreadKey_63_f i_3237 z_3237 = _ from ((if_neg c_3266).trans ((if_pos c_3267).trans (gLet_eq hu_3299 (gLet_eq ev_3312 (gLet_eq ev_3319 (gLet_eq ev_3326 rfl))))))).symm.trans (congrArg (B_X0_spreadKey_63_f i_3237) hz_3237)).trans (itr_s _ _ _).symm) ⟨lv_sub hl_3330 [0, 3, 4, 5, 6] rfl, (hP_3327.sub [3, 0, 4, 1, 2] rfl), (hD_3327.sub [3, 0, 4, 1, 2] (by decide) rfl), hS_3327⟩
        · replace c_3266 : (32 + 4 * i_3237) % 32 = 0 := (nI_eq (a := (32 + 4 * i_3237) % 32) (b := 0) (by omega) (by omega)).mp c_3266
          refine lv_aload_n hx hb dX0_spreadKey_124 rfl (lv_at hl_3265 4 rfl) ?_
          refine lv_iload_n hx hb dX0_spreadKey_125 rfl (lv_at hl_3265 2 rfl) ?_
          refine gVv hF hl_3265 hV hP_3260 hD_3260 hS_3260 hA [0, 2] [1, 3, 4] (wc := [(h, .inr (2, [.ref qk, .ref qc, .ref qv, .ref qt, .int 14])), (qt, .inl (E.2.1, 4, .inl (upd (upd (upd (upd z_3237.2.2 0 (z_3237.2.1 (((32 + 4 * i_3237) - 4) + 0))) 1 (z_3237.2.1 (((32 + 4 * i_3237) - 4) + 1))) 2 (z_3237.2.1 (((32 + 4 * i_3237) - 4) + 2))) 3 (z_3237.2.1 (((32 + 4 * i_3237) - 4) + 3)))))]) (wr := [(qk, .inl (E.2.1, 240, .inl z_3237.2.1)), (a2, .inl (E.2.1, n2, .inl q.2)), (h2, .inr (6, [.ref a2, .int q.1]))]) rfl rfl rfl (by decide) 0 2 rfl rfl rfl (k_X0_turnLast E l h qk qc qv qt 14 (upd (upd (upd (upd z_3237.2.2 0 (z_3237.2.1 (((32 + 4 * i_3237) - 4) + 0))) 1 (z_3237.2.1 (((32 + 4 * i_3237) - 4) + 1))) 2 (z_3237.2.1 (((32 + 4 * i_3237) - 4) + 2))) 3 (z_3237.2.1 (((32 + 4 * i_3237) - 4) + 3))) z_3237.1) (cwV 1 hts gX0_spreadKey_X0_turnLast rfl rfl rfl (by decide +kernel) ⟨Nat.le_of_ble_eq_true rfl, Nat.le_of_ble_eq_true rfl⟩) rfl rfl rfl (Nat.le_of_ble_eq_true rfl) dX0_spreadKey_126 ⟨Nat.le_of_ble_eq_true rfl, Nat.le_of_ble_eq_true rfl⟩ (fun u_3331 H_3332 locs_3332 hu_3331 hP_3332 hD_3332 hS_3332 => ?_)
          replace hu_3331 : u_3331 = F_X0_turnLast (upd (upd (upd (upd z_3237.2.2 0 (z_3237.2.1 (((32 + 4 * i_3237) - 4) + 0))) 1 (z_3237.2.1 (((32 + 4 * i_3237) - 4) + 1))) 2 (z_3237.2.1 (((32 + 4 * i_3237) - 4) + 2))) 3 (z_3237.2.1 (((32 + 4 * i_3237) - 4) + 3))) z_3237.1 := hu_3331
          replace hP_3332 : va_P E.1 vwCl [(qk, .inl (E.2.1, 240, .inl z_3237.2.1)), (a2, .inl (E.2.1, n2, .inl q.2)), (h2, .inr (6, [.ref a2, .int q.1])), (h, .inr (2, [.ref qk, .ref qc, .ref qv, .ref qt, .int 14])), (qt, .inl (E.2.1, 4, .inl u_3331))] H_3332 := hP_3332
          replace hD_3332 : va_D A [(qk, .inl (E.2.1, 240, .inl z_3237.2.1)), (a2, .inl (E.2.1, n2, .inl q.2)), (h2, .inr (6, [.ref a2, .int q.1])), (h, .inr (2, [.ref qk, .ref qc, .ref qv, .ref qt, .int 14])), (qt, .inl (E.2.1, 4, .inl u_3331))] := hD_3332
          clear hP_3260 hD_3260 hS_3260
          refine lv_iload_n hx hb dX0_spreadKey_129 rfl (lv_at hl_3265 2 rfl) ?_
          refine gSi hF hl_3265 hV hP_3332 hD_3332 hS_3332 hA [] [0, 1, 2, 3, 4] (wc := []) (wr := [(qk, .inl (E.2.1, 240, .inl z_3237.2.1)), (a2, .inl (E.2.1, n2, .inl q.2)), (h2, .inr (6, [.ref a2, .int q.1])), (h, .inr (2, [.ref qk, .ref qc, .ref qv, .ref qt, .int 14])), (qt, .inl (E.2.1, 4, .inl u_3331))]) rfl rfl rfl (by decide) (k_X0_twice E l z_3237.1) (va_cwS 1 hts gX0_spreadKey_X0_twice rfl rfl rfl (by decide +kernel) ⟨Nat.le_of_ble_eq_true rfl, Nat.le_of_ble_eq_true rfl⟩) rfl rfl (Nat.le_of_ble_eq_true rfl) dX0_spreadKey_130 ⟨Nat.le_of_ble_eq_true rfl, Nat.le_of_ble_eq_true rfl⟩ (fun r_3333 _ H_3334 locs_3334 hu_3333 hP_3334 hD_3334 hS_3334 => ?_)
          have er_3333 : r_3333 = F_X0_twice z_3237.1 := hu_3333
          clear hu_3333
          replace hP_3334 : va_P E.1 vwCl [(qk, .inl (E.2.1, 240, .inl z_3237.2.1)), (a2, .inl (E.2.1, n2, .inl q.2)), (h2, .inr (6, [.ref a2, .int q.1])), (h, .inr (2, [.ref qk, .ref qc, .ref qv, .ref qt, .int 14])), (qt, .inl (E.2.1, 4, .inl u_3331))] H_3334 := hP_3334
          replace hD_3334 : va_D A [(qk, .inl (E.2.1, 240, .inl z_3237.2.1)), (a2, .inl (E.2.1, n2, .inl q.2)), (h2, .inr (6, [.ref a2, .int q.1])), (h, .inr (2, [.ref qk, .ref qc, .ref qv, .ref qt, .int 14])), (qt, .inl (E.2.1, 4, .inl u_3331))] := hD_3334
          clear hP_3332 hD_3332 hS_3332
          refine lv_istore_n (lv' := [(3, .int r_3333), (5, .int (nI ((32 + 4 * i_3237) % 32))), (4, .int (nI (32 + 4 * i_3237))), (2, .int 32), (0, .ref h), (1, .ref h2)]) hx hb dX0_spreadKey_133 rfl hl_3265 (by decide) rfl (fun ls_3335 hl_3335 => ?_)
          clear hl_3265
          refine lv_goto (tgt := 148) hx hb dX0_spreadKey_134 (by decide) ?_
          refine lv_iconst (v := 0) hx hb dX0_spreadKey_148 (by decide) ?_
          refine lv_istore (lv' := [(6, .int 0), (3, .int r_3333), (5, .int (nI ((32 + 4 * i_3237) % 32))), (4, .int (nI (32 + 4 * i_3237))), (2, .int 32), (0, .ref h), (1, .ref h2)]) hx hb dX0_spreadKey_149 hl_3335 (by decide) rfl (fun ls_3336 hl_3336 => ?_)
          clear hl_3335
          refine lv_iload hx hb dX0_spreadKey_151 (lv_at hl_3336 0 rfl) ?_
          refine lv_iconst (v := 4) hx hb dX0_spreadKey_153 (by decide) ?_
          refine lv_icmp_ge (tgt := 193) hx hb dX0_spreadKey_154 (by decide) (fun c_3337 => absurd c_3337 (by decide)) (fun c_3337 => ?_)
          refine lv_aload_n hx hb dX0_spreadKey_157 rfl (lv_at hl_3336 5 rfl) ?_
          refine va_get (D := E.1) (ci := 2) (v := .ref qk) (C := RX0) (T := TX0) (N := 5) hx hb hts in_X0 hown hK hP_3334 3 rfl rfl 0 (by decide) w_1 (fun _ h9 => h9) rfl dX0_spreadKey_158 ?_
          refine lv_iload hx hb dX0_spreadKey_161 (lv_at hl_3336 3 rfl) ?_
          refine lv_iload hx hb dX0_spreadKey_163 (lv_at hl_3336 0 rfl) ?_
          refine lv_iadd hx hb dX0_spreadKey_165 ?_
          refine lv_topi (fun y_3338 ey_3338 => ?_)
          obtain rfl : y_3338 = (nI ((32 + 4 * i_3237) + 0)) := ey_3338.trans (nI_add _ _)
          refine lv_aload_n hx hb dX0_spreadKey_166 rfl (lv_at hl_3336 5 rfl) ?_
          refine va_get (D := E.1) (ci := 2) (v := .ref qk) (C := RX0) (T := TX0) (N := 5) hx hb hts in_X0 hown hK hP_3334 3 rfl rfl 0 (by decide) w_1 (fun _ h9 => h9) rfl dX0_spreadKey_167 ?_
          refine lv_iload hx hb dX0_spreadKey_170 (lv_at hl_3336 3 rfl) ?_
          refine lv_iload_n hx hb dX0_spreadKey_172 rfl (lv_at hl_3336 4 rfl) ?_
          refine lv_isub hx hb dX0_spreadKey_173 ?_
          refine lv_topi (fun y_3339 ey_3339 => ?_)
          obtain rfl : y_3339 = (nI ((32 + 4 * i_3237) - 32)) := ey_3339.trans (pk_sub (a := 32 + 4 * i_3237) (b := 32) (by omega))
          refine lv_iload hx hb dX0_spreadKey_174 (lv_at hl_3336 0 rfl) ?_
          refine lv_iadd hx hb dX0_spreadKey_176 ?_
          refine lv_topi (fun y_3340 ey_3340 => ?_)
          obtain rfl : y_3340 = (nI (((32 + 4 * i_3237) - 32) + 0)) := ey_3340.trans (nI_add _ _)
          refine g_iald (e0 := ((32 + 4 * i_3237) - 32) + 0) hx hb hK hP_3334 0 0 rfl rfl (by omega) (by omega) dX0_spreadKey_177 ?_
          refine lv_aload_n hx hb dX0_spreadKey_178 rfl (lv_at hl_3336 5 rfl) ?_
          refine va_get (D := E.1) (ci := 2) (v := .ref qt) (C := RX0) (T := TX0) (N := 5) hx hb hts in_X0 hown hK hP_3334 3 rfl rfl 3 (by decide) w_2 (fun _ h9 => h9) rfl dX0_spreadKey_179 ?_
          refine lv_iload hx hb dX0_spreadKey_182 (lv_at hl_3336 0 rfl) ?_
          refine g_iald (e0 := 0) hx hb hK hP_3334 4 0 rfl rfl (by omega) (by omega) dX0_spreadKey_184 ?_
          refine lv_ixor hx hb dX0_spreadKey_185 ?_
          refine g_iast (e0 := (32 + 4 * i_3237) + 0) hx hb hK hP_3334 hD_3334 hS_3334 0 0 rfl rfl (by omega) (by omega) dX0_spreadKey_186 (fun H_3341 locs_3341 hP_3341 hD_3341 hS_3341 => ?_)
          replace hP_3341 : va_P E.1 vwCl [(qk, .inl (E.2.1, 240, .inl (upd z_3237.2.1 ((32 + 4 * i_3237) + 0) ((z_3237.2.1 (((32 + 4 * i_3237) - 32) + 0)) ^^^ (u_3331 0))))), (a2, .inl (E.2.1, n2, .inl q.2)), (h2, .inr (6, [.ref a2, .int q.1])), (h, .inr (2, [.ref qk, .ref qc, .ref qv, .ref qt, .int 14])), (qt, .inl (E.2.1, 4, .inl u_3331))] H_3341 := hP_3341
          replace hD_3341 : va_D A [(qk, .inl (E.2.1, 240, .inl (upd z_3237.2.1 ((32 + 4 * i_3237) + 0) ((z_3237.2.1 (((32 + 4 * i_3237) - 32) + 0)) ^^^ (u_3331 0))))), (a2, .inl (E.2.1, n2, .inl q.2)), (h2, .inr (6, [.ref a2, .int q.1])), (h, .inr (2, [.ref qk, .ref qc, .ref qv, .ref qt, .int 14])), (qt, .inl (E.2.1, 4, .inl u_3331))] := hD_3341
          clear hP_3334 hD_3334 hS_3334
          refine lv_iinc (v := 1) (lv' := [(6, .int 1), (3, .int r_3333), (5, .int (nI ((32 + 4 * i_3237) % 32))), (4, .int (nI (32 + 4 * i_3237))), (2, .int 32), (0, .ref h), (1, .ref h2)]) hx hb dX0_spreadKey_187 hl_3336 (k := 0) rfl (by decide) (by decide) rfl (fun ls_3342 hl_3342 => ?_)
          clear hl_3336
          refine lv_goto (tgt := 151) hx hb dX0_spreadKey_190 (by decide) ?_
          refine lv_iload hx hb dX0_spreadKey_151 (lv_at hl_3342 0 rfl) ?_
          refine lv_iconst (v := 4) hx hb dX0_spreadKey_153 (by decide) ?_
          refine lv_icmp_ge (tgt := 193) hx hb dX0_spreadKey_154 (by decide) (fun c_3343 => absurd c_3343 (by decide)) (fun c_3343 => ?_)
          refine lv_aload_n hx hb dX0_spreadKey_157 rfl (lv_at hl_3342 5 rfl) ?_
          refine va_get (D := E.1) (ci := 2) (v := .ref qk) (C := RX0) (T := TX0) (N := 5) hx hb hts in_X0 hown hK hP_3341 3 rfl rfl 0 (by decide) w_1 (fun _ h9 => h9) rfl dX0_spreadKey_158 ?_
          refine lv_iload hx hb dX0_spreadKey_161 (lv_at hl_3342 3 rfl) ?_
          refine lv_iload hx hb dX0_spreadKey_163 (lv_at hl_3342 0 rfl) ?_
          refine lv_iadd hx hb dX0_spreadKey_165 ?_
          refine lv_topi (fun y_3344 ey_3344 => ?_)
          obtain rfl : y_3344 = (nI ((32 + 4 * i_3237) + 1)) := ey_3344.trans (nI_add _ _)
          refine lv_aload_n hx hb dX0_spreadKey_166 rfl (lv_at hl_3342 5 rfl) ?_
          refine va_get (D := E.1) (ci := 2) (v := .ref qk) (C := RX0) (T := TX0) (N := 5) hx hb hts in_X0 hown hK hP_3341 3 rfl rfl 0 (by decide) w_1 (fun _ h9 => h9) rfl dX0_spreadKey_167 ?_
          refine lv_iload hx hb dX0_spreadKey_170 (lv_at hl_3342 3 rfl) ?_
          refine lv_iload_n hx hb dX0_spreadKey_172 rfl (lv_at hl_3342 4 rfl) ?_
          refine lv_isub hx hb dX0_spreadKey_173 ?_
          refine lv_topi (fun y_3345 ey_3345 => ?_)
          obtain rfl : y_3345 = (nI ((32 + 4 * i_3237) - 32)) := ey_3345.trans (pk_sub (a := 32 + 4 * i_3237) (b := 32) (by omega))
          refine lv_iload hx hb dX0_spreadKey_174 (lv_at hl_3342 0 rfl) ?_
          refine lv_iadd hx hb dX0_spreadKey_176 ?_
          refine lv_topi (fun y_3346 ey_3346 => ?_)
          obtain rfl : y_3346 = (nI (((32 + 4 * i_3237) - 32) + 1)) := ey_3346.trans (nI_add _ _)
          refine g_iald (e0 := ((32 + 4 * i_3237) - 32) + 1) hx hb hK hP_3341 0 0 rfl rfl (by omega) (by omega) dX0_spreadKey_177 ?_
          refine lv_aload_n hx hb dX0_spreadKey_178 rfl (lv_at hl_3342 5 rfl) ?_
          refine va_get (D := E.1) (ci := 2) (v := .ref qt) (C := RX0) (T := TX0) (N := 5) hx hb hts in_X0 hown hK hP_3341 3 rfl rfl 3 (by decide) w_2 (fun _ h9 => h9) rfl dX0_spreadKey_179 ?_
          refine lv_iload hx hb dX0_spreadKey_182 (lv_at hl_3342 0 rfl) ?_
          refine g_iald (e0 := 1) hx hb hK hP_3341 4 0 rfl rfl (by omega) (by omega) dX0_spreadKey_184 ?_
          refine lv_ixor hx hb dX0_spreadKey_185 ?_
          refine lv_topi (fun v_3347 ev_3347 => ?_)
          refine g_iast (e0 := (32 + 4 * i_3237) + 1) hx hb hK hP_3341 hD_3341 hS_3341 0 0 rfl rfl (by omega) (by omega) dX0_spreadKey_186 (fun H_3348 locs_3348 hP_3348 hD_3348 hS_3348 => ?_)
          replace hP_3348 : va_P E.1 vwCl [(qk, .inl (E.2.1, 240, .inl (upd (upd z_3237.2.1 ((32 + 4 * i_3237) + 0) ((z_3237.2.1 (((32 + 4 * i_3237) - 32) + 0)) ^^^ (u_3331 0))) ((32 + 4 * i_3237) + 1) v_3347))), (a2, .inl (E.2.1, n2, .inl q.2)), (h2, .inr (6, [.ref a2, .int q.1])), (h, .inr (2, [.ref qk, .ref qc, .ref qv, .ref qt, .int 14])), (qt, .inl (E.2.1, 4, .inl u_3331))] H_3348 := hP_3348
          replace hD_3348 : va_D A [(qk, .inl (E.2.1, 240, .inl (upd (upd z_3237.2.1 ((32 + 4 * i_3237) + 0) ((z_3237.2.1 (((32 + 4 * i_3237) - 32) + 0)) ^^^ (u_3331 0))) ((32 + 4 * i_3237) + 1) v_3347))), (a2, .inl (E.2.1, n2, .inl q.2)), (h2, .inr (6, [.ref a2, .int q.1])), (h, .inr (2, [.ref qk, .ref qc, .ref qv, .ref qt, .int 14])), (qt, .inl (E.2.1, 4, .inl u_3331))] := hD_3348
          clear hP_3341 hD_3341 hS_3341
          refine lv_iinc (v := 2) (lv' := [(6, .int 2), (3, .int r_3333), (5, .int (nI ((32 + 4 * i_3237) % 32))), (4, .int (nI (32 + 4 * i_3237))), (2, .int 32), (0, .ref h), (1, .ref h2)]) hx hb dX0_spreadKey_187 hl_3342 (k := 0) rfl (by decide) (by decide) rfl (fun ls_3349 hl_3349 => ?_)
          clear hl_3342
          refine lv_goto (tgt := 151) hx hb dX0_spreadKey_190 (by decide) ?_
          refine lv_iload hx hb dX0_spreadKey_151 (lv_at hl_3349 0 rfl) ?_
          refine lv_iconst (v := 4) hx hb dX0_spreadKey_153 (by decide) ?_
          refine lv_icmp_ge (tgt := 193) hx hb dX0_spreadKey_154 (by decide) (fun c_3350 => absurd c_3350 (by decide)) (fun c_3350 => ?_)
          refine lv_aload_n hx hb dX0_spreadKey_157 rfl (lv_at hl_3349 5 rfl) ?_
          refine va_get (D := E.1) (ci := 2) (v := .ref qk) (C := RX0) (T := TX0) (N := 5) hx hb hts in_X0 hown hK hP_3348 3 rfl rfl 0 (by decide) w_1 (fun _ h9 => h9) rfl dX0_spreadKey_158 ?_
          refine lv_iload hx hb dX0_spreadKey_161 (lv_at hl_3349 3 rfl) ?_
          refine lv_iload hx hb dX0_spreadKey_163 (lv_at hl_3349 0 rfl) ?_
          refine lv_iadd hx hb dX0_spreadKey_165 ?_
          refine lv_topi (fun y_3351 ey_3351 => ?_)
          obtain rfl : y_3351 = (nI ((32 + 4 * i_3237) + 2)) := ey_3351.trans (nI_add _ _)
          refine lv_aload_n hx hb dX0_spreadKey_166 rfl (lv_at hl_3349 5 rfl) ?_
          refine va_get (D := E.1) (ci := 2) (v := .ref qk) (C := RX0) (T := TX0) (N := 5) hx hb hts in_X0 hown hK hP_3348 3 rfl rfl 0 (by decide) w_1 (fun _ h9 => h9) rfl dX0_spreadKey_167 ?_
          refine lv_iload hx hb dX0_spreadKey_170 (lv_at hl_3349 3 rfl) ?_
          refine lv_iload_n hx hb dX0_spreadKey_172 rfl (lv_at hl_3349 4 rfl) ?_
          refine lv_isub hx hb dX0_spreadKey_173 ?_
          refine lv_topi (fun y_3352 ey_3352 => ?_)
          obtain rfl : y_3352 = (nI ((32 + 4 * i_3237) - 32)) := ey_3352.trans (pk_sub (a := 32 + 4 * i_3237) (b := 32) (by omega))
          refine lv_iload hx hb dX0_spreadKey_174 (lv_at hl_3349 0 rfl) ?_
          refine lv_iadd hx hb dX0_spreadKey_176 ?_
          refine lv_topi (fun y_3353 ey_3353 => ?_)
          obtain rfl : y_3353 = (nI (((32 + 4 * i_3237) - 32) + 2)) := ey_3353.trans (nI_add _ _)
          refine g_iald (e0 := ((32 + 4 * i_3237) - 32) + 2) hx hb hK hP_3348 0 0 rfl rfl (by omega) (by omega) dX0_spreadKey_177 ?_
          refine lv_aload_n hx hb dX0_spreadKey_178 rfl (lv_at hl_3349 5 rfl) ?_
          refine va_get (D := E.1) (ci := 2) (v := .ref qt) (C := RX0) (T := TX0) (N := 5) hx hb hts in_X0 hown hK hP_3348 3 rfl rfl 3 (by decide) w_2 (fun _ h9 => h9) rfl dX0_spreadKey_179 ?_
          refine lv_iload hx hb dX0_spreadKey_182 (lv_at hl_3349 0 rfl) ?_
          refine g_iald (e0 := 2) hx hb hK hP_3348 4 0 rfl rfl (by omega) (by omega) dX0_spreadKey_184 ?_
          refine lv_ixor hx hb dX0_spreadKey_185 ?_
          refine lv_topi (fun v_3354 ev_3354 => ?_)
          refine g_iast (e0 := (32 + 4 * i_3237) + 2) hx hb hK hP_3348 hD_3348 hS_3348 0 0 rfl rfl (by omega) (by omega) dX0_spreadKey_186 (fun H_3355 locs_3355 hP_3355 hD_3355 hS_3355 => ?_)
          replace hP_3355 : va_P E.1 vwCl [(qk, .inl (E.2.1, 240, .inl (upd (upd (upd z_3237.2.1 ((32 + 4 * i_3237) + 0) ((z_3237.2.1 (((32 + 4 * i_3237) - 32) + 0)) ^^^ (u_3331 0))) ((32 + 4 * i_3237) + 1) v_3347) ((32 + 4 * i_3237) + 2) v_3354))), (a2, .inl (E.2.1, n2, .inl q.2)), (h2, .inr (6, [.ref a2, .int q.1])), (h, .inr (2, [.ref qk, .ref qc, .ref qv, .ref qt, .int 14])), (qt, .inl (E.2.1, 4, .inl u_3331))] H_3355 := hP_3355
          replace hD_3355 : va_D A [(qk, .inl (E.2.1, 240, .inl (upd (upd (upd z_3237.2.1 ((32 + 4 * i_3237) + 0) ((z_3237.2.1 (((32 + 4 * i_3237) - 32) + 0)) ^^^ (u_3331 0))) ((32 + 4 * i_3237) + 1) v_3347) ((32 + 4 * i_3237) + 2) v_3354))), (a2, .inl (E.2.1, n2, .inl q.2)), (h2, .inr (6, [.ref a2, .int q.1])), (h, .inr (2, [.ref qk, .ref qc, .ref qv, .ref qt, .int 14])), (qt, .inl (E.2.1, 4, .inl u_3331))] := hD_3355
          clear hP_3348 hD_3348 hS_3348
          refine lv_iinc (v := 3) (lv' := [(6, .int 3), (3, .int r_3333), (5, .int (nI ((32 + 4 * i_3237) % 32))), (4, .int (nI (32 + 4 * i_3237))), (2, .int 32), (0, .ref h), (1, .ref h2)]) hx hb dX0_spreadKey_187 hl_3349 (k := 0) rfl (by decide) (by decide) rfl (fun ls_3356 hl_3356 => ?_)
          clear hl_3349
          refine lv_goto (tgt := 151) hx hb dX0_spreadKey_190 (by decide) ?_
          refine lv_iload hx hb dX0_spreadKey_151 (lv_at hl_3356 0 rfl) ?_
          refine lv_iconst (v := 4) hx hb dX0_spreadKey_153 (by decide) ?_
          refine lv_icmp_ge (tgt := 193) hx hb dX0_spreadKey_154 (by decide) (fun c_3357 => absurd c_3357 (by decide)) (fun c_3357 => ?_)
          refine lv_aload_n hx hb dX0_spreadKey_157 rfl (lv_at hl_3356 5 rfl) ?_
          refine va_get (D := E.1) (ci := 2) (v := .ref qk) (C := RX0) (T := TX0) (N := 5) hx hb hts in_X0 hown hK hP_3355 3 rfl rfl 0 (by decide) w_1 (fun _ h9 => h9) rfl dX0_spreadKey_158 ?_
          refine lv_iload hx hb dX0_spreadKey_161 (lv_at hl_3356 3 rfl) ?_
          refine lv_iload hx hb dX0_spreadKey_163 (lv_at hl_3356 0 rfl) ?_
          refine lv_iadd hx hb dX0_spreadKey_165 ?_
          refine lv_topi (fun y_3358 ey_3358 => ?_)
          obtain rfl : y_3358 = (nI ((32 + 4 * i_3237) + 3)) := ey_3358.trans (nI_add _ _)
          refine lv_aload_n hx hb dX0_spreadKey_166 rfl (lv_at hl_3356 5 rfl) ?_
          refine va_get (D := E.1) (ci := 2) (v := .ref qk) (C := RX0) (T := TX0) (N := 5) hx hb hts in_X0 hown hK hP_3355 3 rfl rfl 0 (by decide) w_1 (fun _ h9 => h9) rfl dX0_spreadKey_167 ?_
          refine lv_iload hx hb dX0_spreadKey_170 (lv_at hl_3356 3 rfl) ?_
          refine lv_iload_n hx hb dX0_spreadKey_172 rfl (lv_at hl_3356 4 rfl) ?_
          refine lv_isub hx hb dX0_spreadKey_173 ?_
          refine lv_topi (fun y_3359 ey_3359 => ?_)
          obtain rfl : y_3359 = (nI ((32 + 4 * i_3237) - 32)) := ey_3359.trans (pk_sub (a := 32 + 4 * i_3237) (b := 32) (by omega))
          refine lv_iload hx hb dX0_spreadKey_174 (lv_at hl_3356 0 rfl) ?_
          refine lv_iadd hx hb dX0_spreadKey_176 ?_
          refine lv_topi (fun y_3360 ey_3360 => ?_)
          obtain rfl : y_3360 = (nI (((32 + 4 * i_3237) - 32) + 3)) := ey_3360.trans (nI_add _ _)
          refine g_iald (e0 := ((32 + 4 * i_3237) - 32) + 3) hx hb hK hP_3355 0 0 rfl rfl (by omega) (by omega) dX0_spreadKey_177 ?_
          refine lv_aload_n hx hb dX0_spreadKey_178 rfl (lv_at hl_3356 5 rfl) ?_
          refine va_get (D := E.1) (ci := 2) (v := .ref qt) (C := RX0) (T := TX0) (N := 5) hx hb hts in_X0 hown hK hP_3355 3 rfl rfl 3 (by decide) w_2 (fun _ h9 => h9) rfl dX0_spreadKey_179 ?_
          refine lv_iload hx hb dX0_spreadKey_182 (lv_at hl_3356 0 rfl) ?_
          refine g_iald (e0 := 3) hx hb hK hP_3355 4 0 rfl rfl (by omega) (by omega) dX0_spreadKey_184 ?_
          refine lv_ixor hx hb dX0_spreadKey_185 ?_
          refine lv_topi (fun v_3361 ev_3361 => ?_)
          refine g_iast (e0 := (32 + 4 * i_3237) + 3) hx hb hK hP_3355 hD_3355 hS_3355 0 0 rfl rfl (by omega) (by omega) dX0_spreadKey_186 (fun H_3362 locs_3362 hP_3362 hD_3362 hS_3362 => ?_)
          replace hP_3362 : va_P E.1 vwCl [(qk, .inl (E.2.1, 240, .inl (upd (upd (upd (upd z_3237.2.1 ((32 + 4 * i_3237) + 0) ((z_3237.2.1 (((32 + 4 * i_3237) - 32) + 0)) ^^^ (u_3331 0))) ((32 + 4 * i_3237) + 1) v_3347) ((32 + 4 * i_3237) + 2) v_3354) ((32 + 4 * i_3237) + 3) v_3361))), (a2, .inl (E.2.1, n2, .inl q.2)), (h2, .inr (6, [.ref a2, .int q.1])), (h, .inr (2, [.ref qk, .ref qc, .ref qv, .ref qt, .int 14])), (qt, .inl (E.2.1, 4, .inl u_3331))] H_3362 := hP_3362
          replace hD_3362 : va_D A [(qk, .inl (E.2.1, 240, .inl (upd (upd (upd (upd z_3237.2.1 ((32 + 4 * i_3237) + 0) ((z_3237.2.1 (((32 + 4 * i_3237) - 32) + 0)) ^^^ (u_3331 0))) ((32 + 4 * i_3237) + 1) v_3347) ((32 + 4 * i_3237) + 2) v_3354) ((32 + 4 * i_3237) + 3) v_3361))), (a2, .inl (E.2.1, n2, .inl q.2)), (h2, .inr (6, [.ref a2, .int q.1])), (h, .inr (2, [.ref qk, .ref qc, .ref qv, .ref qt, .int 14])), (qt, .inl (E.2.1, 4, .inl u_3331))] := hD_3362
          clear hP_3355 hD_3355 hS_3355
          refine lv_iinc (v := 4) (lv' := [(6, .int 4), (3, .int r_3333), (5, .int (nI ((32 + 4 * i_3237) % 32))), (4, .int (nI (32 + 4 * i_3237))), (2, .int 32), (0, .ref h), (1, .ref h2)]) hx hb dX0_spreadKey_187 hl_3356 (k := 0) rfl (by decide) (by decide) rfl (fun ls_3363 hl_3363 => ?_)
          clear hl_3356
          refine lv_goto (tgt := 151) hx hb dX0_spreadKey_190 (by decide) ?_
          refine lv_iload hx hb dX0_spreadKey_151 (lv_at hl_3363 0 rfl) ?_
          refine lv_iconst (v := 4) hx hb dX0_spreadKey_153 (by decide) ?_
          refine lv_icmp_ge (tgt := 193) hx hb dX0_spreadKey_154 (by decide) (fun c_3364 => ?_) (fun c_3364 => absurd (by decide) c_3364)
          refine lv_iinc (v := (nI ((32 + 4 * i_3237) + 4))) (lv' := [(4, .int (nI ((32 + 4 * i_3237) + 4))), (6, .int 4), (3, .int r_3333), (5, .int (nI ((32 + 4 * i_3237) % 32))), (2, .int 32), (0, .ref h), (1, .ref h2)]) hx hb dX0_spreadKey_193 hl_3363 (k := 3) rfl (nI_add _ 4) (by decide) rfl (fun ls_3365 hl_3365 => ?_)
          clear hl_3363
          refine lv_goto (tgt := 63) hx hb dX0_spreadKey_196 (by decide) ?_
          exact ih_3237 ((r_3333, (upd (upd (upd (upd z_3237.2.1 ((32 + 4 * i_3237) + 0) ((z_3237.2.1 (((32 + 4 * i_3237) - 32) + 0)) ^^^ (u_3331 0))) ((32 + 4 * i_3237) + 1) v_3347) ((32 + 4 * i_3237) + 2) v_3354) ((32 + 4 * i_3237) + 3) v_3361), u_3331) : Int32 × (Nat → Int32) × (Nat → Int32)) _ _ _ (((show B_X0_spreadKey_63_f i_3237 z_3237 = _ from ((if_pos c_3266).trans (gLet_eq hu_3331 (gLet_eq er_3333 (gLet_eq ev_3347 (gLet_eq ev_3354 (gLet_eq ev_3361 rfl))))))).symm.trans (congrArg (B_X0_spreadKey_63_f i_3237) hz_3237)).trans (itr_s _ _ _).symm) ⟨lv_sub hl_3365 [0, 2, 4, 5, 6] rfl, (hP_3362.sub [3, 0, 4, 1, 2] rfl), (hD_3362.sub [3, 0, 4, 1, 2] (by decide) rfl), hS_3362⟩
      · intro z_3366 H_3366 locs_3366 ls_3366 hz_3366 hI_3366
        obtain ⟨hl_3366, hP_3366, hD_3366, hS_3366⟩ := hI_3366
        replace hl_3366 : lv_has ls_3366 7 [(4, .int (nI (32 + 4 * 52))), (3, .int z_3366.1), (2, .int 32), (0, .ref h), (1, .ref h2)] := hl_3366
        replace hP_3366 : va_P E.1 vwCl [(h, .inr (2, [.ref qk, .ref qc, .ref qv, .ref qt, .int 14])), (qk, .inl (E.2.1, 240, .inl z_3366.2.1)), (qt, .inl (E.2.1, 4, .inl z_3366.2.2)), (a2, .inl (E.2.1, n2, .inl q.2)), (h2, .inr (6, [.ref a2, .int q.1]))] H_3366 := hP_3366
        replace hD_3366 : va_D A [(h, .inr (2, [.ref qk, .ref qc, .ref qv, .ref qt, .int 14])), (qk, .inl (E.2.1, 240, .inl z_3366.2.1)), (qt, .inl (E.2.1, 4, .inl z_3366.2.2)), (a2, .inl (E.2.1, n2, .inl q.2)), (h2, .inr (6, [.ref a2, .int q.1]))] := hD_3366
        clear hl_2845 hP_2842 hD_2842 hS_2842
        refine lv_iload hx hb dX0_spreadKey_63 (lv_at hl_3366 0 rfl) ?_
        refine lv_bipush (v := 16) hx hb dX0_spreadKey_65 (by decide) ?_
        refine lv_aload_n hx hb dX0_spreadKey_67 rfl (lv_at hl_3366 3 rfl) ?_
        refine va_get (D := E.1) (ci := 2) (v := .int 14) (C := RX0) (T := TX0) (N := 5) hx hb hts in_X0 hown hK hP_3366 0 rfl rfl 4 (by decide) w_0 (fun _ h9 => h9) rfl dX0_spreadKey_68 ?_
        refine lv_iconst (v := 1) hx hb dX0_spreadKey_71 (by decide) ?_
        refine lv_iadd hx hb dX0_spreadKey_72 ?_
        refine lv_topi (fun y_3367 ey_3367 => ?_)
        obtain rfl : y_3367 = 15 := ey_3367.trans (by decide)
        refine lv_imul hx hb dX0_spreadKey_73 ?_
        refine lv_topi (fun y_3368 ey_3368 => ?_)
        obtain rfl : y_3368 = 240 := ey_3368.trans (by decide)
        refine lv_icmp_ge (tgt := 199) hx hb dX0_spreadKey_74 (by decide) (fun c_3369 => ?_) (fun c_3369 => (by have c_3369 := (not_congr (nI_leI (a := 240) (b := 32 + 4 * 52) (by omega) (by omega))).mp c_3369; exfalso; omega))
        replace c_3369 : 240 ≤ 32 + 4 * 52 := (nI_leI (a := 240) (b := 32 + 4 * 52) (by omega) (by omega)).mp c_3369
        have hpost : ((14, z_3366.2.1, z_3366.2.2) : Int32 × (Nat → Int32) × (Nat → Int32)) = F_X0_spreadKey n2 ky la q := (show F_X0_spreadKey n2 ky la q = ((14, z_3366.2.1, z_3366.2.2) : Int32 × (Nat → Int32) × (Nat → Int32)) from (gLet_eq er_2247 ((if_neg c_2249).trans (gLet_eq hz_2842 (gLet_eq hz_3366 rfl))))).symm
        have hP9 := hP_3366.sub (ws' := [(h, .inr (2, [.ref qk, .ref qc, .ref qv, .ref qt, .int 14])), (qk, .inl (E.2.1, 240, .inl z_3366.2.1)), (qt, .inl (E.2.1, 4, .inl z_3366.2.2)), (h2, .inr (6, [.ref a2, .int q.1])), (a2, .inl (E.2.1, n2, .inl q.2))]) [0, 1, 2, 4, 3] rfl
        have hD9 := hD_3366.sub (ws' := [(h, .inr (2, [.ref qk, .ref qc, .ref qv, .ref qt, .int 14])), (qk, .inl (E.2.1, 240, .inl z_3366.2.1)), (qt, .inl (E.2.1, 4, .inl z_3366.2.2)), (h2, .inr (6, [.ref a2, .int q.1])), (a2, .inl (E.2.1, n2, .inl q.2))]) [0, 1, 2, 4, 3] (by decide) rfl
        exact W.vret hx hb hr (fun t ht hW => ⟨⟨(14, z_3366.2.1, z_3366.2.2), rfl, hpost, by rw [ht]; exact hP9, hD9⟩, hS_3366.F ht⟩) hS_3366.2.2 dX0_spreadKey_199
set_option maxHeartbeats 4000000 in
set_option maxRecDepth 100000 in
theorem k_X0_shutChain (E : gE) (l : Launch) (h h2 h3 qk qc qv qt a2 a3 : Nat) (n2 : Nat) (n3 : Nat) (rd : Int32) (ky : Nat → Int32) (cl : Nat → Int32) (mv : Nat → Int32) (la : Nat → Int32) (q : gRow) (d : gRow) (hn2 : n2 < 2147483648) (hn3 : n3 < 2147483648) (hcd : d.1.toNatClampNeg ≤ 1000) : gMv E l yX0_shutChain wsX0_shutChain ({ frames := 3, cells := 0, slots := 0, locals := 69 }) 0 0 [.ref h, .ref h2, .ref h3] [(h, .inr (2, [.ref qk, .ref qc, .ref qv, .ref qt, .int rd])), (qk, .inl (E.2.1, 240, .inl ky)), (qc, .inl (E.2.1, 16, .inl cl)), (qv, .inl (E.2.1, 16, .inl mv)), (qt, .inl (E.2.1, 4, .inl la)), (h2, .inr (6, [.ref a2, .int q.1])), (a2, .inl (E.2.1, n2, .inl q.2)), (h3, .inr (6, [.ref a3, .int d.1])), (a3, .inl (E.2.1, n3, .inl d.2))] (fun (uu : Int32 × (Nat → Int32) × (Nat → Int32) × (Nat → Int32) × (Nat → Int32) × gRow) => uu = F_X0_shutChain n2 n3 ky cl mv la q d) (fun (uu : Int32 × (Nat → Int32) × (Nat → Int32) × (Nat → Int32) × (Nat → Int32) × gRow) => [(h, .inr (2, [.ref qk, .ref qc, .ref qv, .ref qt, .int uu.1])), (qk, .inl (E.2.1, 240, .inl uu.2.1)), (qc, .inl (E.2.1, 16, .inl uu.2.2.1)), (qv, .inl (E.2.1, 16, .inl uu.2.2.2.1)), (qt, .inl (E.2.1, 4, .inl uu.2.2.2.2.1)), (h2, .inr (6, [.ref a2, .int q.1])), (a2, .inl (E.2.1, n2, .inl q.2)), (h3, .inr (6, [.ref a3, .int uu.2.2.2.2.2.1])), (a3, .inl (E.2.1, n3, .inl uu.2.2.2.2.2.2))]) := by
  intro sz
  refine Met.ofW (cc := cX0_shutChain) (maxL := 5) (ret := none) (by decide) rfl ?_
  intro p e s m args below meth c s₁ B hml hv
  obtain ⟨rfl, hsz, hP, hV, hD0⟩ := hv
  have hx := B.exec
  have hb := B.bytes
  have hr := B.returns
  have hts := atoms_spec (ws := wsX0_shutChain) B.pre
  have hown : s.vm.findClass RX0 = some m.cls := findClass_of_methodNamed B.named
  have hlocks := B.notSynchronized
  subst hsz
  have hD := hD0.self (sz := s.heap.size)
  clear hD0
  generalize hAe : va_A [(h, .inr (2, [.ref qk, .ref qc, .ref qv, .ref qt, .int rd])), (qk, .inl (E.2.1, 240, .inl ky)), (qc, .inl (E.2.1, 16, .inl cl)), (qv, .inl (E.2.1, 16, .inl mv)), (qt, .inl (E.2.1, 4, .inl la)), (h2, .inr (6, [.ref a2, .int q.1])), (a2, .inl (E.2.1, n2, .inl q.2)), (h3, .inr (6, [.ref a3, .int d.1])), (a3, .inl (E.2.1, n3, .inl d.2))] s.heap.size = A at hD hV ⊢
  have hA : ∀ q : Nat, s.heap.size ≤ q → A q := fun q h => by rw [← hAe]; exact Or.inr h
  have hS : va_S A s.heap s.heap [] := va_S.rf
  have hK := hV.1
  have hF : CallFix p m c cX0_shutChain 5 s _ wsX0_shutChain RX0 := ⟨hx, hb, hml, hown, hts⟩
  have hl := lv_entry [.ref h, .ref h2, .ref h3] (n := 5) (Nat.le_of_ble_eq_true rfl)
  rw [lg_entry_eq]
  generalize (lg_sl [.ref h, .ref h2, .ref h3] ++ List.replicate (5 - (lg_sl [.ref h, .ref h2, .ref h3]).length) Slot.unset).toArray = ls at hl ⊢
  have hl : lv_has ls 5 [(0, .ref h), (1, .ref h2), (2, .ref h3)] := hl
  have in_X0 : ∀ w ∈ wsX00, w ∈ wsX0_shutChain := by decide +kernel
  have w_0 := hts (.fieldLink RX0 13 "CryptRows$Blocks" "cells" "[I") (by decide +kernel)
  refine lv_aload_n hx hb dX0_shutChain_0 rfl (lv_at hl 0 rfl) ?_
  refine lv_aload_n hx hb dX0_shutChain_1 rfl (lv_at hl 1 rfl) ?_
  refine gVv hF hl hV hP hD hS hA [0, 1, 4, 5, 6] [2, 3, 7, 8] (wc := [(h, .inr (2, [.ref qk, .ref qc, .ref qv, .ref qt, .int rd])), (qk, .inl (E.2.1, 240, .inl ky)), (qt, .inl (E.2.1, 4, .inl la)), (h2, .inr (6, [.ref a2, .int q.1])), (a2, .inl (E.2.1, n2, .inl q.2))]) (wr := [(qc, .inl (E.2.1, 16, .inl cl)), (qv, .inl (E.2.1, 16, .inl mv)), (h3, .inr (6, [.ref a3, .int d.1])), (a3, .inl (E.2.1, n3, .inl d.2))]) rfl rfl rfl (by decide) 0 2 rfl rfl rfl (k_X0_spreadKey E l h h2 qk qc qv qt a2 n2 rd ky la q (by omega)) (cwV 1 hts gX0_shutChain_X0_spreadKey rfl rfl rfl (by decide +kernel) ⟨Nat.le_of_ble_eq_true rfl, Nat.le_of_ble_eq_true rfl⟩) rfl rfl rfl (Nat.le_of_ble_eq_true rfl) dX0_shutChain_2 ⟨Nat.le_of_ble_eq_true rfl, Nat.le_of_ble_eq_true rfl⟩ (fun u_745 H_746 locs_746 hu_745 hP_746 hD_746 hS_746 => ?_)
  replace hu_745 : u_745 = F_X0_spreadKey n2 ky la q := hu_745
  replace hP_746 : va_P E.1 vwCl [(qc, .inl (E.2.1, 16, .inl cl)), (qv, .inl (E.2.1, 16, .inl mv)), (h3, .inr (6, [.ref a3, .int d.1])), (a3, .inl (E.2.1, n3, .inl d.2)), (h, .inr (2, [.ref qk, .ref qc, .ref qv, .ref qt, .int u_745.1])), (qk, .inl (E.2.1, 240, .inl u_745.2.1)), (qt, .inl (E.2.1, 4, .inl u_745.2.2)), (h2, .inr (6, [.ref a2, .int q.1])), (a2, .inl (E.2.1, n2, .inl q.2))] H_746 := hP_746
  replace hD_746 : va_D A [(qc, .inl (E.2.1, 16, .inl cl)), (qv, .inl (E.2.1, 16, .inl mv)), (h3, .inr (6, [.ref a3, .int d.1])), (a3, .inl (E.2.1, n3, .inl d.2)), (h, .inr (2, [.ref qk, .ref qc, .ref qv, .ref qt, .int u_745.1])), (qk, .inl (E.2.1, 240, .inl u_745.2.1)), (qt, .inl (E.2.1, 4, .inl u_745.2.2)), (h2, .inr (6, [.ref a2, .int q.1])), (a2, .inl (E.2.1, n2, .inl q.2))] := hD_746
  clear hP hD hS
  refine lv_bipush (v := 16) hx hb dX0_shutChain_5 (by decide) ?_
  refine lv_istore_n (lv' := [(3, .int 16), (0, .ref h), (1, .ref h2), (2, .ref h3)]) hx hb dX0_shutChain_7 rfl hl (by decide) rfl (fun ls_747 hl_747 => ?_)
  clear hl
  refine g_up (N := ((d.1.toNatClampNeg - 16) / 16)) (B_X0_shutChain_8 n3 u_745) ((cl, mv, d) : (Nat → Int32) × (Nat → Int32) × gRow) (Inv := fun i_0 z_1021 H_0 locs_0 ls_0 => lv_has ls_0 5 [(3, .int (nI (16 + 16 * i_0))), (0, .ref h), (1, .ref h2), (2, .ref h3)] ∧ va_P E.1 vwCl [(qc, .inl (E.2.1, 16, .inl z_1021.1)), (qv, .inl (E.2.1, 16, .inl z_1021.2.1)), (h3, .inr (6, [.ref a3, .int z_1021.2.2.1])), (a3, .inl (E.2.1, n3, .inl z_1021.2.2.2)), (h, .inr (2, [.ref qk, .ref qc, .ref qv, .ref qt, .int u_745.1])), (qk, .inl (E.2.1, 240, .inl u_745.2.1)), (qt, .inl (E.2.1, 4, .inl u_745.2.2)), (h2, .inr (6, [.ref a2, .int q.1])), (a2, .inl (E.2.1, n2, .inl q.2))] H_0 ∧ va_D A [(qc, .inl (E.2.1, 16, .inl z_1021.1)), (qv, .inl (E.2.1, 16, .inl z_1021.2.1)), (h3, .inr (6, [.ref a3, .int z_1021.2.2.1])), (a3, .inl (E.2.1, n3, .inl z_1021.2.2.2)), (h, .inr (2, [.ref qk, .ref qc, .ref qv, .ref qt, .int u_745.1])), (qk, .inl (E.2.1, 240, .inl u_745.2.1)), (qt, .inl (E.2.1, 4, .inl u_745.2.2)), (h2, .inr (6, [.ref a2, .int q.1])), (a2, .inl (E.2.1, n2, .inl q.2))] ∧ va_S A s.heap H_0 locs_0) (G := fun H_0 locs_0 ls_0 => W _ _ _ _ _ _ _ _ _ _ H_0 locs_0 _ _ _ (F0 _ 8 ls_0 [])) ?_ ?_ ⟨lv_sub hl_747 [0, 1, 2, 3] rfl, hP_746, hD_746, hS_746⟩
  · intro j_1022 i_1022 z_1022 H_1022 locs_1022 ls_1022 hij_1022 hz_1022 hI_1022 ih_1022
    obtain ⟨hl_1022, hP_1022, hD_1022, hS_1022⟩ := hI_1022
    replace hl_1022 : lv_has ls_1022 5 [(3, .int (nI (16 + 16 * i_1022))), (0, .ref h), (1, .ref h2), (2, .ref h3)] := hl_1022
    replace hP_1022 : va_P E.1 vwCl [(qc, .inl (E.2.1, 16, .inl z_1022.1)), (qv, .inl (E.2.1, 16, .inl z_1022.2.1)), (h3, .inr (6, [.ref a3, .int z_1022.2.2.1])), (a3, .inl (E.2.1, n3, .inl z_1022.2.2.2)), (h, .inr (2, [.ref qk, .ref qc, .ref qv, .ref qt, .int u_745.1])), (qk, .inl (E.2.1, 240, .inl u_745.2.1)), (qt, .inl (E.2.1, 4, .inl u_745.2.2)), (h2, .inr (6, [.ref a2, .int q.1])), (a2, .inl (E.2.1, n2, .inl q.2))] H_1022 := hP_1022
    replace hD_1022 : va_D A [(qc, .inl (E.2.1, 16, .inl z_1022.1)), (qv, .inl (E.2.1, 16, .inl z_1022.2.1)), (h3, .inr (6, [.ref a3, .int z_1022.2.2.1])), (a3, .inl (E.2.1, n3, .inl z_1022.2.2.2)), (h, .inr (2, [.ref qk, .ref qc, .ref qv, .ref qt, .int u_745.1])), (qk, .inl (E.2.1, 240, .inl u_745.2.1)), (qt, .inl (E.2.1, 4, .inl u_745.2.2)), (h2, .inr (6, [.ref a2, .int q.1])), (a2, .inl (E.2.1, n2, .inl q.2))] := hD_1022
    clear hl_747 hP_746 hD_746 hS_746
    refine lv_iload_n hx hb dX0_shutChain_8 rfl (lv_at hl_1022 0 rfl) ?_
    refine lv_bipush (v := 16) hx hb dX0_shutChain_9 (by decide) ?_
    refine lv_iadd hx hb dX0_shutChain_11 ?_
    refine lv_topi (fun y_1023 ey_1023 => ?_)
    obtain rfl : y_1023 = (nI ((16 + 16 * i_1022) + 16)) := ey_1023.trans (nI_add _ _)
    refine lv_aload_n hx hb dX0_shutChain_12 rfl (lv_at hl_1022 3 rfl) ?_
    refine gVi hF hl_1022 hV hP_1022 hD_1022 hS_1022 hA [2] [0, 1, 3, 4, 5, 6, 7, 8] (wc := [(h3, .inr (6, [.ref a3, .int z_1022.2.2.1]))]) (wr := [(qc, .inl (E.2.1, 16, .inl z_1022.1)), (qv, .inl (E.2.1, 16, .inl z_1022.2.1)), (a3, .inl (E.2.1, n3, .inl z_1022.2.2.2)), (h, .inr (2, [.ref qk, .ref qc, .ref qv, .ref qt, .int u_745.1])), (qk, .inl (E.2.1, 240, .inl u_745.2.1)), (qt, .inl (E.2.1, 4, .inl u_745.2.2)), (h2, .inr (6, [.ref a2, .int q.1])), (a2, .inl (E.2.1, n2, .inl q.2))]) rfl rfl rfl (by decide) 0 6 rfl rfl rfl (k_X5_count E l h3 a3 z_1022.2.2) (cwV 0 hts gX0_shutChain_X5_count rfl rfl rfl (by decide +kernel) ⟨Nat.le_of_ble_eq_true rfl, Nat.le_of_ble_eq_true rfl⟩) rfl rfl rfl (Nat.le_of_ble_eq_true rfl) dX0_shutChain_13 ⟨Nat.le_of_ble_eq_true rfl, Nat.le_of_ble_eq_true rfl⟩ (fun r_1024 _ H_1025 locs_1025 hu_1024 hP_1025 hD_1025 hS_1025 => ?_)
    have er_1024 : r_1024 = F_X5_count z_1022.2.2 := hu_1024
    clear hu_1024
    replace hP_1025 : va_P E.1 vwCl [(qc, .inl (E.2.1, 16, .inl z_1022.1)), (qv, .inl (E.2.1, 16, .inl z_1022.2.1)), (a3, .inl (E.2.1, n3, .inl z_1022.2.2.2)), (h, .inr (2, [.ref qk, .ref qc, .ref qv, .ref qt, .int u_745.1])), (qk, .inl (E.2.1, 240, .inl u_745.2.1)), (qt, .inl (E.2.1, 4, .inl u_745.2.2)), (h2, .inr (6, [.ref a2, .int q.1])), (a2, .inl (E.2.1, n2, .inl q.2)), (h3, .inr (6, [.ref a3, .int z_1022.2.2.1]))] H_1025 := hP_1025
    replace hD_1025 : va_D A [(qc, .inl (E.2.1, 16, .inl z_1022.1)), (qv, .inl (E.2.1, 16, .inl z_1022.2.1)), (a3, .inl (E.2.1, n3, .inl z_1022.2.2.2)), (h, .inr (2, [.ref qk, .ref qc, .ref qv, .ref qt, .int u_745.1])), (qk, .inl (E.2.1, 240, .inl u_745.2.1)), (qt, .inl (E.2.1, 4, .inl u_745.2.2)), (h2, .inr (6, [.ref a2, .int q.1])), (a2, .inl (E.2.1, n2, .inl q.2)), (h3, .inr (6, [.ref a3, .int z_1022.2.2.1]))] := hD_1025
    clear hP_1022 hD_1022 hS_1022
    refine lv_icmp_gt (tgt := 103) hx hb dX0_shutChain_16 (by decide) (fun c_1026 => (by have c_1026 := (g_rlt (by omega) (by omega)).mp c_1026; exfalso; (have q9 : r_1024 = d.1 := (by rw [er_1024, hz_1022]; exact L_shutc_cnt _ _)); rw [q9] at c_1026; omega)) (fun c_1026 => ?_)
    replace c_1026 : ¬ r_1024.toNatClampNeg < (16 + 16 * i_1022) + 16 := (not_congr (g_rlt (by omega) (by omega))).mp c_1026
    refine lv_iconst (v := 0) hx hb dX0_shutChain_19 (by decide) ?_
    refine lv_istore (lv' := [(4, .int 0), (3, .int (nI (16 + 16 * i_1022))), (0, .ref h), (1, .ref h2), (2, .ref h3)]) hx hb dX0_shutChain_20 hl_1022 (by decide) rfl (fun ls_1027 hl_1027 => ?_)
    clear hl_1022
    refine g_up (N := 16) (B_X0_shutChain_22 n3 z_1022 i_1022) (z_1022.1 : Nat → Int32) (Inv := fun i_0 z_1064 H_0 locs_0 ls_0 => lv_has ls_0 5 [(4, .int (nI i_0)), (3, .int (nI (16 + 16 * i_1022))), (0, .ref h), (1, .ref h2), (2, .ref h3)] ∧ va_P E.1 vwCl [(qc, .inl (E.2.1, 16, .inl z_1064)), (qv, .inl (E.2.1, 16, .inl z_1022.2.1)), (a3, .inl (E.2.1, n3, .inl z_1022.2.2.2)), (h, .inr (2, [.ref qk, .ref qc, .ref qv, .ref qt, .int u_745.1])), (qk, .inl (E.2.1, 240, .inl u_745.2.1)), (qt, .inl (E.2.1, 4, .inl u_745.2.2)), (h2, .inr (6, [.ref a2, .int q.1])), (a2, .inl (E.2.1, n2, .inl q.2)), (h3, .inr (6, [.ref a3, .int z_1022.2.2.1]))] H_0 ∧ va_D A [(qc, .inl (E.2.1, 16, .inl z_1064)), (qv, .inl (E.2.1, 16, .inl z_1022.2.1)), (a3, .inl (E.2.1, n3, .inl z_1022.2.2.2)), (h, .inr (2, [.ref qk, .ref qc, .ref qv, .ref qt, .int u_745.1])), (qk, .inl (E.2.1, 240, .inl u_745.2.1)), (qt, .inl (E.2.1, 4, .inl u_745.2.2)), (h2, .inr (6, [.ref a2, .int q.1])), (a2, .inl (E.2.1, n2, .inl q.2)), (h3, .inr (6, [.ref a3, .int z_1022.2.2.1]))] ∧ va_S A s.heap H_0 locs_0) (G := fun H_0 locs_0 ls_0 => W _ _ _ _ _ _ _ _ _ _ H_0 locs_0 _ _ _ (F0 _ 22 ls_0 [])) ?_ ?_ ⟨lv_sub hl_1027 [0, 1, 2, 3, 4] rfl, hP_1025, hD_1025, hS_1025⟩
    · intro j_1065 i_1065 z_1065 H_1065 locs_1065 ls_1065 hij_1065 hz_1065 hI_1065 ih_1065
      obtain ⟨hl_1065, hP_1065, hD_1065, hS_1065⟩ := hI_1065
      replace hl_1065 : lv_has ls_1065 5 [(4, .int (nI i_1065)), (3, .int (nI (16 + 16 * i_1022))), (0, .ref h), (1, .ref h2), (2, .ref h3)] := hl_1065
      replace hP_1065 : va_P E.1 vwCl [(qc, .inl (E.2.1, 16, .inl z_1065)), (qv, .inl (E.2.1, 16, .inl z_1022.2.1)), (a3, .inl (E.2.1, n3, .inl z_1022.2.2.2)), (h, .inr (2, [.ref qk, .ref qc, .ref qv, .ref qt, .int u_745.1])), (qk, .inl (E.2.1, 240, .inl u_745.2.1)), (qt, .inl (E.2.1, 4, .inl u_745.2.2)), (h2, .inr (6, [.ref a2, .int q.1])), (a2, .inl (E.2.1, n2, .inl q.2)), (h3, .inr (6, [.ref a3, .int z_1022.2.2.1]))] H_1065 := hP_1065
      replace hD_1065 : va_D A [(qc, .inl (E.2.1, 16, .inl z_1065)), (qv, .inl (E.2.1, 16, .inl z_1022.2.1)), (a3, .inl (E.2.1, n3, .inl z_1022.2.2.2)), (h, .inr (2, [.ref qk, .ref qc, .ref qv, .ref qt, .int u_745.1])), (qk, .inl (E.2.1, 240, .inl u_745.2.1)), (qt, .inl (E.2.1, 4, .inl u_745.2.2)), (h2, .inr (6, [.ref a2, .int q.1])), (a2, .inl (E.2.1, n2, .inl q.2)), (h3, .inr (6, [.ref a3, .int z_1022.2.2.1]))] := hD_1065
      clear hl_1027 hP_1025 hD_1025 hS_1025
      refine lv_iload hx hb dX0_shutChain_22 (lv_at hl_1065 0 rfl) ?_
      refine lv_bipush (v := 16) hx hb dX0_shutChain_24 (by decide) ?_
      refine lv_icmp_ge (tgt := 62) hx hb dX0_shutChain_26 (by decide) (fun c_1066 => (by have c_1066 := (nI_leI (a := 16) (b := i_1065) (by omega) (by omega)).mp c_1066; exfalso; omega)) (fun c_1066 => ?_)
      replace c_1066 : ¬ 16 ≤ i_1065 := (not_congr (nI_leI (a := 16) (b := i_1065) (by omega) (by omega))).mp c_1066
      refine lv_aload_n hx hb dX0_shutChain_29 rfl (lv_at hl_1065 2 rfl) ?_
      refine va_get (D := E.1) (ci := 2) (v := .ref qc) (C := RX0) (T := TX0) (N := 5) hx hb hts in_X0 hown hK hP_1065 3 rfl rfl 1 (by decide) w_0 (fun _ h9 => h9) rfl dX0_shutChain_30 ?_
      refine lv_iload hx hb dX0_shutChain_33 (lv_at hl_1065 0 rfl) ?_
      refine lv_aload_n hx hb dX0_shutChain_35 rfl (lv_at hl_1065 4 rfl) ?_
      refine lv_iload_n hx hb dX0_shutChain_36 rfl (lv_at hl_1065 1 rfl) ?_
      refine lv_iload hx hb dX0_shutChain_37 (lv_at hl_1065 0 rfl) ?_
      refine lv_iadd hx hb dX0_shutChain_39 ?_
      refine lv_topi (fun y_1067 ey_1067 => ?_)
      obtain rfl : y_1067 = (nI ((16 + 16 * i_1022) + i_1065)) := ey_1067.trans (nI_add _ _)
      refine gVi hF hl_1065 hV hP_1065 hD_1065 hS_1065 hA [8, 2] [0, 1, 3, 4, 5, 6, 7] (wc := [(h3, .inr (6, [.ref a3, .int z_1022.2.2.1])), (a3, .inl (E.2.1, n3, .inl z_1022.2.2.2))]) (wr := [(qc, .inl (E.2.1, 16, .inl z_1065)), (qv, .inl (E.2.1, 16, .inl z_1022.2.1)), (h, .inr (2, [.ref qk, .ref qc, .ref qv, .ref qt, .int u_745.1])), (qk, .inl (E.2.1, 240, .inl u_745.2.1)), (qt, .inl (E.2.1, 4, .inl u_745.2.2)), (h2, .inr (6, [.ref a2, .int q.1])), (a2, .inl (E.2.1, n2, .inl q.2))]) rfl rfl rfl (by decide) 0 6 rfl rfl rfl (k_X5_at E l h3 a3 n3 z_1022.2.2 (nI ((16 + 16 * i_1022) + i_1065)) (by omega)) (cwV 1 hts gX0_shutChain_X5_at rfl rfl rfl (by decide +kernel) ⟨Nat.le_of_ble_eq_true rfl, Nat.le_of_ble_eq_true rfl⟩) rfl rfl rfl (Nat.le_of_ble_eq_true rfl) dX0_shutChain_40 ⟨Nat.le_of_ble_eq_true rfl, Nat.le_of_ble_eq_true rfl⟩ (fun r_1068 _ H_1069 locs_1069 hu_1068 hP_1069 hD_1069 hS_1069 => ?_)
      have er_1068 : r_1068 = F_X5_at n3 z_1022.2.2 (nI ((16 + 16 * i_1022) + i_1065)) := hu_1068
      clear hu_1068
      replace hP_1069 : va_P E.1 vwCl [(qc, .inl (E.2.1, 16, .inl z_1065)), (qv, .inl (E.2.1, 16, .inl z_1022.2.1)), (h, .inr (2, [.ref qk, .ref qc, .ref qv, .ref qt, .int u_745.1])), (qk, .inl (E.2.1, 240, .inl u_745.2.1)), (qt, .inl (E.2.1, 4, .inl u_745.2.2)), (h2, .inr (6, [.ref a2, .int q.1])), (a2, .inl (E.2.1, n2, .inl q.2)), (h3, .inr (6, [.ref a3, .int z_1022.2.2.1])), (a3, .inl (E.2.1, n3, .inl z_1022.2.2.2))] H_1069 := hP_1069
      replace hD_1069 : va_D A [(qc, .inl (E.2.1, 16, .inl z_1065)), (qv, .inl (E.2.1, 16, .inl z_1022.2.1)), (h, .inr (2, [.ref qk, .ref qc, .ref qv, .ref qt, .int u_745.1])), (qk, .inl (E.2.1, 240, .inl u_745.2.1)), (qt, .inl (E.2.1, 4, .inl u_745.2.2)), (h2, .inr (6, [.ref a2, .int q.1])), (a2, .inl (E.2.1, n2, .inl q.2)), (h3, .inr (6, [.ref a3, .int z_1022.2.2.1])), (a3, .inl (E.2.1, n3, .inl z_1022.2.2.2))] := hD_1069
      clear hP_1065 hD_1065 hS_1065
      refine lv_aload_n hx hb dX0_shutChain_43 rfl (lv_at hl_1065 4 rfl) ?_
      refine lv_iload_n hx hb dX0_shutChain_44 rfl (lv_at hl_1065 1 rfl) ?_
      refine lv_bipush (v := 16) hx hb dX0_shutChain_45 (by decide) ?_
      refine lv_isub hx hb dX0_shutChain_47 ?_
      refine lv_topi (fun y_1070 ey_1070 => ?_)
      obtain rfl : y_1070 = (nI ((16 + 16 * i_1022) - 16)) := ey_1070.trans (pk_sub (a := 16 + 16 * i_1022) (b := 16) (by omega))
      refine lv_iload hx hb dX0_shutChain_48 (lv_at hl_1065 0 rfl) ?_
      refine lv_iadd hx hb dX0_shutChain_50 ?_
      refine lv_topi (fun y_1071 ey_1071 => ?_)
      obtain rfl : y_1071 = (nI (((16 + 16 * i_1022) - 16) + i_1065)) := ey_1071.trans (nI_add _ _)
      refine gVi hF hl_1065 hV hP_1069 hD_1069 hS_1069 hA [7, 8] [0, 1, 2, 3, 4, 5, 6] (wc := [(h3, .inr (6, [.ref a3, .int z_1022.2.2.1])), (a3, .inl (E.2.1, n3, .inl z_1022.2.2.2))]) (wr := [(qc, .inl (E.2.1, 16, .inl z_1065)), (qv, .inl (E.2.1, 16, .inl z_1022.2.1)), (h, .inr (2, [.ref qk, .ref qc, .ref qv, .ref qt, .int u_745.1])), (qk, .inl (E.2.1, 240, .inl u_745.2.1)), (qt, .inl (E.2.1, 4, .inl u_745.2.2)), (h2, .inr (6, [.ref a2, .int q.1])), (a2, .inl (E.2.1, n2, .inl q.2))]) rfl rfl rfl (by decide) 0 6 rfl rfl rfl (k_X5_at E l h3 a3 n3 z_1022.2.2 (nI (((16 + 16 * i_1022) - 16) + i_1065)) (by omega)) (cwV 1 hts gX0_shutChain_X5_at rfl rfl rfl (by decide +kernel) ⟨Nat.le_of_ble_eq_true rfl, Nat.le_of_ble_eq_true rfl⟩) rfl rfl rfl (Nat.le_of_ble_eq_true rfl) dX0_shutChain_51 ⟨Nat.le_of_ble_eq_true rfl, Nat.le_of_ble_eq_true rfl⟩ (fun r_1072 _ H_1073 locs_1073 hu_1072 hP_1073 hD_1073 hS_1073 => ?_)
      have er_1072 : r_1072 = F_X5_at n3 z_1022.2.2 (nI (((16 + 16 * i_1022) - 16) + i_1065)) := hu_1072
      clear hu_1072
      replace hP_1073 : va_P E.1 vwCl [(qc, .inl (E.2.1, 16, .inl z_1065)), (qv, .inl (E.2.1, 16, .inl z_1022.2.1)), (h, .inr (2, [.ref qk, .ref qc, .ref qv, .ref qt, .int u_745.1])), (qk, .inl (E.2.1, 240, .inl u_745.2.1)), (qt, .inl (E.2.1, 4, .inl u_745.2.2)), (h2, .inr (6, [.ref a2, .int q.1])), (a2, .inl (E.2.1, n2, .inl q.2)), (h3, .inr (6, [.ref a3, .int z_1022.2.2.1])), (a3, .inl (E.2.1, n3, .inl z_1022.2.2.2))] H_1073 := hP_1073
      replace hD_1073 : va_D A [(qc, .inl (E.2.1, 16, .inl z_1065)), (qv, .inl (E.2.1, 16, .inl z_1022.2.1)), (h, .inr (2, [.ref qk, .ref qc, .ref qv, .ref qt, .int u_745.1])), (qk, .inl (E.2.1, 240, .inl u_745.2.1)), (qt, .inl (E.2.1, 4, .inl u_745.2.2)), (h2, .inr (6, [.ref a2, .int q.1])), (a2, .inl (E.2.1, n2, .inl q.2)), (h3, .inr (6, [.ref a3, .int z_1022.2.2.1])), (a3, .inl (E.2.1, n3, .inl z_1022.2.2.2))] := hD_1073
      clear hP_1069 hD_1069 hS_1069
      refine lv_ixor hx hb dX0_shutChain_54 ?_
      refine g_iast (e0 := i_1065) hx hb hK hP_1073 hD_1073 hS_1073 0 0 rfl rfl (by omega) (by omega) dX0_shutChain_55 (fun H_1074 locs_1074 hP_1074 hD_1074 hS_1074 => ?_)
      replace hP_1074 : va_P E.1 vwCl [(qc, .inl (E.2.1, 16, .inl (upd z_1065 i_1065 (r_1068 ^^^ r_1072)))), (qv, .inl (E.2.1, 16, .inl z_1022.2.1)), (h, .inr (2, [.ref qk, .ref qc, .ref qv, .ref qt, .int u_745.1])), (qk, .inl (E.2.1, 240, .inl u_745.2.1)), (qt, .inl (E.2.1, 4, .inl u_745.2.2)), (h2, .inr (6, [.ref a2, .int q.1])), (a2, .inl (E.2.1, n2, .inl q.2)), (h3, .inr (6, [.ref a3, .int z_1022.2.2.1])), (a3, .inl (E.2.1, n3, .inl z_1022.2.2.2))] H_1074 := hP_1074
      replace hD_1074 : va_D A [(qc, .inl (E.2.1, 16, .inl (upd z_1065 i_1065 (r_1068 ^^^ r_1072)))), (qv, .inl (E.2.1, 16, .inl z_1022.2.1)), (h, .inr (2, [.ref qk, .ref qc, .ref qv, .ref qt, .int u_745.1])), (qk, .inl (E.2.1, 240, .inl u_745.2.1)), (qt, .inl (E.2.1, 4, .inl u_745.2.2)), (h2, .inr (6, [.ref a2, .int q.1])), (a2, .inl (E.2.1, n2, .inl q.2)), (h3, .inr (6, [.ref a3, .int z_1022.2.2.1])), (a3, .inl (E.2.1, n3, .inl z_1022.2.2.2))] := hD_1074
      clear hP_1073 hD_1073 hS_1073
      refine lv_iinc (v := (nI (i_1065 + 1))) (lv' := [(4, .int (nI (i_1065 + 1))), (3, .int (nI (16 + 16 * i_1022))), (0, .ref h), (1, .ref h2), (2, .ref h3)]) hx hb dX0_shutChain_56 hl_1065 (k := 0) rfl (nI_add _ 1) (by decide) rfl (fun ls_1075 hl_1075 => ?_)
      clear hl_1065
      refine lv_goto (tgt := 22) hx hb dX0_shutChain_59 (by decide) ?_
      exact ih_1065 ((upd z_1065 i_1065 (r_1068 ^^^ r_1072)) : Nat → Int32) _ _ _ (((show (B_X0_shutChain_22 n3 z_1022 i_1022) i_1065 z_1065 = _ from (gLet_eq er_1068 (gLet_eq er_1072 rfl))).symm.trans (congrArg ((B_X0_shutChain_22 n3 z_1022 i_1022) i_1065) hz_1065)).trans (itr_s _ _ _).symm) ⟨lv_sub hl_1075 [0, 1, 2, 3, 4] rfl, (hP_1074.sub [0, 1, 8, 2, 3, 4, 5, 6, 7] rfl), (hD_1074.sub [0, 1, 8, 2, 3, 4, 5, 6, 7] (by decide) rfl), hS_1074⟩
    · intro z_1076 H_1076 locs_1076 ls_1076 hz_1076 hI_1076
      obtain ⟨hl_1076, hP_1076, hD_1076, hS_1076⟩ := hI_1076
      replace hl_1076 : lv_has ls_1076 5 [(4, .int (nI 16)), (3, .int (nI (16 + 16 * i_1022))), (0, .ref h), (1, .ref h2), (2, .ref h3)] := hl_1076
      replace hP_1076 : va_P E.1 vwCl [(qc, .inl (E.2.1, 16, .inl z_1076)), (qv, .inl (E.2.1, 16, .inl z_1022.2.1)), (a3, .inl (E.2.1, n3, .inl z_1022.2.2.2)), (h, .inr (2, [.ref qk, .ref qc, .ref qv, .ref qt, .int u_745.1])), (qk, .inl (E.2.1, 240, .inl u_745.2.1)), (qt, .inl (E.2.1, 4, .inl u_745.2.2)), (h2, .inr (6, [.ref a2, .int q.1])), (a2, .inl (E.2.1, n2, .inl q.2)), (h3, .inr (6, [.ref a3, .int z_1022.2.2.1]))] H_1076 := hP_1076
      replace hD_1076 : va_D A [(qc, .inl (E.2.1, 16, .inl z_1076)), (qv, .inl (E.2.1, 16, .inl z_1022.2.1)), (a3, .inl (E.2.1, n3, .inl z_1022.2.2.2)), (h, .inr (2, [.ref qk, .ref qc, .ref qv, .ref qt, .int u_745.1])), (qk, .inl (E.2.1, 240, .inl u_745.2.1)), (qt, .inl (E.2.1, 4, .inl u_745.2.2)), (h2, .inr (6, [.ref a2, .int q.1])), (a2, .inl (E.2.1, n2, .inl q.2)), (h3, .inr (6, [.ref a3, .int z_1022.2.2.1]))] := hD_1076
      clear hl_1027 hP_1025 hD_1025 hS_1025
      refine lv_iload hx hb dX0_shutChain_22 (lv_at hl_1076 0 rfl) ?_
      refine lv_bipush (v := 16) hx hb dX0_shutChain_24 (by decide) ?_
      refine lv_icmp_ge (tgt := 62) hx hb dX0_shutChain_26 (by decide) (fun c_1077 => ?_) (fun c_1077 => (by have c_1077 := (not_congr (nI_leI (a := 16) (b := 16) (by omega) (by omega))).mp c_1077; exfalso; omega))
      replace c_1077 : 16 ≤ 16 := (nI_leI (a := 16) (b := 16) (by omega) (by omega)).mp c_1077
      refine lv_aload_n hx hb dX0_shutChain_62 rfl (lv_at hl_1076 2 rfl) ?_
      refine gVv hF hl_1076 hV hP_1076 hD_1076 hS_1076 hA [3, 4, 0, 1] [2, 5, 6, 7, 8] (wc := [(h, .inr (2, [.ref qk, .ref qc, .ref qv, .ref qt, .int u_745.1])), (qk, .inl (E.2.1, 240, .inl u_745.2.1)), (qc, .inl (E.2.1, 16, .inl z_1076)), (qv, .inl (E.2.1, 16, .inl z_1022.2.1))]) (wr := [(a3, .inl (E.2.1, n3, .inl z_1022.2.2.2)), (qt, .inl (E.2.1, 4, .inl u_745.2.2)), (h2, .inr (6, [.ref a2, .int q.1])), (a2, .inl (E.2.1, n2, .inl q.2)), (h3, .inr (6, [.ref a3, .int z_1022.2.2.1]))]) rfl rfl rfl (by decide) 0 2 rfl rfl rfl (k_X0_shutBlock E l h qk qc qv qt u_745.1 u_745.2.1 z_1076 z_1022.2.1 (by rw [hu_745]; exact L_spread_le _ _ _ _)) (cwV 0 hts gX0_shutChain_X0_shutBlock rfl rfl rfl (by decide +kernel) ⟨Nat.le_of_ble_eq_true rfl, Nat.le_of_ble_eq_true rfl⟩) rfl rfl rfl (Nat.le_of_ble_eq_true rfl) dX0_shutChain_63 ⟨Nat.le_of_ble_eq_true rfl, Nat.le_of_ble_eq_true rfl⟩ (fun u_1078 H_1079 locs_1079 hu_1078 hP_1079 hD_1079 hS_1079 => ?_)
      replace hu_1078 : u_1078 = F_X0_shutBlock u_745.1 u_745.2.1 z_1076 z_1022.2.1 := hu_1078
      replace hP_1079 : va_P E.1 vwCl [(a3, .inl (E.2.1, n3, .inl z_1022.2.2.2)), (qt, .inl (E.2.1, 4, .inl u_745.2.2)), (h2, .inr (6, [.ref a2, .int q.1])), (a2, .inl (E.2.1, n2, .inl q.2)), (h3, .inr (6, [.ref a3, .int z_1022.2.2.1])), (h, .inr (2, [.ref qk, .ref qc, .ref qv, .ref qt, .int u_745.1])), (qk, .inl (E.2.1, 240, .inl u_745.2.1)), (qc, .inl (E.2.1, 16, .inl u_1078.1)), (qv, .inl (E.2.1, 16, .inl u_1078.2))] H_1079 := hP_1079
      replace hD_1079 : va_D A [(a3, .inl (E.2.1, n3, .inl z_1022.2.2.2)), (qt, .inl (E.2.1, 4, .inl u_745.2.2)), (h2, .inr (6, [.ref a2, .int q.1])), (a2, .inl (E.2.1, n2, .inl q.2)), (h3, .inr (6, [.ref a3, .int z_1022.2.2.1])), (h, .inr (2, [.ref qk, .ref qc, .ref qv, .ref qt, .int u_745.1])), (qk, .inl (E.2.1, 240, .inl u_745.2.1)), (qc, .inl (E.2.1, 16, .inl u_1078.1)), (qv, .inl (E.2.1, 16, .inl u_1078.2))] := hD_1079
      clear hP_1076 hD_1076 hS_1076
      refine lv_iconst (v := 0) hx hb dX0_shutChain_66 (by decide) ?_
      refine lv_istore (lv' := [(4, .int 0), (3, .int (nI (16 + 16 * i_1022))), (0, .ref h), (1, .ref h2), (2, .ref h3)]) hx hb dX0_shutChain_67 hl_1076 (by decide) rfl (fun ls_1080 hl_1080 => ?_)
      clear hl_1076
      refine g_up (N := 16) (B_X0_shutChain_69 n3 i_1022 u_1078) (z_1022.2.2 : gRow) (Inv := fun i_0 z_1102 H_0 locs_0 ls_0 => lv_has ls_0 5 [(4, .int (nI i_0)), (3, .int (nI (16 + 16 * i_1022))), (0, .ref h), (1, .ref h2), (2, .ref h3)] ∧ va_P E.1 vwCl [(a3, .inl (E.2.1, n3, .inl z_1102.2)), (qt, .inl (E.2.1, 4, .inl u_745.2.2)), (h2, .inr (6, [.ref a2, .int q.1])), (a2, .inl (E.2.1, n2, .inl q.2)), (h3, .inr (6, [.ref a3, .int z_1102.1])), (h, .inr (2, [.ref qk, .ref qc, .ref qv, .ref qt, .int u_745.1])), (qk, .inl (E.2.1, 240, .inl u_745.2.1)), (qc, .inl (E.2.1, 16, .inl u_1078.1)), (qv, .inl (E.2.1, 16, .inl u_1078.2))] H_0 ∧ va_D A [(a3, .inl (E.2.1, n3, .inl z_1102.2)), (qt, .inl (E.2.1, 4, .inl u_745.2.2)), (h2, .inr (6, [.ref a2, .int q.1])), (a2, .inl (E.2.1, n2, .inl q.2)), (h3, .inr (6, [.ref a3, .int z_1102.1])), (h, .inr (2, [.ref qk, .ref qc, .ref qv, .ref qt, .int u_745.1])), (qk, .inl (E.2.1, 240, .inl u_745.2.1)), (qc, .inl (E.2.1, 16, .inl u_1078.1)), (qv, .inl (E.2.1, 16, .inl u_1078.2))] ∧ va_S A s.heap H_0 locs_0) (G := fun H_0 locs_0 ls_0 => W _ _ _ _ _ _ _ _ _ _ H_0 locs_0 _ _ _ (F0 _ 69 ls_0 [])) ?_ ?_ ⟨lv_sub hl_1080 [0, 1, 2, 3, 4] rfl, hP_1079, hD_1079, hS_1079⟩
      · intro j_1103 i_1103 z_1103 H_1103 locs_1103 ls_1103 hij_1103 hz_1103 hI_1103 ih_1103
        obtain ⟨hl_1103, hP_1103, hD_1103, hS_1103⟩ := hI_1103
        replace hl_1103 : lv_has ls_1103 5 [(4, .int (nI i_1103)), (3, .int (nI (16 + 16 * i_1022))), (0, .ref h), (1, .ref h2), (2, .ref h3)] := hl_1103
        replace hP_1103 : va_P E.1 vwCl [(a3, .inl (E.2.1, n3, .inl z_1103.2)), (qt, .inl (E.2.1, 4, .inl u_745.2.2)), (h2, .inr (6, [.ref a2, .int q.1])), (a2, .inl (E.2.1, n2, .inl q.2)), (h3, .inr (6, [.ref a3, .int z_1103.1])), (h, .inr (2, [.ref qk, .ref qc, .ref qv, .ref qt, .int u_745.1])), (qk, .inl (E.2.1, 240, .inl u_745.2.1)), (qc, .inl (E.2.1, 16, .inl u_1078.1)), (qv, .inl (E.2.1, 16, .inl u_1078.2))] H_1103 := hP_1103
        replace hD_1103 : va_D A [(a3, .inl (E.2.1, n3, .inl z_1103.2)), (qt, .inl (E.2.1, 4, .inl u_745.2.2)), (h2, .inr (6, [.ref a2, .int q.1])), (a2, .inl (E.2.1, n2, .inl q.2)), (h3, .inr (6, [.ref a3, .int z_1103.1])), (h, .inr (2, [.ref qk, .ref qc, .ref qv, .ref qt, .int u_745.1])), (qk, .inl (E.2.1, 240, .inl u_745.2.1)), (qc, .inl (E.2.1, 16, .inl u_1078.1)), (qv, .inl (E.2.1, 16, .inl u_1078.2))] := hD_1103
        clear hl_1080 hP_1079 hD_1079 hS_1079
        refine lv_iload hx hb dX0_shutChain_69 (lv_at hl_1103 0 rfl) ?_
        refine lv_bipush (v := 16) hx hb dX0_shutChain_71 (by decide) ?_
        refine lv_icmp_ge (tgt := 97) hx hb dX0_shutChain_73 (by decide) (fun c_1104 => (by have c_1104 := (nI_leI (a := 16) (b := i_1103) (by omega) (by omega)).mp c_1104; exfalso; omega)) (fun c_1104 => ?_)
        replace c_1104 : ¬ 16 ≤ i_1103 := (not_congr (nI_leI (a := 16) (b := i_1103) (by omega) (by omega))).mp c_1104
        refine lv_aload_n hx hb dX0_shutChain_76 rfl (lv_at hl_1103 4 rfl) ?_
        refine lv_iload_n hx hb dX0_shutChain_77 rfl (lv_at hl_1103 1 rfl) ?_
        refine lv_iload hx hb dX0_shutChain_78 (lv_at hl_1103 0 rfl) ?_
        refine lv_iadd hx hb dX0_shutChain_80 ?_
        refine lv_topi (fun y_1105 ey_1105 => ?_)
        obtain rfl : y_1105 = (nI ((16 + 16 * i_1022) + i_1103)) := ey_1105.trans (nI_add _ _)
        refine lv_aload_n hx hb dX0_shutChain_81 rfl (lv_at hl_1103 2 rfl) ?_
        refine va_get (D := E.1) (ci := 2) (v := .ref qc) (C := RX0) (T := TX0) (N := 5) hx hb hts in_X0 hown hK hP_1103 5 rfl rfl 1 (by decide) w_0 (fun _ h9 => h9) rfl dX0_shutChain_82 ?_
        refine lv_iload hx hb dX0_shutChain_85 (lv_at hl_1103 0 rfl) ?_
        refine g_iald (e0 := i_1103) hx hb hK hP_1103 7 0 rfl rfl (by omega) (by omega) dX0_shutChain_87 ?_
        refine gVv hF hl_1103 hV hP_1103 hD_1103 hS_1103 hA [4, 0] [1, 2, 3, 5, 6, 7, 8] (wc := [(h3, .inr (6, [.ref a3, .int z_1103.1])), (a3, .inl (E.2.1, n3, .inl z_1103.2))]) (wr := [(qt, .inl (E.2.1, 4, .inl u_745.2.2)), (h2, .inr (6, [.ref a2, .int q.1])), (a2, .inl (E.2.1, n2, .inl q.2)), (h, .inr (2, [.ref qk, .ref qc, .ref qv, .ref qt, .int u_745.1])), (qk, .inl (E.2.1, 240, .inl u_745.2.1)), (qc, .inl (E.2.1, 16, .inl u_1078.1)), (qv, .inl (E.2.1, 16, .inl u_1078.2))]) rfl rfl rfl (by decide) 0 6 rfl rfl rfl (k_X5_put E l h3 a3 n3 z_1103 (nI ((16 + 16 * i_1022) + i_1103)) (u_1078.1 i_1103) (by omega)) (cwV 2 hts gX0_shutChain_X5_put rfl rfl rfl (by decide +kernel) ⟨Nat.le_of_ble_eq_true rfl, Nat.le_of_ble_eq_true rfl⟩) rfl rfl rfl (Nat.le_of_ble_eq_true rfl) dX0_shutChain_88 ⟨Nat.le_of_ble_eq_true rfl, Nat.le_of_ble_eq_true rfl⟩ (fun u_1106 H_1107 locs_1107 hu_1106 hP_1107 hD_1107 hS_1107 => ?_)
        replace hu_1106 : u_1106 = F_X5_put n3 z_1103 (nI ((16 + 16 * i_1022) + i_1103)) (u_1078.1 i_1103) := hu_1106
        replace hP_1107 : va_P E.1 vwCl [(qt, .inl (E.2.1, 4, .inl u_745.2.2)), (h2, .inr (6, [.ref a2, .int q.1])), (a2, .inl (E.2.1, n2, .inl q.2)), (h, .inr (2, [.ref qk, .ref qc, .ref qv, .ref qt, .int u_745.1])), (qk, .inl (E.2.1, 240, .inl u_745.2.1)), (qc, .inl (E.2.1, 16, .inl u_1078.1)), (qv, .inl (E.2.1, 16, .inl u_1078.2)), (h3, .inr (6, [.ref a3, .int u_1106.1])), (a3, .inl (E.2.1, n3, .inl u_1106.2))] H_1107 := hP_1107
        replace hD_1107 : va_D A [(qt, .inl (E.2.1, 4, .inl u_745.2.2)), (h2, .inr (6, [.ref a2, .int q.1])), (a2, .inl (E.2.1, n2, .inl q.2)), (h, .inr (2, [.ref qk, .ref qc, .ref qv, .ref qt, .int u_745.1])), (qk, .inl (E.2.1, 240, .inl u_745.2.1)), (qc, .inl (E.2.1, 16, .inl u_1078.1)), (qv, .inl (E.2.1, 16, .inl u_1078.2)), (h3, .inr (6, [.ref a3, .int u_1106.1])), (a3, .inl (E.2.1, n3, .inl u_1106.2))] := hD_1107
        clear hP_1103 hD_1103 hS_1103
        refine lv_iinc (v := (nI (i_1103 + 1))) (lv' := [(4, .int (nI (i_1103 + 1))), (3, .int (nI (16 + 16 * i_1022))), (0, .ref h), (1, .ref h2), (2, .ref h3)]) hx hb dX0_shutChain_91 hl_1103 (k := 0) rfl (nI_add _ 1) (by decide) rfl (fun ls_1108 hl_1108 => ?_)
        clear hl_1103
        refine lv_goto (tgt := 69) hx hb dX0_shutChain_94 (by decide) ?_
        exact ih_1103 (u_1106 : gRow) _ _ _ (((show (B_X0_shutChain_69 n3 i_1022 u_1078) i_1103 z_1103 = _ from (gLet_eq hu_1106 rfl)).symm.trans (congrArg ((B_X0_shutChain_69 n3 i_1022 u_1078) i_1103) hz_1103)).trans (itr_s _ _ _).symm) ⟨lv_sub hl_1108 [0, 1, 2, 3, 4] rfl, (hP_1107.sub [8, 0, 1, 2, 7, 3, 4, 5, 6] rfl), (hD_1107.sub [8, 0, 1, 2, 7, 3, 4, 5, 6] (by decide) rfl), hS_1107⟩
      · intro z_1109 H_1109 locs_1109 ls_1109 hz_1109 hI_1109
        obtain ⟨hl_1109, hP_1109, hD_1109, hS_1109⟩ := hI_1109
        replace hl_1109 : lv_has ls_1109 5 [(4, .int (nI 16)), (3, .int (nI (16 + 16 * i_1022))), (0, .ref h), (1, .ref h2), (2, .ref h3)] := hl_1109
        replace hP_1109 : va_P E.1 vwCl [(a3, .inl (E.2.1, n3, .inl z_1109.2)), (qt, .inl (E.2.1, 4, .inl u_745.2.2)), (h2, .inr (6, [.ref a2, .int q.1])), (a2, .inl (E.2.1, n2, .inl q.2)), (h3, .inr (6, [.ref a3, .int z_1109.1])), (h, .inr (2, [.ref qk, .ref qc, .ref qv, .ref qt, .int u_745.1])), (qk, .inl (E.2.1, 240, .inl u_745.2.1)), (qc, .inl (E.2.1, 16, .inl u_1078.1)), (qv, .inl (E.2.1, 16, .inl u_1078.2))] H_1109 := hP_1109
        replace hD_1109 : va_D A [(a3, .inl (E.2.1, n3, .inl z_1109.2)), (qt, .inl (E.2.1, 4, .inl u_745.2.2)), (h2, .inr (6, [.ref a2, .int q.1])), (a2, .inl (E.2.1, n2, .inl q.2)), (h3, .inr (6, [.ref a3, .int z_1109.1])), (h, .inr (2, [.ref qk, .ref qc, .ref qv, .ref qt, .int u_745.1])), (qk, .inl (E.2.1, 240, .inl u_745.2.1)), (qc, .inl (E.2.1, 16, .inl u_1078.1)), (qv, .inl (E.2.1, 16, .inl u_1078.2))] := hD_1109
        clear hl_1080 hP_1079 hD_1079 hS_1079
        refine lv_iload hx hb dX0_shutChain_69 (lv_at hl_1109 0 rfl) ?_
        refine lv_bipush (v := 16) hx hb dX0_shutChain_71 (by decide) ?_
        refine lv_icmp_ge (tgt := 97) hx hb dX0_shutChain_73 (by decide) (fun c_1110 => ?_) (fun c_1110 => absurd c_1077 ((not_congr (nI_leI (a := 16) (b := 16) (by omega) (by omega))).mp c_1110))
        replace c_1110 : 16 ≤ 16 := (nI_leI (a := 16) (b := 16) (by omega) (by omega)).mp c_1110
        refine lv_iinc (v := (nI ((16 + 16 * i_1022) + 16))) (lv' := [(3, .int (nI ((16 + 16 * i_1022) + 16))), (4, .int (nI 16)), (0, .ref h), (1, .ref h2), (2, .ref h3)]) hx hb dX0_shutChain_97 hl_1109 (k := 1) rfl (nI_add _ 16) (by decide) rfl (fun ls_1111 hl_1111 => ?_)
        clear hl_1109
        refine lv_goto (tgt := 8) hx hb dX0_shutChain_100 (by decide) ?_
        exact ih_1022 ((u_1078.1, u_1078.2, z_1109) : (Nat → Int32) × (Nat → Int32) × gRow) _ _ _ (((show (B_X0_shutChain_8 n3 u_745) i_1022 z_1022 = _ from (gLet_eq er_1024 (gLet_eq hz_1076 (gLet_eq hu_1078 (gLet_eq hz_1109 rfl))))).symm.trans (congrArg ((B_X0_shutChain_8 n3 u_745) i_1022) hz_1022)).trans (itr_s _ _ _).symm) ⟨lv_sub hl_1111 [0, 2, 3, 4] rfl, (hP_1109.sub [7, 8, 4, 0, 5, 6, 1, 2, 3] rfl), (hD_1109.sub [7, 8, 4, 0, 5, 6, 1, 2, 3] (by decide) rfl), hS_1109⟩
  · intro z_1112 H_1112 locs_1112 ls_1112 hz_1112 hI_1112
    obtain ⟨hl_1112, hP_1112, hD_1112, hS_1112⟩ := hI_1112
    replace hl_1112 : lv_has ls_1112 5 [(3, .int (nI (16 + 16 * ((d.1.toNatClampNeg - 16) / 16)))), (0, .ref h), (1, .ref h2), (2, .ref h3)] := hl_1112
    replace hP_1112 : va_P E.1 vwCl [(qc, .inl (E.2.1, 16, .inl z_1112.1)), (qv, .inl (E.2.1, 16, .inl z_1112.2.1)), (h3, .inr (6, [.ref a3, .int z_1112.2.2.1])), (a3, .inl (E.2.1, n3, .inl z_1112.2.2.2)), (h, .inr (2, [.ref qk, .ref qc, .ref qv, .ref qt, .int u_745.1])), (qk, .inl (E.2.1, 240, .inl u_745.2.1)), (qt, .inl (E.2.1, 4, .inl u_745.2.2)), (h2, .inr (6, [.ref a2, .int q.1])), (a2, .inl (E.2.1, n2, .inl q.2))] H_1112 := hP_1112
    replace hD_1112 : va_D A [(qc, .inl (E.2.1, 16, .inl z_1112.1)), (qv, .inl (E.2.1, 16, .inl z_1112.2.1)), (h3, .inr (6, [.ref a3, .int z_1112.2.2.1])), (a3, .inl (E.2.1, n3, .inl z_1112.2.2.2)), (h, .inr (2, [.ref qk, .ref qc, .ref qv, .ref qt, .int u_745.1])), (qk, .inl (E.2.1, 240, .inl u_745.2.1)), (qt, .inl (E.2.1, 4, .inl u_745.2.2)), (h2, .inr (6, [.ref a2, .int q.1])), (a2, .inl (E.2.1, n2, .inl q.2))] := hD_1112
    clear hl_747 hP_746 hD_746 hS_746
    refine lv_iload_n hx hb dX0_shutChain_8 rfl (lv_at hl_1112 0 rfl) ?_
    refine lv_bipush (v := 16) hx hb dX0_shutChain_9 (by decide) ?_
    refine lv_iadd hx hb dX0_shutChain_11 ?_
    refine lv_topi (fun y_1113 ey_1113 => ?_)
    obtain rfl : y_1113 = (nI ((16 + 16 * ((d.1.toNatClampNeg - 16) / 16)) + 16)) := ey_1113.trans (nI_add _ _)
    refine lv_aload_n hx hb dX0_shutChain_12 rfl (lv_at hl_1112 3 rfl) ?_
    refine gVi hF hl_1112 hV hP_1112 hD_1112 hS_1112 hA [2] [0, 1, 3, 4, 5, 6, 7, 8] (wc := [(h3, .inr (6, [.ref a3, .int z_1112.2.2.1]))]) (wr := [(qc, .inl (E.2.1, 16, .inl z_1112.1)), (qv, .inl (E.2.1, 16, .inl z_1112.2.1)), (a3, .inl (E.2.1, n3, .inl z_1112.2.2.2)), (h, .inr (2, [.ref qk, .ref qc, .ref qv, .ref qt, .int u_745.1])), (qk, .inl (E.2.1, 240, .inl u_745.2.1)), (qt, .inl (E.2.1, 4, .inl u_745.2.2)), (h2, .inr (6, [.ref a2, .int q.1])), (a2, .inl (E.2.1, n2, .inl q.2))]) rfl rfl rfl (by decide) 0 6 rfl rfl rfl (k_X5_count E l h3 a3 z_1112.2.2) (cwV 0 hts gX0_shutChain_X5_count rfl rfl rfl (by decide +kernel) ⟨Nat.le_of_ble_eq_true rfl, Nat.le_of_ble_eq_true rfl⟩) rfl rfl rfl (Nat.le_of_ble_eq_true rfl) dX0_shutChain_13 ⟨Nat.le_of_ble_eq_true rfl, Nat.le_of_ble_eq_true rfl⟩ (fun r_1114 _ H_1115 locs_1115 hu_1114 hP_1115 hD_1115 hS_1115 => ?_)
    have er_1114 : r_1114 = F_X5_count z_1112.2.2 := hu_1114
    clear hu_1114
    replace hP_1115 : va_P E.1 vwCl [(qc, .inl (E.2.1, 16, .inl z_1112.1)), (qv, .inl (E.2.1, 16, .inl z_1112.2.1)), (a3, .inl (E.2.1, n3, .inl z_1112.2.2.2)), (h, .inr (2, [.ref qk, .ref qc, .ref qv, .ref qt, .int u_745.1])), (qk, .inl (E.2.1, 240, .inl u_745.2.1)), (qt, .inl (E.2.1, 4, .inl u_745.2.2)), (h2, .inr (6, [.ref a2, .int q.1])), (a2, .inl (E.2.1, n2, .inl q.2)), (h3, .inr (6, [.ref a3, .int z_1112.2.2.1]))] H_1115 := hP_1115
    replace hD_1115 : va_D A [(qc, .inl (E.2.1, 16, .inl z_1112.1)), (qv, .inl (E.2.1, 16, .inl z_1112.2.1)), (a3, .inl (E.2.1, n3, .inl z_1112.2.2.2)), (h, .inr (2, [.ref qk, .ref qc, .ref qv, .ref qt, .int u_745.1])), (qk, .inl (E.2.1, 240, .inl u_745.2.1)), (qt, .inl (E.2.1, 4, .inl u_745.2.2)), (h2, .inr (6, [.ref a2, .int q.1])), (a2, .inl (E.2.1, n2, .inl q.2)), (h3, .inr (6, [.ref a3, .int z_1112.2.2.1]))] := hD_1115
    clear hP_1112 hD_1112 hS_1112
    refine lv_icmp_gt (tgt := 103) hx hb dX0_shutChain_16 (by decide) (fun c_1116 => ?_) (fun c_1116 => (by have c_1116 := (not_congr (g_rlt (by omega) (by omega))).mp c_1116; exfalso; (have q9 : r_1114 = d.1 := (by rw [er_1114, hz_1112]; exact L_shutc_cnt _ _)); rw [q9] at c_1116; omega))
    replace c_1116 : r_1114.toNatClampNeg < (16 + 16 * ((d.1.toNatClampNeg - 16) / 16)) + 16 := (g_rlt (by omega) (by omega)).mp c_1116
    have hpost : ((u_745.1, u_745.2.1, z_1112.1, z_1112.2.1, u_745.2.2, z_1112.2.2) : Int32 × (Nat → Int32) × (Nat → Int32) × (Nat → Int32) × (Nat → Int32) × gRow) = F_X0_shutChain n2 n3 ky cl mv la q d := (show F_X0_shutChain n2 n3 ky cl mv la q d = ((u_745.1, u_745.2.1, z_1112.1, z_1112.2.1, u_745.2.2, z_1112.2.2) : Int32 × (Nat → Int32) × (Nat → Int32) × (Nat → Int32) × (Nat → Int32) × gRow) from (gLet_eq hu_745 (gLet_eq hz_1112 (gLet_eq er_1114 rfl)))).symm
    have hP9 := hP_1115.sub (ws' := [(h, .inr (2, [.ref qk, .ref qc, .ref qv, .ref qt, .int u_745.1])), (qk, .inl (E.2.1, 240, .inl u_745.2.1)), (qc, .inl (E.2.1, 16, .inl z_1112.1)), (qv, .inl (E.2.1, 16, .inl z_1112.2.1)), (qt, .inl (E.2.1, 4, .inl u_745.2.2)), (h2, .inr (6, [.ref a2, .int q.1])), (a2, .inl (E.2.1, n2, .inl q.2)), (h3, .inr (6, [.ref a3, .int z_1112.2.2.1])), (a3, .inl (E.2.1, n3, .inl z_1112.2.2.2))]) [3, 4, 0, 1, 5, 6, 7, 8, 2] rfl
    have hD9 := hD_1115.sub (ws' := [(h, .inr (2, [.ref qk, .ref qc, .ref qv, .ref qt, .int u_745.1])), (qk, .inl (E.2.1, 240, .inl u_745.2.1)), (qc, .inl (E.2.1, 16, .inl z_1112.1)), (qv, .inl (E.2.1, 16, .inl z_1112.2.1)), (qt, .inl (E.2.1, 4, .inl u_745.2.2)), (h2, .inr (6, [.ref a2, .int q.1])), (a2, .inl (E.2.1, n2, .inl q.2)), (h3, .inr (6, [.ref a3, .int z_1112.2.2.1])), (a3, .inl (E.2.1, n3, .inl z_1112.2.2.2))]) [3, 4, 0, 1, 5, 6, 7, 8, 2] (by decide) rfl
    exact W.vret hx hb hr (fun t ht hW => ⟨⟨(u_745.1, u_745.2.1, z_1112.1, z_1112.2.1, u_745.2.2, z_1112.2.2), rfl, hpost, by rw [ht]; exact hP9, hD9⟩, hS_1115.F ht⟩) hS_1115.2.2 dX0_shutChain_103
set_option maxHeartbeats 4000000 in
set_option maxRecDepth 100000 in
theorem k_X0_openChain (E : gE) (l : Launch) (h h2 h3 qk qc qv qt a2 a3 : Nat) (n2 : Nat) (n3 : Nat) (rd : Int32) (ky : Nat → Int32) (cl : Nat → Int32) (mv : Nat → Int32) (la : Nat → Int32) (q : gRow) (d : gRow) (hn2 : n2 < 2147483648) (hn3 : n3 < 2147483648) (hcd : d.1.toNatClampNeg ≤ 1000) (hc16 : 16 ≤ d.1) : gMv E l yX0_openChain wsX0_openChain ({ frames := 3, cells := 0, slots := 0, locals := 72 }) 0 0 [.ref h, .ref h2, .ref h3] [(h, .inr (2, [.ref qk, .ref qc, .ref qv, .ref qt, .int rd])), (qk, .inl (E.2.1, 240, .inl ky)), (qc, .inl (E.2.1, 16, .inl cl)), (qv, .inl (E.2.1, 16, .inl mv)), (qt, .inl (E.2.1, 4, .inl la)), (h2, .inr (6, [.ref a2, .int q.1])), (a2, .inl (E.2.1, n2, .inl q.2)), (h3, .inr (6, [.ref a3, .int d.1])), (a3, .inl (E.2.1, n3, .inl d.2))] (fun (uu : Int32 × (Nat → Int32) × (Nat → Int32) × (Nat → Int32) × (Nat → Int32) × gRow) => uu = F_X0_openChain n2 n3 ky cl mv la q d) (fun (uu : Int32 × (Nat → Int32) × (Nat → Int32) × (Nat → Int32) × (Nat → Int32) × gRow) => [(h, .inr (2, [.ref qk, .ref qc, .ref qv, .ref qt, .int uu.1])), (qk, .inl (E.2.1, 240, .inl uu.2.1)), (qc, .inl (E.2.1, 16, .inl uu.2.2.1)), (qv, .inl (E.2.1, 16, .inl uu.2.2.2.1)), (qt, .inl (E.2.1, 4, .inl uu.2.2.2.2.1)), (h2, .inr (6, [.ref a2, .int q.1])), (a2, .inl (E.2.1, n2, .inl q.2)), (h3, .inr (6, [.ref a3, .int uu.2.2.2.2.2.1])), (a3, .inl (E.2.1, n3, .inl uu.2.2.2.2.2.2))]) := by
  intro sz
  refine Met.ofW (cc := cX0_openChain) (maxL := 5) (ret := none) (by decide) rfl ?_
  intro p e s m args below meth c s₁ B hml hv
  obtain ⟨rfl, hsz, hP, hV, hD0⟩ := hv
  have hx := B.exec
  have hb := B.bytes
  have hr := B.returns
  have hts := atoms_spec (ws := wsX0_openChain) B.pre
  have hown : s.vm.findClass RX0 = some m.cls := findClass_of_methodNamed B.named
  have hlocks := B.notSynchronized
  subst hsz
  have hD := hD0.self (sz := s.heap.size)
  clear hD0
  generalize hAe : va_A [(h, .inr (2, [.ref qk, .ref qc, .ref qv, .ref qt, .int rd])), (qk, .inl (E.2.1, 240, .inl ky)), (qc, .inl (E.2.1, 16, .inl cl)), (qv, .inl (E.2.1, 16, .inl mv)), (qt, .inl (E.2.1, 4, .inl la)), (h2, .inr (6, [.ref a2, .int q.1])), (a2, .inl (E.2.1, n2, .inl q.2)), (h3, .inr (6, [.ref a3, .int d.1])), (a3, .inl (E.2.1, n3, .inl d.2))] s.heap.size = A at hD hV ⊢
  have hA : ∀ q : Nat, s.heap.size ≤ q → A q := fun q h => by rw [← hAe]; exact Or.inr h
  have hS : va_S A s.heap s.heap [] := va_S.rf
  have hK := hV.1
  have hF : CallFix p m c cX0_openChain 5 s _ wsX0_openChain RX0 := ⟨hx, hb, hml, hown, hts⟩
  have hl := lv_entry [.ref h, .ref h2, .ref h3] (n := 5) (Nat.le_of_ble_eq_true rfl)
  rw [lg_entry_eq]
  generalize (lg_sl [.ref h, .ref h2, .ref h3] ++ List.replicate (5 - (lg_sl [.ref h, .ref h2, .ref h3]).length) Slot.unset).toArray = ls at hl ⊢
  have hl : lv_has ls 5 [(0, .ref h), (1, .ref h2), (2, .ref h3)] := hl
  have in_X0 : ∀ w ∈ wsX00, w ∈ wsX0_openChain := by decide +kernel
  have w_0 := hts (.fieldLink RX0 13 "CryptRows$Blocks" "cells" "[I") (by decide +kernel)
  refine lv_aload_n hx hb dX0_openChain_0 rfl (lv_at hl 0 rfl) ?_
  refine lv_aload_n hx hb dX0_openChain_1 rfl (lv_at hl 1 rfl) ?_
  refine gVv hF hl hV hP hD hS hA [0, 1, 4, 5, 6] [2, 3, 7, 8] (wc := [(h, .inr (2, [.ref qk, .ref qc, .ref qv, .ref qt, .int rd])), (qk, .inl (E.2.1, 240, .inl ky)), (qt, .inl (E.2.1, 4, .inl la)), (h2, .inr (6, [.ref a2, .int q.1])), (a2, .inl (E.2.1, n2, .inl q.2))]) (wr := [(qc, .inl (E.2.1, 16, .inl cl)), (qv, .inl (E.2.1, 16, .inl mv)), (h3, .inr (6, [.ref a3, .int d.1])), (a3, .inl (E.2.1, n3, .inl d.2))]) rfl rfl rfl (by decide) 0 2 rfl rfl rfl (k_X0_spreadKey E l h h2 qk qc qv qt a2 n2 rd ky la q (by omega)) (cwV 1 hts gX0_openChain_X0_spreadKey rfl rfl rfl (by decide +kernel) ⟨Nat.le_of_ble_eq_true rfl, Nat.le_of_ble_eq_true rfl⟩) rfl rfl rfl (Nat.le_of_ble_eq_true rfl) dX0_openChain_2 ⟨Nat.le_of_ble_eq_true rfl, Nat.le_of_ble_eq_true rfl⟩ (fun u_719 H_720 locs_720 hu_719 hP_720 hD_720 hS_720 => ?_)
  replace hu_719 : u_719 = F_X0_spreadKey n2 ky la q := hu_719
  replace hP_720 : va_P E.1 vwCl [(qc, .inl (E.2.1, 16, .inl cl)), (qv, .inl (E.2.1, 16, .inl mv)), (h3, .inr (6, [.ref a3, .int d.1])), (a3, .inl (E.2.1, n3, .inl d.2)), (h, .inr (2, [.ref qk, .ref qc, .ref qv, .ref qt, .int u_719.1])), (qk, .inl (E.2.1, 240, .inl u_719.2.1)), (qt, .inl (E.2.1, 4, .inl u_719.2.2)), (h2, .inr (6, [.ref a2, .int q.1])), (a2, .inl (E.2.1, n2, .inl q.2))] H_720 := hP_720
  replace hD_720 : va_D A [(qc, .inl (E.2.1, 16, .inl cl)), (qv, .inl (E.2.1, 16, .inl mv)), (h3, .inr (6, [.ref a3, .int d.1])), (a3, .inl (E.2.1, n3, .inl d.2)), (h, .inr (2, [.ref qk, .ref qc, .ref qv, .ref qt, .int u_719.1])), (qk, .inl (E.2.1, 240, .inl u_719.2.1)), (qt, .inl (E.2.1, 4, .inl u_719.2.2)), (h2, .inr (6, [.ref a2, .int q.1])), (a2, .inl (E.2.1, n2, .inl q.2))] := hD_720
  clear hP hD hS
  refine lv_aload_n hx hb dX0_openChain_5 rfl (lv_at hl 2 rfl) ?_
  refine gVi hF hl hV hP_720 hD_720 hS_720 hA [2] [0, 1, 3, 4, 5, 6, 7, 8] (wc := [(h3, .inr (6, [.ref a3, .int d.1]))]) (wr := [(qc, .inl (E.2.1, 16, .inl cl)), (qv, .inl (E.2.1, 16, .inl mv)), (a3, .inl (E.2.1, n3, .inl d.2)), (h, .inr (2, [.ref qk, .ref qc, .ref qv, .ref qt, .int u_719.1])), (qk, .inl (E.2.1, 240, .inl u_719.2.1)), (qt, .inl (E.2.1, 4, .inl u_719.2.2)), (h2, .inr (6, [.ref a2, .int q.1])), (a2, .inl (E.2.1, n2, .inl q.2))]) rfl rfl rfl (by decide) 0 6 rfl rfl rfl (k_X5_count E l h3 a3 d) (cwV 0 hts gX0_openChain_X5_count rfl rfl rfl (by decide +kernel) ⟨Nat.le_of_ble_eq_true rfl, Nat.le_of_ble_eq_true rfl⟩) rfl rfl rfl (Nat.le_of_ble_eq_true rfl) dX0_openChain_6 ⟨Nat.le_of_ble_eq_true rfl, Nat.le_of_ble_eq_true rfl⟩ (fun r_721 _ H_722 locs_722 hu_721 hP_722 hD_722 hS_722 => ?_)
  have er_721 : r_721 = F_X5_count d := hu_721
  clear hu_721
  replace hP_722 : va_P E.1 vwCl [(qc, .inl (E.2.1, 16, .inl cl)), (qv, .inl (E.2.1, 16, .inl mv)), (a3, .inl (E.2.1, n3, .inl d.2)), (h, .inr (2, [.ref qk, .ref qc, .ref qv, .ref qt, .int u_719.1])), (qk, .inl (E.2.1, 240, .inl u_719.2.1)), (qt, .inl (E.2.1, 4, .inl u_719.2.2)), (h2, .inr (6, [.ref a2, .int q.1])), (a2, .inl (E.2.1, n2, .inl q.2)), (h3, .inr (6, [.ref a3, .int d.1]))] H_722 := hP_722
  replace hD_722 : va_D A [(qc, .inl (E.2.1, 16, .inl cl)), (qv, .inl (E.2.1, 16, .inl mv)), (a3, .inl (E.2.1, n3, .inl d.2)), (h, .inr (2, [.ref qk, .ref qc, .ref qv, .ref qt, .int u_719.1])), (qk, .inl (E.2.1, 240, .inl u_719.2.1)), (qt, .inl (E.2.1, 4, .inl u_719.2.2)), (h2, .inr (6, [.ref a2, .int q.1])), (a2, .inl (E.2.1, n2, .inl q.2)), (h3, .inr (6, [.ref a3, .int d.1]))] := hD_722
  clear hP_720 hD_720 hS_720
  refine lv_bipush (v := (-16)) hx hb dX0_openChain_9 (by decide) ?_
  refine lv_iand hx hb dX0_openChain_11 ?_
  refine lv_bipush (v := 16) hx hb dX0_openChain_12 (by decide) ?_
  refine lv_isub hx hb dX0_openChain_14 ?_
  refine lv_istore_n (lv' := [(3, .int ((r_721 &&& (-16)) - 16)), (0, .ref h), (1, .ref h2), (2, .ref h3)]) hx hb dX0_openChain_15 rfl hl (by decide) rfl (fun ls_723 hl_723 => ?_)
  clear hl
  replace hl_723 : lv_has ls_723 5 [(3, .int (nI (16 * (d.1.toNatClampNeg / 16 - 1)))), (0, .ref h), (1, .ref h2), (2, .ref h3)] := by rw [← (show ((r_721 &&& (-16)) - 16) = nI (16 * (d.1.toNatClampNeg / 16 - 1)) from (by rw [er_721]; exact g_m16 hc16))]; exact hl_723
  refine g_down (N := (d.1.toNatClampNeg / 16 - 1)) (B_X0_openChain_16 n3 u_719) ((cl, mv, d) : (Nat → Int32) × (Nat → Int32) × gRow) (Inv := fun i_0 z_988 H_0 locs_0 ls_0 => lv_has ls_0 5 [(3, .int (nI (16 * i_0))), (0, .ref h), (1, .ref h2), (2, .ref h3)] ∧ va_P E.1 vwCl [(qc, .inl (E.2.1, 16, .inl z_988.1)), (qv, .inl (E.2.1, 16, .inl z_988.2.1)), (a3, .inl (E.2.1, n3, .inl z_988.2.2.2)), (h, .inr (2, [.ref qk, .ref qc, .ref qv, .ref qt, .int u_719.1])), (qk, .inl (E.2.1, 240, .inl u_719.2.1)), (qt, .inl (E.2.1, 4, .inl u_719.2.2)), (h2, .inr (6, [.ref a2, .int q.1])), (a2, .inl (E.2.1, n2, .inl q.2)), (h3, .inr (6, [.ref a3, .int z_988.2.2.1]))] H_0 ∧ va_D A [(qc, .inl (E.2.1, 16, .inl z_988.1)), (qv, .inl (E.2.1, 16, .inl z_988.2.1)), (a3, .inl (E.2.1, n3, .inl z_988.2.2.2)), (h, .inr (2, [.ref qk, .ref qc, .ref qv, .ref qt, .int u_719.1])), (qk, .inl (E.2.1, 240, .inl u_719.2.1)), (qt, .inl (E.2.1, 4, .inl u_719.2.2)), (h2, .inr (6, [.ref a2, .int q.1])), (a2, .inl (E.2.1, n2, .inl q.2)), (h3, .inr (6, [.ref a3, .int z_988.2.2.1]))] ∧ va_S A s.heap H_0 locs_0) (G := fun H_0 locs_0 ls_0 => W _ _ _ _ _ _ _ _ _ _ H_0 locs_0 _ _ _ (F0 _ 16 ls_0 [])) ?_ ?_ ⟨lv_sub hl_723 [0, 1, 2, 3] rfl, hP_722, hD_722, hS_722⟩
  · intro j_989 z_989 H_989 locs_989 ls_989 hij_989 hz_989 hI_989 ih_989
    obtain ⟨hl_989, hP_989, hD_989, hS_989⟩ := hI_989
    replace hl_989 : lv_has ls_989 5 [(3, .int (nI (16 * (j_989 + 1)))), (0, .ref h), (1, .ref h2), (2, .ref h3)] := hl_989
    replace hP_989 : va_P E.1 vwCl [(qc, .inl (E.2.1, 16, .inl z_989.1)), (qv, .inl (E.2.1, 16, .inl z_989.2.1)), (a3, .inl (E.2.1, n3, .inl z_989.2.2.2)), (h, .inr (2, [.ref qk, .ref qc, .ref qv, .ref qt, .int u_719.1])), (qk, .inl (E.2.1, 240, .inl u_719.2.1)), (qt, .inl (E.2.1, 4, .inl u_719.2.2)), (h2, .inr (6, [.ref a2, .int q.1])), (a2, .inl (E.2.1, n2, .inl q.2)), (h3, .inr (6, [.ref a3, .int z_989.2.2.1]))] H_989 := hP_989
    replace hD_989 : va_D A [(qc, .inl (E.2.1, 16, .inl z_989.1)), (qv, .inl (E.2.1, 16, .inl z_989.2.1)), (a3, .inl (E.2.1, n3, .inl z_989.2.2.2)), (h, .inr (2, [.ref qk, .ref qc, .ref qv, .ref qt, .int u_719.1])), (qk, .inl (E.2.1, 240, .inl u_719.2.1)), (qt, .inl (E.2.1, 4, .inl u_719.2.2)), (h2, .inr (6, [.ref a2, .int q.1])), (a2, .inl (E.2.1, n2, .inl q.2)), (h3, .inr (6, [.ref a3, .int z_989.2.2.1]))] := hD_989
    clear hl_723 hP_722 hD_722 hS_722
    refine lv_iload_n hx hb dX0_openChain_16 rfl (lv_at hl_989 0 rfl) ?_
    refine lv_bipush (v := 16) hx hb dX0_openChain_17 (by decide) ?_
    refine lv_icmp_lt (tgt := 106) hx hb dX0_openChain_19 (by decide) (fun c_990 => (by have c_990 := (nI_ltI (a := 16 * (j_989 + 1)) (b := 16) (by omega) (by omega)).mp c_990; exfalso; omega)) (fun c_990 => ?_)
    replace c_990 : ¬ 16 * (j_989 + 1) < 16 := (not_congr (nI_ltI (a := 16 * (j_989 + 1)) (b := 16) (by omega) (by omega))).mp c_990
    refine lv_iconst (v := 0) hx hb dX0_openChain_22 (by decide) ?_
    refine lv_istore (lv' := [(4, .int 0), (3, .int (nI (16 * (j_989 + 1)))), (0, .ref h), (1, .ref h2), (2, .ref h3)]) hx hb dX0_openChain_23 hl_989 (by decide) rfl (fun ls_991 hl_991 => ?_)
    clear hl_989
    refine g_up (N := 16) (B_X0_openChain_25 n3 z_989 j_989) (z_989.1 : Nat → Int32) (Inv := fun i_0 z_1016 H_0 locs_0 ls_0 => lv_has ls_0 5 [(4, .int (nI i_0)), (3, .int (nI (16 * (j_989 + 1)))), (0, .ref h), (1, .ref h2), (2, .ref h3)] ∧ va_P E.1 vwCl [(qc, .inl (E.2.1, 16, .inl z_1016)), (qv, .inl (E.2.1, 16, .inl z_989.2.1)), (a3, .inl (E.2.1, n3, .inl z_989.2.2.2)), (h, .inr (2, [.ref qk, .ref qc, .ref qv, .ref qt, .int u_719.1])), (qk, .inl (E.2.1, 240, .inl u_719.2.1)), (qt, .inl (E.2.1, 4, .inl u_719.2.2)), (h2, .inr (6, [.ref a2, .int q.1])), (a2, .inl (E.2.1, n2, .inl q.2)), (h3, .inr (6, [.ref a3, .int z_989.2.2.1]))] H_0 ∧ va_D A [(qc, .inl (E.2.1, 16, .inl z_1016)), (qv, .inl (E.2.1, 16, .inl z_989.2.1)), (a3, .inl (E.2.1, n3, .inl z_989.2.2.2)), (h, .inr (2, [.ref qk, .ref qc, .ref qv, .ref qt, .int u_719.1])), (qk, .inl (E.2.1, 240, .inl u_719.2.1)), (qt, .inl (E.2.1, 4, .inl u_719.2.2)), (h2, .inr (6, [.ref a2, .int q.1])), (a2, .inl (E.2.1, n2, .inl q.2)), (h3, .inr (6, [.ref a3, .int z_989.2.2.1]))] ∧ va_S A s.heap H_0 locs_0) (G := fun H_0 locs_0 ls_0 => W _ _ _ _ _ _ _ _ _ _ H_0 locs_0 _ _ _ (F0 _ 25 ls_0 [])) ?_ ?_ ⟨lv_sub hl_991 [0, 1, 2, 3, 4] rfl, hP_989, hD_989, hS_989⟩
    · intro j_1017 i_1017 z_1017 H_1017 locs_1017 ls_1017 hij_1017 hz_1017 hI_1017 ih_1017
      obtain ⟨hl_1017, hP_1017, hD_1017, hS_1017⟩ := hI_1017
      replace hl_1017 : lv_has ls_1017 5 [(4, .int (nI i_1017)), (3, .int (nI (16 * (j_989 + 1)))), (0, .ref h), (1, .ref h2), (2, .ref h3)] := hl_1017
      replace hP_1017 : va_P E.1 vwCl [(qc, .inl (E.2.1, 16, .inl z_1017)), (qv, .inl (E.2.1, 16, .inl z_989.2.1)), (a3, .inl (E.2.1, n3, .inl z_989.2.2.2)), (h, .inr (2, [.ref qk, .ref qc, .ref qv, .ref qt, .int u_719.1])), (qk, .inl (E.2.1, 240, .inl u_719.2.1)), (qt, .inl (E.2.1, 4, .inl u_719.2.2)), (h2, .inr (6, [.ref a2, .int q.1])), (a2, .inl (E.2.1, n2, .inl q.2)), (h3, .inr (6, [.ref a3, .int z_989.2.2.1]))] H_1017 := hP_1017
      replace hD_1017 : va_D A [(qc, .inl (E.2.1, 16, .inl z_1017)), (qv, .inl (E.2.1, 16, .inl z_989.2.1)), (a3, .inl (E.2.1, n3, .inl z_989.2.2.2)), (h, .inr (2, [.ref qk, .ref qc, .ref qv, .ref qt, .int u_719.1])), (qk, .inl (E.2.1, 240, .inl u_719.2.1)), (qt, .inl (E.2.1, 4, .inl u_719.2.2)), (h2, .inr (6, [.ref a2, .int q.1])), (a2, .inl (E.2.1, n2, .inl q.2)), (h3, .inr (6, [.ref a3, .int z_989.2.2.1]))] := hD_1017
      clear hl_991 hP_989 hD_989 hS_989
      refine lv_iload hx hb dX0_openChain_25 (lv_at hl_1017 0 rfl) ?_
      refine lv_bipush (v := 16) hx hb dX0_openChain_27 (by decide) ?_
      refine lv_icmp_ge (tgt := 53) hx hb dX0_openChain_29 (by decide) (fun c_1018 => (by have c_1018 := (nI_leI (a := 16) (b := i_1017) (by omega) (by omega)).mp c_1018; exfalso; omega)) (fun c_1018 => ?_)
      replace c_1018 : ¬ 16 ≤ i_1017 := (not_congr (nI_leI (a := 16) (b := i_1017) (by omega) (by omega))).mp c_1018
      refine lv_aload_n hx hb dX0_openChain_32 rfl (lv_at hl_1017 2 rfl) ?_
      refine va_get (D := E.1) (ci := 2) (v := .ref qc) (C := RX0) (T := TX0) (N := 5) hx hb hts in_X0 hown hK hP_1017 3 rfl rfl 1 (by decide) w_0 (fun _ h9 => h9) rfl dX0_openChain_33 ?_
      refine lv_iload hx hb dX0_openChain_36 (lv_at hl_1017 0 rfl) ?_
      refine lv_aload_n hx hb dX0_openChain_38 rfl (lv_at hl_1017 4 rfl) ?_
      refine lv_iload_n hx hb dX0_openChain_39 rfl (lv_at hl_1017 1 rfl) ?_
      refine lv_iload hx hb dX0_openChain_40 (lv_at hl_1017 0 rfl) ?_
      refine lv_iadd hx hb dX0_openChain_42 ?_
      refine lv_topi (fun y_1019 ey_1019 => ?_)
      obtain rfl : y_1019 = (nI ((16 * (j_989 + 1)) + i_1017)) := ey_1019.trans (nI_add _ _)
      refine gVi hF hl_1017 hV hP_1017 hD_1017 hS_1017 hA [8, 2] [0, 1, 3, 4, 5, 6, 7] (wc := [(h3, .inr (6, [.ref a3, .int z_989.2.2.1])), (a3, .inl (E.2.1, n3, .inl z_989.2.2.2))]) (wr := [(qc, .inl (E.2.1, 16, .inl z_1017)), (qv, .inl (E.2.1, 16, .inl z_989.2.1)), (h, .inr (2, [.ref qk, .ref qc, .ref qv, .ref qt, .int u_719.1])), (qk, .inl (E.2.1, 240, .inl u_719.2.1)), (qt, .inl (E.2.1, 4, .inl u_719.2.2)), (h2, .inr (6, [.ref a2, .int q.1])), (a2, .inl (E.2.1, n2, .inl q.2))]) rfl rfl rfl (by decide) 0 6 rfl rfl rfl (k_X5_at E l h3 a3 n3 z_989.2.2 (nI ((16 * (j_989 + 1)) + i_1017)) (by omega)) (cwV 1 hts gX0_openChain_X5_at rfl rfl rfl (by decide +kernel) ⟨Nat.le_of_ble_eq_true rfl, Nat.le_of_ble_eq_true rfl⟩) rfl rfl rfl (Nat.le_of_ble_eq_true rfl) dX0_openChain_43 ⟨Nat.le_of_ble_eq_true rfl, Nat.le_of_ble_eq_true rfl⟩ (fun r_1020 _ H_1021 locs_1021 hu_1020 hP_1021 hD_1021 hS_1021 => ?_)
      have er_1020 : r_1020 = F_X5_at n3 z_989.2.2 (nI ((16 * (j_989 + 1)) + i_1017)) := hu_1020
      clear hu_1020
      replace hP_1021 : va_P E.1 vwCl [(qc, .inl (E.2.1, 16, .inl z_1017)), (qv, .inl (E.2.1, 16, .inl z_989.2.1)), (h, .inr (2, [.ref qk, .ref qc, .ref qv, .ref qt, .int u_719.1])), (qk, .inl (E.2.1, 240, .inl u_719.2.1)), (qt, .inl (E.2.1, 4, .inl u_719.2.2)), (h2, .inr (6, [.ref a2, .int q.1])), (a2, .inl (E.2.1, n2, .inl q.2)), (h3, .inr (6, [.ref a3, .int z_989.2.2.1])), (a3, .inl (E.2.1, n3, .inl z_989.2.2.2))] H_1021 := hP_1021
      replace hD_1021 : va_D A [(qc, .inl (E.2.1, 16, .inl z_1017)), (qv, .inl (E.2.1, 16, .inl z_989.2.1)), (h, .inr (2, [.ref qk, .ref qc, .ref qv, .ref qt, .int u_719.1])), (qk, .inl (E.2.1, 240, .inl u_719.2.1)), (qt, .inl (E.2.1, 4, .inl u_719.2.2)), (h2, .inr (6, [.ref a2, .int q.1])), (a2, .inl (E.2.1, n2, .inl q.2)), (h3, .inr (6, [.ref a3, .int z_989.2.2.1])), (a3, .inl (E.2.1, n3, .inl z_989.2.2.2))] := hD_1021
      clear hP_1017 hD_1017 hS_1017
      refine g_iast (e0 := i_1017) hx hb hK hP_1021 hD_1021 hS_1021 0 0 rfl rfl (by omega) (by omega) dX0_openChain_46 (fun H_1022 locs_1022 hP_1022 hD_1022 hS_1022 => ?_)
      replace hP_1022 : va_P E.1 vwCl [(qc, .inl (E.2.1, 16, .inl (upd z_1017 i_1017 r_1020))), (qv, .inl (E.2.1, 16, .inl z_989.2.1)), (h, .inr (2, [.ref qk, .ref qc, .ref qv, .ref qt, .int u_719.1])), (qk, .inl (E.2.1, 240, .inl u_719.2.1)), (qt, .inl (E.2.1, 4, .inl u_719.2.2)), (h2, .inr (6, [.ref a2, .int q.1])), (a2, .inl (E.2.1, n2, .inl q.2)), (h3, .inr (6, [.ref a3, .int z_989.2.2.1])), (a3, .inl (E.2.1, n3, .inl z_989.2.2.2))] H_1022 := hP_1022
      replace hD_1022 : va_D A [(qc, .inl (E.2.1, 16, .inl (upd z_1017 i_1017 r_1020))), (qv, .inl (E.2.1, 16, .inl z_989.2.1)), (h, .inr (2, [.ref qk, .ref qc, .ref qv, .ref qt, .int u_719.1])), (qk, .inl (E.2.1, 240, .inl u_719.2.1)), (qt, .inl (E.2.1, 4, .inl u_719.2.2)), (h2, .inr (6, [.ref a2, .int q.1])), (a2, .inl (E.2.1, n2, .inl q.2)), (h3, .inr (6, [.ref a3, .int z_989.2.2.1])), (a3, .inl (E.2.1, n3, .inl z_989.2.2.2))] := hD_1022
      clear hP_1021 hD_1021 hS_1021
      refine lv_iinc (v := (nI (i_1017 + 1))) (lv' := [(4, .int (nI (i_1017 + 1))), (3, .int (nI (16 * (j_989 + 1)))), (0, .ref h), (1, .ref h2), (2, .ref h3)]) hx hb dX0_openChain_47 hl_1017 (k := 0) rfl (nI_add _ 1) (by decide) rfl (fun ls_1023 hl_1023 => ?_)
      clear hl_1017
      refine lv_goto (tgt := 25) hx hb dX0_openChain_50 (by decide) ?_
      exact ih_1017 ((upd z_1017 i_1017 r_1020) : Nat → Int32) _ _ _ (((show (B_X0_openChain_25 n3 z_989 j_989) i_1017 z_1017 = _ from (gLet_eq er_1020 rfl)).symm.trans (congrArg ((B_X0_openChain_25 n3 z_989 j_989) i_1017) hz_1017)).trans (itr_s _ _ _).symm) ⟨lv_sub hl_1023 [0, 1, 2, 3, 4] rfl, (hP_1022.sub [0, 1, 8, 2, 3, 4, 5, 6, 7] rfl), (hD_1022.sub [0, 1, 8, 2, 3, 4, 5, 6, 7] (by decide) rfl), hS_1022⟩
    · intro z_1024 H_1024 locs_1024 ls_1024 hz_1024 hI_1024
      obtain ⟨hl_1024, hP_1024, hD_1024, hS_1024⟩ := hI_1024
      replace hl_1024 : lv_has ls_1024 5 [(4, .int (nI 16)), (3, .int (nI (16 * (j_989 + 1)))), (0, .ref h), (1, .ref h2), (2, .ref h3)] := hl_1024
      replace hP_1024 : va_P E.1 vwCl [(qc, .inl (E.2.1, 16, .inl z_1024)), (qv, .inl (E.2.1, 16, .inl z_989.2.1)), (a3, .inl (E.2.1, n3, .inl z_989.2.2.2)), (h, .inr (2, [.ref qk, .ref qc, .ref qv, .ref qt, .int u_719.1])), (qk, .inl (E.2.1, 240, .inl u_719.2.1)), (qt, .inl (E.2.1, 4, .inl u_719.2.2)), (h2, .inr (6, [.ref a2, .int q.1])), (a2, .inl (E.2.1, n2, .inl q.2)), (h3, .inr (6, [.ref a3, .int z_989.2.2.1]))] H_1024 := hP_1024
      replace hD_1024 : va_D A [(qc, .inl (E.2.1, 16, .inl z_1024)), (qv, .inl (E.2.1, 16, .inl z_989.2.1)), (a3, .inl (E.2.1, n3, .inl z_989.2.2.2)), (h, .inr (2, [.ref qk, .ref qc, .ref qv, .ref qt, .int u_719.1])), (qk, .inl (E.2.1, 240, .inl u_719.2.1)), (qt, .inl (E.2.1, 4, .inl u_719.2.2)), (h2, .inr (6, [.ref a2, .int q.1])), (a2, .inl (E.2.1, n2, .inl q.2)), (h3, .inr (6, [.ref a3, .int z_989.2.2.1]))] := hD_1024
      clear hl_991 hP_989 hD_989 hS_989
      refine lv_iload hx hb dX0_openChain_25 (lv_at hl_1024 0 rfl) ?_
      refine lv_bipush (v := 16) hx hb dX0_openChain_27 (by decide) ?_
      refine lv_icmp_ge (tgt := 53) hx hb dX0_openChain_29 (by decide) (fun c_1025 => ?_) (fun c_1025 => (by have c_1025 := (not_congr (nI_leI (a := 16) (b := 16) (by omega) (by omega))).mp c_1025; exfalso; omega))
      replace c_1025 : 16 ≤ 16 := (nI_leI (a := 16) (b := 16) (by omega) (by omega)).mp c_1025
      refine lv_aload_n hx hb dX0_openChain_53 rfl (lv_at hl_1024 2 rfl) ?_
      refine gVv hF hl_1024 hV hP_1024 hD_1024 hS_1024 hA [3, 4, 0, 1] [2, 5, 6, 7, 8] (wc := [(h, .inr (2, [.ref qk, .ref qc, .ref qv, .ref qt, .int u_719.1])), (qk, .inl (E.2.1, 240, .inl u_719.2.1)), (qc, .inl (E.2.1, 16, .inl z_1024)), (qv, .inl (E.2.1, 16, .inl z_989.2.1))]) (wr := [(a3, .inl (E.2.1, n3, .inl z_989.2.2.2)), (qt, .inl (E.2.1, 4, .inl u_719.2.2)), (h2, .inr (6, [.ref a2, .int q.1])), (a2, .inl (E.2.1, n2, .inl q.2)), (h3, .inr (6, [.ref a3, .int z_989.2.2.1]))]) rfl rfl rfl (by decide) 0 2 rfl rfl rfl (k_X0_openBlock E l h qk qc qv qt u_719.1 u_719.2.1 z_1024 z_989.2.1 (by rw [hu_719]; exact L_spread_le _ _ _ _) (by rw [hu_719]; exact L_spread_nn _ _ _ _)) (cwV 0 hts gX0_openChain_X0_openBlock rfl rfl rfl (by decide +kernel) ⟨Nat.le_of_ble_eq_true rfl, Nat.le_of_ble_eq_true rfl⟩) rfl rfl rfl (Nat.le_of_ble_eq_true rfl) dX0_openChain_54 ⟨Nat.le_of_ble_eq_true rfl, Nat.le_of_ble_eq_true rfl⟩ (fun u_1026 H_1027 locs_1027 hu_1026 hP_1027 hD_1027 hS_1027 => ?_)
      replace hu_1026 : u_1026 = F_X0_openBlock u_719.1 u_719.2.1 z_1024 z_989.2.1 := hu_1026
      replace hP_1027 : va_P E.1 vwCl [(a3, .inl (E.2.1, n3, .inl z_989.2.2.2)), (qt, .inl (E.2.1, 4, .inl u_719.2.2)), (h2, .inr (6, [.ref a2, .int q.1])), (a2, .inl (E.2.1, n2, .inl q.2)), (h3, .inr (6, [.ref a3, .int z_989.2.2.1])), (h, .inr (2, [.ref qk, .ref qc, .ref qv, .ref qt, .int u_719.1])), (qk, .inl (E.2.1, 240, .inl u_719.2.1)), (qc, .inl (E.2.1, 16, .inl u_1026.1)), (qv, .inl (E.2.1, 16, .inl u_1026.2))] H_1027 := hP_1027
      replace hD_1027 : va_D A [(a3, .inl (E.2.1, n3, .inl z_989.2.2.2)), (qt, .inl (E.2.1, 4, .inl u_719.2.2)), (h2, .inr (6, [.ref a2, .int q.1])), (a2, .inl (E.2.1, n2, .inl q.2)), (h3, .inr (6, [.ref a3, .int z_989.2.2.1])), (h, .inr (2, [.ref qk, .ref qc, .ref qv, .ref qt, .int u_719.1])), (qk, .inl (E.2.1, 240, .inl u_719.2.1)), (qc, .inl (E.2.1, 16, .inl u_1026.1)), (qv, .inl (E.2.1, 16, .inl u_1026.2))] := hD_1027
      clear hP_1024 hD_1024 hS_1024
      refine lv_iconst (v := 0) hx hb dX0_openChain_57 (by decide) ?_
      refine lv_istore (lv' := [(4, .int 0), (3, .int (nI (16 * (j_989 + 1)))), (0, .ref h), (1, .ref h2), (2, .ref h3)]) hx hb dX0_openChain_58 hl_1024 (by decide) rfl (fun ls_1028 hl_1028 => ?_)
      clear hl_1024
      refine g_up (N := 16) (B_X0_openChain_60 n3 j_989 u_1026) (z_989.2.2 : gRow) (Inv := fun i_0 z_1062 H_0 locs_0 ls_0 => lv_has ls_0 5 [(4, .int (nI i_0)), (3, .int (nI (16 * (j_989 + 1)))), (0, .ref h), (1, .ref h2), (2, .ref h3)] ∧ va_P E.1 vwCl [(a3, .inl (E.2.1, n3, .inl z_1062.2)), (qt, .inl (E.2.1, 4, .inl u_719.2.2)), (h2, .inr (6, [.ref a2, .int q.1])), (a2, .inl (E.2.1, n2, .inl q.2)), (h3, .inr (6, [.ref a3, .int z_1062.1])), (h, .inr (2, [.ref qk, .ref qc, .ref qv, .ref qt, .int u_719.1])), (qk, .inl (E.2.1, 240, .inl u_719.2.1)), (qc, .inl (E.2.1, 16, .inl u_1026.1)), (qv, .inl (E.2.1, 16, .inl u_1026.2))] H_0 ∧ va_D A [(a3, .inl (E.2.1, n3, .inl z_1062.2)), (qt, .inl (E.2.1, 4, .inl u_719.2.2)), (h2, .inr (6, [.ref a2, .int q.1])), (a2, .inl (E.2.1, n2, .inl q.2)), (h3, .inr (6, [.ref a3, .int z_1062.1])), (h, .inr (2, [.ref qk, .ref qc, .ref qv, .ref qt, .int u_719.1])), (qk, .inl (E.2.1, 240, .inl u_719.2.1)), (qc, .inl (E.2.1, 16, .inl u_1026.1)), (qv, .inl (E.2.1, 16, .inl u_1026.2))] ∧ va_S A s.heap H_0 locs_0) (G := fun H_0 locs_0 ls_0 => W _ _ _ _ _ _ _ _ _ _ H_0 locs_0 _ _ _ (F0 _ 60 ls_0 [])) ?_ ?_ ⟨lv_sub hl_1028 [0, 1, 2, 3, 4] rfl, hP_1027, hD_1027, hS_1027⟩
      · intro j_1063 i_1063 z_1063 H_1063 locs_1063 ls_1063 hij_1063 hz_1063 hI_1063 ih_1063
        obtain ⟨hl_1063, hP_1063, hD_1063, hS_1063⟩ := hI_1063
        replace hl_1063 : lv_has ls_1063 5 [(4, .int (nI i_1063)), (3, .int (nI (16 * (j_989 + 1)))), (0, .ref h), (1, .ref h2), (2, .ref h3)] := hl_1063
        replace hP_1063 : va_P E.1 vwCl [(a3, .inl (E.2.1, n3, .inl z_1063.2)), (qt, .inl (E.2.1, 4, .inl u_719.2.2)), (h2, .inr (6, [.ref a2, .int q.1])), (a2, .inl (E.2.1, n2, .inl q.2)), (h3, .inr (6, [.ref a3, .int z_1063.1])), (h, .inr (2, [.ref qk, .ref qc, .ref qv, .ref qt, .int u_719.1])), (qk, .inl (E.2.1, 240, .inl u_719.2.1)), (qc, .inl (E.2.1, 16, .inl u_1026.1)), (qv, .inl (E.2.1, 16, .inl u_1026.2))] H_1063 := hP_1063
        replace hD_1063 : va_D A [(a3, .inl (E.2.1, n3, .inl z_1063.2)), (qt, .inl (E.2.1, 4, .inl u_719.2.2)), (h2, .inr (6, [.ref a2, .int q.1])), (a2, .inl (E.2.1, n2, .inl q.2)), (h3, .inr (6, [.ref a3, .int z_1063.1])), (h, .inr (2, [.ref qk, .ref qc, .ref qv, .ref qt, .int u_719.1])), (qk, .inl (E.2.1, 240, .inl u_719.2.1)), (qc, .inl (E.2.1, 16, .inl u_1026.1)), (qv, .inl (E.2.1, 16, .inl u_1026.2))] := hD_1063
        clear hl_1028 hP_1027 hD_1027 hS_1027
        refine lv_iload hx hb dX0_openChain_60 (lv_at hl_1063 0 rfl) ?_
        refine lv_bipush (v := 16) hx hb dX0_openChain_62 (by decide) ?_
        refine lv_icmp_ge (tgt := 100) hx hb dX0_openChain_64 (by decide) (fun c_1064 => (by have c_1064 := (nI_leI (a := 16) (b := i_1063) (by omega) (by omega)).mp c_1064; exfalso; omega)) (fun c_1064 => ?_)
        replace c_1064 : ¬ 16 ≤ i_1063 := (not_congr (nI_leI (a := 16) (b := i_1063) (by omega) (by omega))).mp c_1064
        refine lv_aload_n hx hb dX0_openChain_67 rfl (lv_at hl_1063 4 rfl) ?_
        refine lv_iload_n hx hb dX0_openChain_68 rfl (lv_at hl_1063 1 rfl) ?_
        refine lv_iload hx hb dX0_openChain_69 (lv_at hl_1063 0 rfl) ?_
        refine lv_iadd hx hb dX0_openChain_71 ?_
        refine lv_topi (fun y_1065 ey_1065 => ?_)
        obtain rfl : y_1065 = (nI ((16 * (j_989 + 1)) + i_1063)) := ey_1065.trans (nI_add _ _)
        refine lv_aload_n hx hb dX0_openChain_72 rfl (lv_at hl_1063 2 rfl) ?_
        refine va_get (D := E.1) (ci := 2) (v := .ref qc) (C := RX0) (T := TX0) (N := 5) hx hb hts in_X0 hown hK hP_1063 5 rfl rfl 1 (by decide) w_0 (fun _ h9 => h9) rfl dX0_openChain_73 ?_
        refine lv_iload hx hb dX0_openChain_76 (lv_at hl_1063 0 rfl) ?_
        refine g_iald (e0 := i_1063) hx hb hK hP_1063 7 0 rfl rfl (by omega) (by omega) dX0_openChain_78 ?_
        refine lv_aload_n hx hb dX0_openChain_79 rfl (lv_at hl_1063 4 rfl) ?_
        refine lv_iload_n hx hb dX0_openChain_80 rfl (lv_at hl_1063 1 rfl) ?_
        refine lv_bipush (v := 16) hx hb dX0_openChain_81 (by decide) ?_
        refine lv_isub hx hb dX0_openChain_83 ?_
        refine lv_topi (fun y_1066 ey_1066 => ?_)
        obtain rfl : y_1066 = (nI ((16 * (j_989 + 1)) - 16)) := ey_1066.trans (pk_sub (a := 16 * (j_989 + 1)) (b := 16) (by omega))
        refine lv_iload hx hb dX0_openChain_84 (lv_at hl_1063 0 rfl) ?_
        refine lv_iadd hx hb dX0_openChain_86 ?_
        refine lv_topi (fun y_1067 ey_1067 => ?_)
        obtain rfl : y_1067 = (nI (((16 * (j_989 + 1)) - 16) + i_1063)) := ey_1067.trans (nI_add _ _)
        refine gVi hF hl_1063 hV hP_1063 hD_1063 hS_1063 hA [4, 0] [1, 2, 3, 5, 6, 7, 8] (wc := [(h3, .inr (6, [.ref a3, .int z_1063.1])), (a3, .inl (E.2.1, n3, .inl z_1063.2))]) (wr := [(qt, .inl (E.2.1, 4, .inl u_719.2.2)), (h2, .inr (6, [.ref a2, .int q.1])), (a2, .inl (E.2.1, n2, .inl q.2)), (h, .inr (2, [.ref qk, .ref qc, .ref qv, .ref qt, .int u_719.1])), (qk, .inl (E.2.1, 240, .inl u_719.2.1)), (qc, .inl (E.2.1, 16, .inl u_1026.1)), (qv, .inl (E.2.1, 16, .inl u_1026.2))]) rfl rfl rfl (by decide) 0 6 rfl rfl rfl (k_X5_at E l h3 a3 n3 z_1063 (nI (((16 * (j_989 + 1)) - 16) + i_1063)) (by omega)) (cwV 1 hts gX0_openChain_X5_at rfl rfl rfl (by decide +kernel) ⟨Nat.le_of_ble_eq_true rfl, Nat.le_of_ble_eq_true rfl⟩) rfl rfl rfl (Nat.le_of_ble_eq_true rfl) dX0_openChain_87 ⟨Nat.le_of_ble_eq_true rfl, Nat.le_of_ble_eq_true rfl⟩ (fun r_1068 _ H_1069 locs_1069 hu_1068 hP_1069 hD_1069 hS_1069 => ?_)
        have er_1068 : r_1068 = F_X5_at n3 z_1063 (nI (((16 * (j_989 + 1)) - 16) + i_1063)) := hu_1068
        clear hu_1068
        replace hP_1069 : va_P E.1 vwCl [(qt, .inl (E.2.1, 4, .inl u_719.2.2)), (h2, .inr (6, [.ref a2, .int q.1])), (a2, .inl (E.2.1, n2, .inl q.2)), (h, .inr (2, [.ref qk, .ref qc, .ref qv, .ref qt, .int u_719.1])), (qk, .inl (E.2.1, 240, .inl u_719.2.1)), (qc, .inl (E.2.1, 16, .inl u_1026.1)), (qv, .inl (E.2.1, 16, .inl u_1026.2)), (h3, .inr (6, [.ref a3, .int z_1063.1])), (a3, .inl (E.2.1, n3, .inl z_1063.2))] H_1069 := hP_1069
        replace hD_1069 : va_D A [(qt, .inl (E.2.1, 4, .inl u_719.2.2)), (h2, .inr (6, [.ref a2, .int q.1])), (a2, .inl (E.2.1, n2, .inl q.2)), (h, .inr (2, [.ref qk, .ref qc, .ref qv, .ref qt, .int u_719.1])), (qk, .inl (E.2.1, 240, .inl u_719.2.1)), (qc, .inl (E.2.1, 16, .inl u_1026.1)), (qv, .inl (E.2.1, 16, .inl u_1026.2)), (h3, .inr (6, [.ref a3, .int z_1063.1])), (a3, .inl (E.2.1, n3, .inl z_1063.2))] := hD_1069
        clear hP_1063 hD_1063 hS_1063
        refine lv_ixor hx hb dX0_openChain_90 ?_
        refine gVv hF hl_1063 hV hP_1069 hD_1069 hS_1069 hA [7, 8] [0, 1, 2, 3, 4, 5, 6] (wc := [(h3, .inr (6, [.ref a3, .int z_1063.1])), (a3, .inl (E.2.1, n3, .inl z_1063.2))]) (wr := [(qt, .inl (E.2.1, 4, .inl u_719.2.2)), (h2, .inr (6, [.ref a2, .int q.1])), (a2, .inl (E.2.1, n2, .inl q.2)), (h, .inr (2, [.ref qk, .ref qc, .ref qv, .ref qt, .int u_719.1])), (qk, .inl (E.2.1, 240, .inl u_719.2.1)), (qc, .inl (E.2.1, 16, .inl u_1026.1)), (qv, .inl (E.2.1, 16, .inl u_1026.2))]) rfl rfl rfl (by decide) 0 6 rfl rfl rfl (k_X5_put E l h3 a3 n3 z_1063 (nI ((16 * (j_989 + 1)) + i_1063)) ((u_1026.1 i_1063) ^^^ r_1068) (by omega)) (cwV 2 hts gX0_openChain_X5_put rfl rfl rfl (by decide +kernel) ⟨Nat.le_of_ble_eq_true rfl, Nat.le_of_ble_eq_true rfl⟩) rfl rfl rfl (Nat.le_of_ble_eq_true rfl) dX0_openChain_91 ⟨Nat.le_of_ble_eq_true rfl, Nat.le_of_ble_eq_true rfl⟩ (fun u_1070 H_1071 locs_1071 hu_1070 hP_1071 hD_1071 hS_1071 => ?_)
        replace hu_1070 : u_1070 = F_X5_put n3 z_1063 (nI ((16 * (j_989 + 1)) + i_1063)) ((u_1026.1 i_1063) ^^^ r_1068) := hu_1070
        replace hP_1071 : va_P E.1 vwCl [(qt, .inl (E.2.1, 4, .inl u_719.2.2)), (h2, .inr (6, [.ref a2, .int q.1])), (a2, .inl (E.2.1, n2, .inl q.2)), (h, .inr (2, [.ref qk, .ref qc, .ref qv, .ref qt, .int u_719.1])), (qk, .inl (E.2.1, 240, .inl u_719.2.1)), (qc, .inl (E.2.1, 16, .inl u_1026.1)), (qv, .inl (E.2.1, 16, .inl u_1026.2)), (h3, .inr (6, [.ref a3, .int u_1070.1])), (a3, .inl (E.2.1, n3, .inl u_1070.2))] H_1071 := hP_1071
        replace hD_1071 : va_D A [(qt, .inl (E.2.1, 4, .inl u_719.2.2)), (h2, .inr (6, [.ref a2, .int q.1])), (a2, .inl (E.2.1, n2, .inl q.2)), (h, .inr (2, [.ref qk, .ref qc, .ref qv, .ref qt, .int u_719.1])), (qk, .inl (E.2.1, 240, .inl u_719.2.1)), (qc, .inl (E.2.1, 16, .inl u_1026.1)), (qv, .inl (E.2.1, 16, .inl u_1026.2)), (h3, .inr (6, [.ref a3, .int u_1070.1])), (a3, .inl (E.2.1, n3, .inl u_1070.2))] := hD_1071
        clear hP_1069 hD_1069 hS_1069
        refine lv_iinc (v := (nI (i_1063 + 1))) (lv' := [(4, .int (nI (i_1063 + 1))), (3, .int (nI (16 * (j_989 + 1)))), (0, .ref h), (1, .ref h2), (2, .ref h3)]) hx hb dX0_openChain_94 hl_1063 (k := 0) rfl (nI_add _ 1) (by decide) rfl (fun ls_1072 hl_1072 => ?_)
        clear hl_1063
        refine lv_goto (tgt := 60) hx hb dX0_openChain_97 (by decide) ?_
        exact ih_1063 (u_1070 : gRow) _ _ _ (((show (B_X0_openChain_60 n3 j_989 u_1026) i_1063 z_1063 = _ from (gLet_eq er_1068 (gLet_eq hu_1070 rfl))).symm.trans (congrArg ((B_X0_openChain_60 n3 j_989 u_1026) i_1063) hz_1063)).trans (itr_s _ _ _).symm) ⟨lv_sub hl_1072 [0, 1, 2, 3, 4] rfl, (hP_1071.sub [8, 0, 1, 2, 7, 3, 4, 5, 6] rfl), (hD_1071.sub [8, 0, 1, 2, 7, 3, 4, 5, 6] (by decide) rfl), hS_1071⟩
      · intro z_1073 H_1073 locs_1073 ls_1073 hz_1073 hI_1073
        obtain ⟨hl_1073, hP_1073, hD_1073, hS_1073⟩ := hI_1073
        replace hl_1073 : lv_has ls_1073 5 [(4, .int (nI 16)), (3, .int (nI (16 * (j_989 + 1)))), (0, .ref h), (1, .ref h2), (2, .ref h3)] := hl_1073
        replace hP_1073 : va_P E.1 vwCl [(a3, .inl (E.2.1, n3, .inl z_1073.2)), (qt, .inl (E.2.1, 4, .inl u_719.2.2)), (h2, .inr (6, [.ref a2, .int q.1])), (a2, .inl (E.2.1, n2, .inl q.2)), (h3, .inr (6, [.ref a3, .int z_1073.1])), (h, .inr (2, [.ref qk, .ref qc, .ref qv, .ref qt, .int u_719.1])), (qk, .inl (E.2.1, 240, .inl u_719.2.1)), (qc, .inl (E.2.1, 16, .inl u_1026.1)), (qv, .inl (E.2.1, 16, .inl u_1026.2))] H_1073 := hP_1073
        replace hD_1073 : va_D A [(a3, .inl (E.2.1, n3, .inl z_1073.2)), (qt, .inl (E.2.1, 4, .inl u_719.2.2)), (h2, .inr (6, [.ref a2, .int q.1])), (a2, .inl (E.2.1, n2, .inl q.2)), (h3, .inr (6, [.ref a3, .int z_1073.1])), (h, .inr (2, [.ref qk, .ref qc, .ref qv, .ref qt, .int u_719.1])), (qk, .inl (E.2.1, 240, .inl u_719.2.1)), (qc, .inl (E.2.1, 16, .inl u_1026.1)), (qv, .inl (E.2.1, 16, .inl u_1026.2))] := hD_1073
        clear hl_1028 hP_1027 hD_1027 hS_1027
        refine lv_iload hx hb dX0_openChain_60 (lv_at hl_1073 0 rfl) ?_
        refine lv_bipush (v := 16) hx hb dX0_openChain_62 (by decide) ?_
        refine lv_icmp_ge (tgt := 100) hx hb dX0_openChain_64 (by decide) (fun c_1074 => ?_) (fun c_1074 => absurd c_1025 ((not_congr (nI_leI (a := 16) (b := 16) (by omega) (by omega))).mp c_1074))
        replace c_1074 : 16 ≤ 16 := (nI_leI (a := 16) (b := 16) (by omega) (by omega)).mp c_1074
        refine lv_iinc (v := (nI (16 * j_989))) (lv' := [(3, .int (nI (16 * j_989))), (4, .int (nI 16)), (0, .ref h), (1, .ref h2), (2, .ref h3)]) hx hb dX0_openChain_100 hl_1073 (k := 1) rfl (g_dec16 _) (by decide) rfl (fun ls_1075 hl_1075 => ?_)
        clear hl_1073
        refine lv_goto (tgt := 16) hx hb dX0_openChain_103 (by decide) ?_
        exact ih_989 ((u_1026.1, u_1026.2, z_1073) : (Nat → Int32) × (Nat → Int32) × gRow) _ _ _ ((congrArg (itd (B_X0_openChain_16 n3 u_719) j_989) (show (B_X0_openChain_16 n3 u_719) j_989 z_989 = _ from (gLet_eq hz_1024 (gLet_eq hu_1026 (gLet_eq hz_1073 rfl))))).symm.trans ((itd_s _ _ _).symm.trans hz_989)) ⟨lv_sub hl_1075 [0, 2, 3, 4] rfl, (hP_1073.sub [7, 8, 0, 5, 6, 1, 2, 3, 4] rfl), (hD_1073.sub [7, 8, 0, 5, 6, 1, 2, 3, 4] (by decide) rfl), hS_1073⟩
  · intro z_1076 H_1076 locs_1076 ls_1076 hz_1076 hI_1076
    obtain ⟨hl_1076, hP_1076, hD_1076, hS_1076⟩ := hI_1076
    replace hl_1076 : lv_has ls_1076 5 [(3, .int 0), (0, .ref h), (1, .ref h2), (2, .ref h3)] := hl_1076
    replace hP_1076 : va_P E.1 vwCl [(qc, .inl (E.2.1, 16, .inl z_1076.1)), (qv, .inl (E.2.1, 16, .inl z_1076.2.1)), (a3, .inl (E.2.1, n3, .inl z_1076.2.2.2)), (h, .inr (2, [.ref qk, .ref qc, .ref qv, .ref qt, .int u_719.1])), (qk, .inl (E.2.1, 240, .inl u_719.2.1)), (qt, .inl (E.2.1, 4, .inl u_719.2.2)), (h2, .inr (6, [.ref a2, .int q.1])), (a2, .inl (E.2.1, n2, .inl q.2)), (h3, .inr (6, [.ref a3, .int z_1076.2.2.1]))] H_1076 := hP_1076
    replace hD_1076 : va_D A [(qc, .inl (E.2.1, 16, .inl z_1076.1)), (qv, .inl (E.2.1, 16, .inl z_1076.2.1)), (a3, .inl (E.2.1, n3, .inl z_1076.2.2.2)), (h, .inr (2, [.ref qk, .ref qc, .ref qv, .ref qt, .int u_719.1])), (qk, .inl (E.2.1, 240, .inl u_719.2.1)), (qt, .inl (E.2.1, 4, .inl u_719.2.2)), (h2, .inr (6, [.ref a2, .int q.1])), (a2, .inl (E.2.1, n2, .inl q.2)), (h3, .inr (6, [.ref a3, .int z_1076.2.2.1]))] := hD_1076
    clear hl_723 hP_722 hD_722 hS_722
    refine lv_iload_n hx hb dX0_openChain_16 rfl (lv_at hl_1076 0 rfl) ?_
    refine lv_bipush (v := 16) hx hb dX0_openChain_17 (by decide) ?_
    refine lv_icmp_lt (tgt := 106) hx hb dX0_openChain_19 (by decide) (fun c_1077 => ?_) (fun c_1077 => absurd (by decide) c_1077)
    have hpost : ((u_719.1, u_719.2.1, z_1076.1, z_1076.2.1, u_719.2.2, z_1076.2.2) : Int32 × (Nat → Int32) × (Nat → Int32) × (Nat → Int32) × (Nat → Int32) × gRow) = F_X0_openChain n2 n3 ky cl mv la q d := (show F_X0_openChain n2 n3 ky cl mv la q d = ((u_719.1, u_719.2.1, z_1076.1, z_1076.2.1, u_719.2.2, z_1076.2.2) : Int32 × (Nat → Int32) × (Nat → Int32) × (Nat → Int32) × (Nat → Int32) × gRow) from (gLet_eq hu_719 (gLet_eq er_721 (gLet_eq hz_1076 rfl)))).symm
    have hP9 := hP_1076.sub (ws' := [(h, .inr (2, [.ref qk, .ref qc, .ref qv, .ref qt, .int u_719.1])), (qk, .inl (E.2.1, 240, .inl u_719.2.1)), (qc, .inl (E.2.1, 16, .inl z_1076.1)), (qv, .inl (E.2.1, 16, .inl z_1076.2.1)), (qt, .inl (E.2.1, 4, .inl u_719.2.2)), (h2, .inr (6, [.ref a2, .int q.1])), (a2, .inl (E.2.1, n2, .inl q.2)), (h3, .inr (6, [.ref a3, .int z_1076.2.2.1])), (a3, .inl (E.2.1, n3, .inl z_1076.2.2.2))]) [3, 4, 0, 1, 5, 6, 7, 8, 2] rfl
    have hD9 := hD_1076.sub (ws' := [(h, .inr (2, [.ref qk, .ref qc, .ref qv, .ref qt, .int u_719.1])), (qk, .inl (E.2.1, 240, .inl u_719.2.1)), (qc, .inl (E.2.1, 16, .inl z_1076.1)), (qv, .inl (E.2.1, 16, .inl z_1076.2.1)), (qt, .inl (E.2.1, 4, .inl u_719.2.2)), (h2, .inr (6, [.ref a2, .int q.1])), (a2, .inl (E.2.1, n2, .inl q.2)), (h3, .inr (6, [.ref a3, .int z_1076.2.2.1])), (a3, .inl (E.2.1, n3, .inl z_1076.2.2.2))]) [3, 4, 0, 1, 5, 6, 7, 8, 2] (by decide) rfl
    exact W.vret hx hb hr (fun t ht hW => ⟨⟨(u_719.1, u_719.2.1, z_1076.1, z_1076.2.1, u_719.2.2, z_1076.2.2), rfl, hpost, by rw [ht]; exact hP9, hD9⟩, hS_1076.F ht⟩) hS_1076.2.2 dX0_openChain_106
