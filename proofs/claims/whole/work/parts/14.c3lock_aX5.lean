set_option maxHeartbeats 4000000 in
set_option maxRecDepth 100000 in
theorem k_X5_addFill (E : gE) (l : Launch) (h a : Nat) (n : Nat) (r : gRow) (bytes : Int32) (hn : n < 2147483648) : gMv E l yX5_addFill wsX5_addFill ({ frames := 1, cells := 0, slots := 0, locals := 21 }) 0 0 [.ref h, .int bytes] [(h, .inr (6, [.ref a, .int r.1])), (a, .inl (E.2.1, n, .inl r.2))] (fun (uu : gRow) => uu = F_X5_addFill n r bytes) (fun (uu : gRow) => [(h, .inr (6, [.ref a, .int uu.1])), (a, .inl (E.2.1, n, .inl uu.2))]) := by
  intro sz
  refine Met.ofW (cc := cX5_addFill) (maxL := 3) (ret := none) (by decide) rfl ?_
  intro p e s m args below meth c s₁ B hml hv
  obtain ⟨rfl, hsz, hP, hV, hD0⟩ := hv
  have hx := B.exec
  have hb := B.bytes
  have hr := B.returns
  have hts := atoms_spec (ws := wsX5_addFill) B.pre
  have hown : s.vm.findClass RX5 = some m.cls := findClass_of_methodNamed B.named
  have hlocks := B.notSynchronized
  subst hsz
  have hD := hD0.self (sz := s.heap.size)
  clear hD0
  generalize hAe : va_A [(h, .inr (6, [.ref a, .int r.1])), (a, .inl (E.2.1, n, .inl r.2))] s.heap.size = A at hD hV ⊢
  have hA : ∀ q : Nat, s.heap.size ≤ q → A q := fun q h => by rw [← hAe]; exact Or.inr h
  have hS : va_S A s.heap s.heap [] := va_S.rf
  have hK := hV.1
  have hF : CallFix p m c cX5_addFill 3 s _ wsX5_addFill RX5 := ⟨hx, hb, hml, hown, hts⟩
  have hl := lv_entry [.ref h, .int bytes] (n := 3) (Nat.le_of_ble_eq_true rfl)
  rw [lg_entry_eq]
  generalize (lg_sl [.ref h, .int bytes] ++ List.replicate (3 - (lg_sl [.ref h, .int bytes]).length) Slot.unset).toArray = ls at hl ⊢
  have hl : lv_has ls 3 [(0, .ref h), (1, .int bytes)] := hl
  have w_0 : (Cond.fieldLinkNest "CryptRows$Row" 38 "CryptRows" "FILL" "[I" "CryptRows").before (#[.ref h, .int bytes] : Array Value) s = true := va_Nw.use rfl (hV.2.1 (.fieldLinkNest "CryptRows$Row" 38 "CryptRows" "FILL" "[I" "CryptRows") (by decide +kernel))
  refine lv_iconst (v := 0) hx hb dX5_addFill_0 (by decide) ?_
  refine lv_istore_n (lv' := [(2, .int 0), (0, .ref h), (1, .int bytes)]) hx hb dX5_addFill_1 rfl hl (by decide) rfl (fun ls_65 hl_65 => ?_)
  clear hl
  have hcl := g_clamp_lt bytes
  refine g_up (N := (min bytes.toNatClampNeg 32)) (B_X5_addFill_2 n) (r : gRow) (Inv := fun i_0 z_87 H_0 locs_0 ls_0 => lv_has ls_0 3 [(2, .int (nI i_0)), (0, .ref h), (1, .int bytes)] ∧ va_P E.1 vwCl [(h, .inr (6, [.ref a, .int z_87.1])), (a, .inl (E.2.1, n, .inl z_87.2))] H_0 ∧ va_D A [(h, .inr (6, [.ref a, .int z_87.1])), (a, .inl (E.2.1, n, .inl z_87.2))] ∧ va_S A s.heap H_0 locs_0) (G := fun H_0 locs_0 ls_0 => W _ _ _ _ _ _ _ _ _ _ H_0 locs_0 _ _ _ (F0 _ 2 ls_0 [])) ?_ ?_ ⟨lv_sub hl_65 [0, 1, 2] rfl, hP, hD, hS⟩
  · intro j_88 i_88 z_88 H_88 locs_88 ls_88 hij_88 hz_88 hI_88 ih_88
    obtain ⟨hl_88, hP_88, hD_88, hS_88⟩ := hI_88
    replace hl_88 : lv_has ls_88 3 [(2, .int (nI i_88)), (0, .ref h), (1, .int bytes)] := hl_88
    replace hP_88 : va_P E.1 vwCl [(h, .inr (6, [.ref a, .int z_88.1])), (a, .inl (E.2.1, n, .inl z_88.2))] H_88 := hP_88
    replace hD_88 : va_D A [(h, .inr (6, [.ref a, .int z_88.1])), (a, .inl (E.2.1, n, .inl z_88.2))] := hD_88
    clear hl_65 hP hD hS
    refine lv_iload_n hx hb dX5_addFill_2 rfl (lv_at hl_88 0 rfl) ?_
    refine lv_iload_n hx hb dX5_addFill_3 rfl (lv_at hl_88 2 rfl) ?_
    refine lv_icmp_ge (tgt := 30) hx hb dX5_addFill_4 (by decide) (fun c_89 => (by have c_89 := (g_rle (by omega)).mp c_89; exfalso; omega)) (fun c_89 => ?_)
    replace c_89 : ¬ bytes.toNatClampNeg ≤ i_88 := (not_congr (g_rle (by omega))).mp c_89
    refine lv_iload_n hx hb dX5_addFill_7 rfl (lv_at hl_88 0 rfl) ?_
    refine va_getsN (v := .ref (E.2.2.2 0)) hx hb (hV.2.2 0 (by decide)).1 hS_88 hown w_0 (fun _ h9 => h9) dX5_addFill_8 ?_
    refine va_tlen (v := 32) hx hb (hV.2.2 0 (by decide)).2 hS_88 rfl dX5_addFill_11 ?_
    refine lv_icmp_ge (tgt := 30) hx hb dX5_addFill_12 (by decide) (fun c_90 => (by have c_90 := (nI_leI (a := 32) (b := i_88) (by omega) (by omega)).mp c_90; exfalso; omega)) (fun c_90 => ?_)
    replace c_90 : ¬ 32 ≤ i_88 := (not_congr (nI_leI (a := 32) (b := i_88) (by omega) (by omega))).mp c_90
    refine lv_aload_n hx hb dX5_addFill_15 rfl (lv_at hl_88 1 rfl) ?_
    refine va_getsN (v := .ref (E.2.2.2 0)) hx hb (hV.2.2 0 (by decide)).1 hS_88 hown w_0 (fun _ h9 => h9) dX5_addFill_16 ?_
    refine lv_iload_n hx hb dX5_addFill_19 rfl (lv_at hl_88 0 rfl) ?_
    refine va_ti (v := .int (gTf 0 i_88)) hx hb (hV.2.2 0 (by decide)).2 hS_88 (vp_in_nI (n := i_88) (N := 32) (by omega) (by omega)) (g_tv (by omega)) dX5_addFill_20 ?_
    refine gVv hF hl_88 hV hP_88 hD_88 hS_88 hA [0, 1] [] (wc := [(h, .inr (6, [.ref a, .int z_88.1])), (a, .inl (E.2.1, n, .inl z_88.2))]) (wr := []) rfl rfl rfl (by decide) 0 6 rfl rfl rfl (k_X5_add E l h a n z_88 (gTf 0 i_88) (by omega)) (cwV 1 hts gX5_addFill_X5_add rfl rfl rfl (by decide +kernel) ⟨Nat.le_of_ble_eq_true rfl, Nat.le_of_ble_eq_true rfl⟩) rfl rfl rfl (Nat.le_of_ble_eq_true rfl) dX5_addFill_21 ⟨Nat.le_of_ble_eq_true rfl, Nat.le_of_ble_eq_true rfl⟩ (fun u_91 H_92 locs_92 hu_91 hP_92 hD_92 hS_92 => ?_)
    replace hu_91 : u_91 = F_X5_add n z_88 (gTf 0 i_88) := hu_91
    replace hP_92 : va_P E.1 vwCl [(h, .inr (6, [.ref a, .int u_91.1])), (a, .inl (E.2.1, n, .inl u_91.2))] H_92 := hP_92
    replace hD_92 : va_D A [(h, .inr (6, [.ref a, .int u_91.1])), (a, .inl (E.2.1, n, .inl u_91.2))] := hD_92
    clear hP_88 hD_88 hS_88
    refine lv_iinc (v := (nI (i_88 + 1))) (lv' := [(2, .int (nI (i_88 + 1))), (0, .ref h), (1, .int bytes)]) hx hb dX5_addFill_24 hl_88 (k := 0) rfl (nI_add _ 1) (by decide) rfl (fun ls_93 hl_93 => ?_)
    clear hl_88
    refine lv_goto (tgt := 2) hx hb dX5_addFill_27 (by decide) ?_
    exact ih_88 (u_91 : gRow) _ _ _ (((show (B_X5_addFill_2 n) i_88 z_88 = _ from (gLet_eq hu_91 rfl)).symm.trans (congrArg ((B_X5_addFill_2 n) i_88) hz_88)).trans (itr_s _ _ _).symm) ⟨lv_sub hl_93 [0, 1, 2] rfl, (hP_92.sub [0, 1] rfl), (hD_92.sub [0, 1] (by decide) rfl), hS_92⟩
  · intro z_94 H_94 locs_94 ls_94 hz_94 hI_94
    obtain ⟨hl_94, hP_94, hD_94, hS_94⟩ := hI_94
    replace hl_94 : lv_has ls_94 3 [(2, .int (nI ((min bytes.toNatClampNeg 32)))), (0, .ref h), (1, .int bytes)] := hl_94
    replace hP_94 : va_P E.1 vwCl [(h, .inr (6, [.ref a, .int z_94.1])), (a, .inl (E.2.1, n, .inl z_94.2))] H_94 := hP_94
    replace hD_94 : va_D A [(h, .inr (6, [.ref a, .int z_94.1])), (a, .inl (E.2.1, n, .inl z_94.2))] := hD_94
    clear hl_65 hP hD hS
    refine lv_iload_n hx hb dX5_addFill_2 rfl (lv_at hl_94 0 rfl) ?_
    refine lv_iload_n hx hb dX5_addFill_3 rfl (lv_at hl_94 2 rfl) ?_
    refine lv_icmp_ge (tgt := 30) hx hb dX5_addFill_4 (by decide) (fun c_95 => ?_) (fun c_95 => ?_)
    · replace c_95 : bytes.toNatClampNeg ≤ (min bytes.toNatClampNeg 32) := (g_rle (by omega)).mp c_95
      have hpost : (z_94 : gRow) = F_X5_addFill n r bytes := (show F_X5_addFill n r bytes = (z_94 : gRow) from (gLet_eq hz_94 ((if_pos c_95).trans rfl))).symm
      have hP9 := hP_94.sub (ws' := [(h, .inr (6, [.ref a, .int z_94.1])), (a, .inl (E.2.1, n, .inl z_94.2))]) [0, 1] rfl
      have hD9 := hD_94.sub (ws' := [(h, .inr (6, [.ref a, .int z_94.1])), (a, .inl (E.2.1, n, .inl z_94.2))]) [0, 1] (by decide) rfl
      exact W.vret hx hb hr (fun t ht hW => ⟨⟨z_94, rfl, hpost, by rw [ht]; exact hP9, hD9⟩, hS_94.F ht⟩) hS_94.2.2 dX5_addFill_30
    · replace c_95 : ¬ bytes.toNatClampNeg ≤ (min bytes.toNatClampNeg 32) := (not_congr (g_rle (by omega))).mp c_95
      refine lv_iload_n hx hb dX5_addFill_7 rfl (lv_at hl_94 0 rfl) ?_
      refine va_getsN (v := .ref (E.2.2.2 0)) hx hb (hV.2.2 0 (by decide)).1 hS_94 hown w_0 (fun _ h9 => h9) dX5_addFill_8 ?_
      refine va_tlen (v := 32) hx hb (hV.2.2 0 (by decide)).2 hS_94 rfl dX5_addFill_11 ?_
      refine lv_icmp_ge (tgt := 30) hx hb dX5_addFill_12 (by decide) (fun c_96 => ?_) (fun c_96 => (by have c_96 := (not_congr (nI_leI (a := 32) (b := (min bytes.toNatClampNeg 32)) (by omega) (by omega))).mp c_96; exfalso; omega))
      replace c_96 : 32 ≤ (min bytes.toNatClampNeg 32) := (nI_leI (a := 32) (b := (min bytes.toNatClampNeg 32)) (by omega) (by omega)).mp c_96
      have hpost : (z_94 : gRow) = F_X5_addFill n r bytes := (show F_X5_addFill n r bytes = (z_94 : gRow) from (gLet_eq hz_94 ((if_neg c_95).trans rfl))).symm
      have hP9 := hP_94.sub (ws' := [(h, .inr (6, [.ref a, .int z_94.1])), (a, .inl (E.2.1, n, .inl z_94.2))]) [0, 1] rfl
      have hD9 := hD_94.sub (ws' := [(h, .inr (6, [.ref a, .int z_94.1])), (a, .inl (E.2.1, n, .inl z_94.2))]) [0, 1] (by decide) rfl
      exact W.vret hx hb hr (fun t ht hW => ⟨⟨z_94, rfl, hpost, by rw [ht]; exact hP9, hD9⟩, hS_94.F ht⟩) hS_94.2.2 dX5_addFill_30
set_option maxHeartbeats 4000000 in
set_option maxRecDepth 100000 in
theorem k_X5_drop (E : gE) (l : Launch) (h a : Nat) (n : Nat) (r : gRow) (bytes : Int32) (hn : n < 2147483648) : gMv E l yX5_drop wsX5_drop ({ frames := 2, cells := 0, slots := 0, locals := 42 }) 0 0 [.ref h, .int bytes] [(h, .inr (6, [.ref a, .int r.1])), (a, .inl (E.2.1, n, .inl r.2))] (fun (uu : gRow) => uu = F_X5_drop n r bytes) (fun (uu : gRow) => [(h, .inr (6, [.ref a, .int uu.1])), (a, .inl (E.2.1, n, .inl uu.2))]) := by
  intro sz
  refine Met.ofW (cc := cX5_drop) (maxL := 4) (ret := none) (by decide) rfl ?_
  intro p e s m args below meth c s₁ B hml hv
  obtain ⟨rfl, hsz, hP, hV, hD0⟩ := hv
  have hx := B.exec
  have hb := B.bytes
  have hr := B.returns
  have hts := atoms_spec (ws := wsX5_drop) B.pre
  have hown : s.vm.findClass RX5 = some m.cls := findClass_of_methodNamed B.named
  have hlocks := B.notSynchronized
  subst hsz
  have hD := hD0.self (sz := s.heap.size)
  clear hD0
  generalize hAe : va_A [(h, .inr (6, [.ref a, .int r.1])), (a, .inl (E.2.1, n, .inl r.2))] s.heap.size = A at hD hV ⊢
  have hA : ∀ q : Nat, s.heap.size ≤ q → A q := fun q h => by rw [← hAe]; exact Or.inr h
  have hS : va_S A s.heap s.heap [] := va_S.rf
  have hK := hV.1
  have hF : CallFix p m c cX5_drop 4 s _ wsX5_drop RX5 := ⟨hx, hb, hml, hown, hts⟩
  have hl := lv_entry [.ref h, .int bytes] (n := 4) (Nat.le_of_ble_eq_true rfl)
  rw [lg_entry_eq]
  generalize (lg_sl [.ref h, .int bytes] ++ List.replicate (4 - (lg_sl [.ref h, .int bytes]).length) Slot.unset).toArray = ls at hl ⊢
  have hl : lv_has ls 4 [(0, .ref h), (1, .int bytes)] := hl
  have in_X5 : ∀ w ∈ wsX50, w ∈ wsX5_drop := by decide +kernel
  have w_0 := hts (.fieldLink RX5 19 "CryptRows$Row" "count" "I") (by decide +kernel)
  have w_1 := hts (.methodLink RX5 7 Lib.Math.max.name) (by decide +kernel)
  have w_2 := hts (.static Lib.Math.max.name) (by decide +kernel)
  have w_3 := hts (.initialized "java/lang/Math") (by decide +kernel)
  have w_4 := hts (.code Lib.Math.max.name Lib.Math.max.code 2 (some .int)) (by decide +kernel)
  refine lv_iconst (v := 0) hx hb dX5_drop_0 (by decide) ?_
  refine lv_aload_n hx hb dX5_drop_1 rfl (lv_at hl 0 rfl) ?_
  refine va_get (D := E.1) (ci := 6) (v := .int r.1) (C := RX5) (T := TX5) (N := 2) hx hb hts in_X5 hown hK hP 0 rfl rfl 1 (by decide) w_0 (fun _ h9 => h9) rfl dX5_drop_2 ?_
  refine lv_iload_n hx hb dX5_drop_5 rfl (lv_at hl 1 rfl) ?_
  refine lv_isub hx hb dX5_drop_6 ?_
  refine va_mmax hx hb (hml.trans hl.1.symm) hown w_1 w_2 w_3 w_4 (by decide) (Nat.le_of_ble_eq_true rfl) (by omega) (by omega) dX5_drop_7 ?_
  refine lv_topi (fun v_81 ev_81 => ?_)
  refine lv_istore_n (lv' := [(2, .int v_81), (0, .ref h), (1, .int bytes)]) hx hb dX5_drop_10 rfl hl (by decide) rfl (fun ls_82 hl_82 => ?_)
  clear hl
  refine lv_iconst (v := 0) hx hb dX5_drop_11 (by decide) ?_
  refine lv_istore_n (lv' := [(3, .int 0), (2, .int v_81), (0, .ref h), (1, .int bytes)]) hx hb dX5_drop_12 rfl hl_82 (by decide) rfl (fun ls_83 hl_83 => ?_)
  clear hl_82
  have hcl_108 := g_clamp_lt v_81
  refine g_up (N := v_81.toNatClampNeg) (B_X5_drop_13 n bytes) (r : gRow) (Inv := fun i_0 z_109 H_0 locs_0 ls_0 => lv_has ls_0 4 [(3, .int (nI i_0)), (2, .int v_81), (0, .ref h), (1, .int bytes)] ∧ va_P E.1 vwCl [(h, .inr (6, [.ref a, .int z_109.1])), (a, .inl (E.2.1, n, .inl z_109.2))] H_0 ∧ va_D A [(h, .inr (6, [.ref a, .int z_109.1])), (a, .inl (E.2.1, n, .inl z_109.2))] ∧ va_S A s.heap H_0 locs_0) (G := fun H_0 locs_0 ls_0 => W _ _ _ _ _ _ _ _ _ _ H_0 locs_0 _ _ _ (F0 _ 13 ls_0 [])) ?_ ?_ ⟨lv_sub hl_83 [0, 1, 2, 3] rfl, hP, hD, hS⟩
  · intro j_110 i_110 z_110 H_110 locs_110 ls_110 hij_110 hz_110 hI_110 ih_110
    obtain ⟨hl_110, hP_110, hD_110, hS_110⟩ := hI_110
    replace hl_110 : lv_has ls_110 4 [(3, .int (nI i_110)), (2, .int v_81), (0, .ref h), (1, .int bytes)] := hl_110
    replace hP_110 : va_P E.1 vwCl [(h, .inr (6, [.ref a, .int z_110.1])), (a, .inl (E.2.1, n, .inl z_110.2))] H_110 := hP_110
    replace hD_110 : va_D A [(h, .inr (6, [.ref a, .int z_110.1])), (a, .inl (E.2.1, n, .inl z_110.2))] := hD_110
    clear hl_83 hP hD hS
    refine lv_iload_n hx hb dX5_drop_13 rfl (lv_at hl_110 0 rfl) ?_
    refine lv_iload_n hx hb dX5_drop_14 rfl (lv_at hl_110 1 rfl) ?_
    refine lv_icmp_ge (tgt := 36) hx hb dX5_drop_15 (by decide) (fun c_111 => (by have c_111 := (g_rle (by omega)).mp c_111; exfalso; omega)) (fun c_111 => ?_)
    replace c_111 : ¬ v_81.toNatClampNeg ≤ i_110 := (not_congr (g_rle (by omega))).mp c_111
    refine lv_aload_n hx hb dX5_drop_18 rfl (lv_at hl_110 2 rfl) ?_
    refine lv_iload_n hx hb dX5_drop_19 rfl (lv_at hl_110 0 rfl) ?_
    refine lv_aload_n hx hb dX5_drop_20 rfl (lv_at hl_110 2 rfl) ?_
    refine lv_iload_n hx hb dX5_drop_21 rfl (lv_at hl_110 0 rfl) ?_
    refine lv_iload_n hx hb dX5_drop_22 rfl (lv_at hl_110 3 rfl) ?_
    refine lv_iadd hx hb dX5_drop_23 ?_
    refine gVi hF hl_110 hV hP_110 hD_110 hS_110 hA [0, 1] [] (wc := [(h, .inr (6, [.ref a, .int z_110.1])), (a, .inl (E.2.1, n, .inl z_110.2))]) (wr := []) rfl rfl rfl (by decide) 0 6 rfl rfl rfl (k_X5_at E l h a n z_110 ((nI i_110) + bytes) (by omega)) (cwV 1 hts gX5_drop_X5_at rfl rfl rfl (by decide +kernel) ⟨Nat.le_of_ble_eq_true rfl, Nat.le_of_ble_eq_true rfl⟩) rfl rfl rfl (Nat.le_of_ble_eq_true rfl) dX5_drop_24 ⟨Nat.le_of_ble_eq_true rfl, Nat.le_of_ble_eq_true rfl⟩ (fun r_112 _ H_113 locs_113 hu_112 hP_113 hD_113 hS_113 => ?_)
    have er_112 : r_112 = F_X5_at n z_110 ((nI i_110) + bytes) := hu_112
    clear hu_112
    replace hP_113 : va_P E.1 vwCl [(h, .inr (6, [.ref a, .int z_110.1])), (a, .inl (E.2.1, n, .inl z_110.2))] H_113 := hP_113
    replace hD_113 : va_D A [(h, .inr (6, [.ref a, .int z_110.1])), (a, .inl (E.2.1, n, .inl z_110.2))] := hD_113
    clear hP_110 hD_110 hS_110
    refine gVv hF hl_110 hV hP_113 hD_113 hS_113 hA [0, 1] [] (wc := [(h, .inr (6, [.ref a, .int z_110.1])), (a, .inl (E.2.1, n, .inl z_110.2))]) (wr := []) rfl rfl rfl (by decide) 0 6 rfl rfl rfl (k_X5_put E l h a n z_110 (nI i_110) r_112 (by omega)) (cwV 2 hts gX5_drop_X5_put rfl rfl rfl (by decide +kernel) ⟨Nat.le_of_ble_eq_true rfl, Nat.le_of_ble_eq_true rfl⟩) rfl rfl rfl (Nat.le_of_ble_eq_true rfl) dX5_drop_27 ⟨Nat.le_of_ble_eq_true rfl, Nat.le_of_ble_eq_true rfl⟩ (fun u_114 H_115 locs_115 hu_114 hP_115 hD_115 hS_115 => ?_)
    replace hu_114 : u_114 = F_X5_put n z_110 (nI i_110) r_112 := hu_114
    replace hP_115 : va_P E.1 vwCl [(h, .inr (6, [.ref a, .int u_114.1])), (a, .inl (E.2.1, n, .inl u_114.2))] H_115 := hP_115
    replace hD_115 : va_D A [(h, .inr (6, [.ref a, .int u_114.1])), (a, .inl (E.2.1, n, .inl u_114.2))] := hD_115
    clear hP_113 hD_113 hS_113
    refine lv_iinc (v := (nI (i_110 + 1))) (lv' := [(3, .int (nI (i_110 + 1))), (2, .int v_81), (0, .ref h), (1, .int bytes)]) hx hb dX5_drop_30 hl_110 (k := 0) rfl (nI_add _ 1) (by decide) rfl (fun ls_116 hl_116 => ?_)
    clear hl_110
    refine lv_goto (tgt := 13) hx hb dX5_drop_33 (by decide) ?_
    exact ih_110 (u_114 : gRow) _ _ _ (((show (B_X5_drop_13 n bytes) i_110 z_110 = _ from (gLet_eq er_112 (gLet_eq hu_114 rfl))).symm.trans (congrArg ((B_X5_drop_13 n bytes) i_110) hz_110)).trans (itr_s _ _ _).symm) ⟨lv_sub hl_116 [0, 1, 2, 3] rfl, (hP_115.sub [0, 1] rfl), (hD_115.sub [0, 1] (by decide) rfl), hS_115⟩
  · intro z_117 H_117 locs_117 ls_117 hz_117 hI_117
    obtain ⟨hl_117, hP_117, hD_117, hS_117⟩ := hI_117
    replace hl_117 : lv_has ls_117 4 [(3, .int (nI (v_81.toNatClampNeg))), (2, .int v_81), (0, .ref h), (1, .int bytes)] := hl_117
    replace hP_117 : va_P E.1 vwCl [(h, .inr (6, [.ref a, .int z_117.1])), (a, .inl (E.2.1, n, .inl z_117.2))] H_117 := hP_117
    replace hD_117 : va_D A [(h, .inr (6, [.ref a, .int z_117.1])), (a, .inl (E.2.1, n, .inl z_117.2))] := hD_117
    clear hl_83 hP hD hS
    refine lv_iload_n hx hb dX5_drop_13 rfl (lv_at hl_117 0 rfl) ?_
    refine lv_iload_n hx hb dX5_drop_14 rfl (lv_at hl_117 1 rfl) ?_
    refine lv_icmp_ge (tgt := 36) hx hb dX5_drop_15 (by decide) (fun c_118 => ?_) (fun c_118 => (by have c_118 := (not_congr (g_rle (by omega))).mp c_118; exfalso; omega))
    replace c_118 : v_81.toNatClampNeg ≤ v_81.toNatClampNeg := (g_rle (by omega)).mp c_118
    refine lv_aload_n hx hb dX5_drop_36 rfl (lv_at hl_117 2 rfl) ?_
    refine lv_iload_n hx hb dX5_drop_37 rfl (lv_at hl_117 1 rfl) ?_
    refine gVv hF hl_117 hV hP_117 hD_117 hS_117 hA [0] [1] (wc := [(h, .inr (6, [.ref a, .int z_117.1]))]) (wr := [(a, .inl (E.2.1, n, .inl z_117.2))]) rfl rfl rfl (by decide) 0 6 rfl rfl rfl (k_X5_cut E l h a z_117 v_81) (cwV 1 hts gX5_drop_X5_cut rfl rfl rfl (by decide +kernel) ⟨Nat.le_of_ble_eq_true rfl, Nat.le_of_ble_eq_true rfl⟩) rfl rfl rfl (Nat.le_of_ble_eq_true rfl) dX5_drop_38 ⟨Nat.le_of_ble_eq_true rfl, Nat.le_of_ble_eq_true rfl⟩ (fun u_119 H_120 locs_120 hu_119 hP_120 hD_120 hS_120 => ?_)
    replace hu_119 : u_119 = F_X5_cut z_117 v_81 := hu_119
    replace hP_120 : va_P E.1 vwCl [(a, .inl (E.2.1, n, .inl z_117.2)), (h, .inr (6, [.ref a, .int u_119.1]))] H_120 := hP_120
    replace hD_120 : va_D A [(a, .inl (E.2.1, n, .inl z_117.2)), (h, .inr (6, [.ref a, .int u_119.1]))] := hD_120
    clear hP_117 hD_117 hS_117
    have hpost : ((u_119.1, z_117.2) : gRow) = F_X5_drop n r bytes := (show F_X5_drop n r bytes = ((u_119.1, z_117.2) : gRow) from (gLet_eq ev_81 (gLet_eq hz_117 (gLet_eq hu_119 rfl)))).symm
    have hP9 := hP_120.sub (ws' := [(h, .inr (6, [.ref a, .int u_119.1])), (a, .inl (E.2.1, n, .inl z_117.2))]) [1, 0] rfl
    have hD9 := hD_120.sub (ws' := [(h, .inr (6, [.ref a, .int u_119.1])), (a, .inl (E.2.1, n, .inl z_117.2))]) [1, 0] (by decide) rfl
    exact W.vret hx hb hr (fun t ht hW => ⟨⟨(u_119.1, z_117.2), rfl, hpost, by rw [ht]; exact hP9, hD9⟩, hS_120.F ht⟩) hS_120.2.2 dX5_drop_41
set_option maxHeartbeats 4000000 in
set_option maxRecDepth 100000 in
theorem k_X5_startsLike (E : gE) (l : Launch) (h h2 a a2 : Nat) (n : Nat) (n2 : Nat) (r : gRow) (q : gRow) (bytes : Int32) (hn : n < 2147483648) (hn2 : n2 < 2147483648) : gMi E l yX5_startsLike wsX5_startsLike ({ frames := 1, cells := 0, slots := 0, locals := 21 }) 0 0 [.ref h, .ref h2, .int bytes] [(h, .inr (6, [.ref a, .int r.1])), (a, .inl (E.2.1, n, .inl r.2)), (h2, .inr (6, [.ref a2, .int q.1])), (a2, .inl (E.2.1, n2, .inl q.2))] (fun (rr : Int32) (_ : Unit) => rr = F_X5_startsLike n n2 r q bytes) (fun (_ : Unit) => [(h, .inr (6, [.ref a, .int r.1])), (a, .inl (E.2.1, n, .inl r.2)), (h2, .inr (6, [.ref a2, .int q.1])), (a2, .inl (E.2.1, n2, .inl q.2))]) := by
  intro sz
  refine Met.ofW (cc := cX5_startsLike) (maxL := 4) (ret := (some .boolean)) (by decide) rfl ?_
  intro p e s m args below meth c s₁ B hml hv
  obtain ⟨rfl, hsz, hP, hV, hD0⟩ := hv
  have hx := B.exec
  have hb := B.bytes
  have hr := B.returns
  have hts := atoms_spec (ws := wsX5_startsLike) B.pre
  have hown : s.vm.findClass RX5 = some m.cls := findClass_of_methodNamed B.named
  have hlocks := B.notSynchronized
  subst hsz
  have hD := hD0.self (sz := s.heap.size)
  clear hD0
  generalize hAe : va_A [(h, .inr (6, [.ref a, .int r.1])), (a, .inl (E.2.1, n, .inl r.2)), (h2, .inr (6, [.ref a2, .int q.1])), (a2, .inl (E.2.1, n2, .inl q.2))] s.heap.size = A at hD hV ⊢
  have hA : ∀ q : Nat, s.heap.size ≤ q → A q := fun q h => by rw [← hAe]; exact Or.inr h
  have hS : va_S A s.heap s.heap [] := va_S.rf
  have hK := hV.1
  have hF : CallFix p m c cX5_startsLike 4 s _ wsX5_startsLike RX5 := ⟨hx, hb, hml, hown, hts⟩
  have hl := lv_entry [.ref h, .ref h2, .int bytes] (n := 4) (Nat.le_of_ble_eq_true rfl)
  rw [lg_entry_eq]
  generalize (lg_sl [.ref h, .ref h2, .int bytes] ++ List.replicate (4 - (lg_sl [.ref h, .ref h2, .int bytes]).length) Slot.unset).toArray = ls at hl ⊢
  have hl : lv_has ls 4 [(0, .ref h), (1, .ref h2), (2, .int bytes)] := hl
  refine lv_iconst (v := 0) hx hb dX5_startsLike_0 (by decide) ?_
  refine lv_istore_n (lv' := [(3, .int 0), (0, .ref h), (1, .ref h2), (2, .int bytes)]) hx hb dX5_startsLike_1 rfl hl (by decide) rfl (fun ls_71 hl_71 => ?_)
  clear hl
  have hcl := g_clamp_lt bytes
  have hfl := g_first_le (fun k => decide (¬ F_X5_at n r (nI k) = F_X5_at n2 q (nI k))) bytes.toNatClampNeg
  refine g_up (N := (g_first (fun k => decide (¬ F_X5_at n r (nI k) = F_X5_at n2 q (nI k))) bytes.toNatClampNeg)) (B_X5_startsLike_2 n r n2 q) (() : Unit) (Inv := fun i_0 z_90 H_0 locs_0 ls_0 => lv_has ls_0 4 [(3, .int (nI i_0)), (0, .ref h), (1, .ref h2), (2, .int bytes)] ∧ va_P E.1 vwCl [(h, .inr (6, [.ref a, .int r.1])), (a, .inl (E.2.1, n, .inl r.2)), (h2, .inr (6, [.ref a2, .int q.1])), (a2, .inl (E.2.1, n2, .inl q.2))] H_0 ∧ va_D A [(h, .inr (6, [.ref a, .int r.1])), (a, .inl (E.2.1, n, .inl r.2)), (h2, .inr (6, [.ref a2, .int q.1])), (a2, .inl (E.2.1, n2, .inl q.2))] ∧ va_S A s.heap H_0 locs_0) (G := fun H_0 locs_0 ls_0 => W _ _ _ _ _ _ _ _ _ _ H_0 locs_0 _ _ _ (F0 _ 2 ls_0 [])) ?_ ?_ ⟨lv_sub hl_71 [0, 1, 2, 3] rfl, hP, hD, hS⟩
  · intro j_91 i_91 z_91 H_91 locs_91 ls_91 hij_91 hz_91 hI_91 ih_91
    obtain ⟨hl_91, hP_91, hD_91, hS_91⟩ := hI_91
    replace hl_91 : lv_has ls_91 4 [(3, .int (nI i_91)), (0, .ref h), (1, .ref h2), (2, .int bytes)] := hl_91
    replace hP_91 : va_P E.1 vwCl [(h, .inr (6, [.ref a, .int r.1])), (a, .inl (E.2.1, n, .inl r.2)), (h2, .inr (6, [.ref a2, .int q.1])), (a2, .inl (E.2.1, n2, .inl q.2))] H_91 := hP_91
    replace hD_91 : va_D A [(h, .inr (6, [.ref a, .int r.1])), (a, .inl (E.2.1, n, .inl r.2)), (h2, .inr (6, [.ref a2, .int q.1])), (a2, .inl (E.2.1, n2, .inl q.2))] := hD_91
    clear hl_71 hP hD hS
    refine lv_iload_n hx hb dX5_startsLike_2 rfl (lv_at hl_91 0 rfl) ?_
    refine lv_iload_n hx hb dX5_startsLike_3 rfl (lv_at hl_91 3 rfl) ?_
    refine lv_icmp_ge (tgt := 28) hx hb dX5_startsLike_4 (by decide) (fun c_92 => (by have c_92 := (g_rle (by omega)).mp c_92; exfalso; omega)) (fun c_92 => ?_)
    replace c_92 : ¬ bytes.toNatClampNeg ≤ i_91 := (not_congr (g_rle (by omega))).mp c_92
    refine lv_aload_n hx hb dX5_startsLike_7 rfl (lv_at hl_91 1 rfl) ?_
    refine lv_iload_n hx hb dX5_startsLike_8 rfl (lv_at hl_91 0 rfl) ?_
    refine gVi hF hl_91 hV hP_91 hD_91 hS_91 hA [0, 1] [2, 3] (wc := [(h, .inr (6, [.ref a, .int r.1])), (a, .inl (E.2.1, n, .inl r.2))]) (wr := [(h2, .inr (6, [.ref a2, .int q.1])), (a2, .inl (E.2.1, n2, .inl q.2))]) rfl rfl rfl (by decide) 0 6 rfl rfl rfl (k_X5_at E l h a n r (nI i_91) (by omega)) (cwV 1 hts gX5_startsLike_X5_at rfl rfl rfl (by decide +kernel) ⟨Nat.le_of_ble_eq_true rfl, Nat.le_of_ble_eq_true rfl⟩) rfl rfl rfl (Nat.le_of_ble_eq_true rfl) dX5_startsLike_9 ⟨Nat.le_of_ble_eq_true rfl, Nat.le_of_ble_eq_true rfl⟩ (fun r_93 _ H_94 locs_94 hu_93 hP_94 hD_94 hS_94 => ?_)
    have er_93 : r_93 = F_X5_at n r (nI i_91) := hu_93
    clear hu_93
    replace hP_94 : va_P E.1 vwCl [(h2, .inr (6, [.ref a2, .int q.1])), (a2, .inl (E.2.1, n2, .inl q.2)), (h, .inr (6, [.ref a, .int r.1])), (a, .inl (E.2.1, n, .inl r.2))] H_94 := hP_94
    replace hD_94 : va_D A [(h2, .inr (6, [.ref a2, .int q.1])), (a2, .inl (E.2.1, n2, .inl q.2)), (h, .inr (6, [.ref a, .int r.1])), (a, .inl (E.2.1, n, .inl r.2))] := hD_94
    clear hP_91 hD_91 hS_91
    refine lv_aload_n hx hb dX5_startsLike_12 rfl (lv_at hl_91 2 rfl) ?_
    refine lv_iload_n hx hb dX5_startsLike_13 rfl (lv_at hl_91 0 rfl) ?_
    refine gVi hF hl_91 hV hP_94 hD_94 hS_94 hA [0, 1] [2, 3] (wc := [(h2, .inr (6, [.ref a2, .int q.1])), (a2, .inl (E.2.1, n2, .inl q.2))]) (wr := [(h, .inr (6, [.ref a, .int r.1])), (a, .inl (E.2.1, n, .inl r.2))]) rfl rfl rfl (by decide) 0 6 rfl rfl rfl (k_X5_at E l h2 a2 n2 q (nI i_91) (by omega)) (cwV 1 hts gX5_startsLike_X5_at rfl rfl rfl (by decide +kernel) ⟨Nat.le_of_ble_eq_true rfl, Nat.le_of_ble_eq_true rfl⟩) rfl rfl rfl (Nat.le_of_ble_eq_true rfl) dX5_startsLike_14 ⟨Nat.le_of_ble_eq_true rfl, Nat.le_of_ble_eq_true rfl⟩ (fun r_95 _ H_96 locs_96 hu_95 hP_96 hD_96 hS_96 => ?_)
    have er_95 : r_95 = F_X5_at n2 q (nI i_91) := hu_95
    clear hu_95
    replace hP_96 : va_P E.1 vwCl [(h, .inr (6, [.ref a, .int r.1])), (a, .inl (E.2.1, n, .inl r.2)), (h2, .inr (6, [.ref a2, .int q.1])), (a2, .inl (E.2.1, n2, .inl q.2))] H_96 := hP_96
    replace hD_96 : va_D A [(h, .inr (6, [.ref a, .int r.1])), (a, .inl (E.2.1, n, .inl r.2)), (h2, .inr (6, [.ref a2, .int q.1])), (a2, .inl (E.2.1, n2, .inl q.2))] := hD_96
    clear hP_94 hD_94 hS_94
    refine lv_icmp_eq (tgt := 22) hx hb dX5_startsLike_17 (by decide) (fun c_97 => ?_) (fun c_97 => (by exfalso; have q9 := g_first_no (fun k => decide (¬ F_X5_at n r (nI k) = F_X5_at n2 q (nI k))) bytes.toNatClampNeg i_91 (by omega); exact c_97 (by rw [er_93, er_95]; exact Decidable.of_not_not (of_decide_eq_false q9))))
    replace c_97 : r_93 = r_95 := c_97
    refine lv_iinc (v := (nI (i_91 + 1))) (lv' := [(3, .int (nI (i_91 + 1))), (0, .ref h), (1, .ref h2), (2, .int bytes)]) hx hb dX5_startsLike_22 hl_91 (k := 0) rfl (nI_add _ 1) (by decide) rfl (fun ls_98 hl_98 => ?_)
    clear hl_91
    refine lv_goto (tgt := 2) hx hb dX5_startsLike_25 (by decide) ?_
    exact ih_91 (() : Unit) _ _ _ rfl ⟨lv_sub hl_98 [0, 1, 2, 3] rfl, (hP_96.sub [0, 1, 2, 3] rfl), (hD_96.sub [0, 1, 2, 3] (by decide) rfl), hS_96⟩
  · intro z_99 H_99 locs_99 ls_99 hz_99 hI_99
    obtain ⟨hl_99, hP_99, hD_99, hS_99⟩ := hI_99
    replace hl_99 : lv_has ls_99 4 [(3, .int (nI ((g_first (fun k => decide (¬ F_X5_at n r (nI k) = F_X5_at n2 q (nI k))) bytes.toNatClampNeg)))), (0, .ref h), (1, .ref h2), (2, .int bytes)] := hl_99
    replace hP_99 : va_P E.1 vwCl [(h, .inr (6, [.ref a, .int r.1])), (a, .inl (E.2.1, n, .inl r.2)), (h2, .inr (6, [.ref a2, .int q.1])), (a2, .inl (E.2.1, n2, .inl q.2))] H_99 := hP_99
    replace hD_99 : va_D A [(h, .inr (6, [.ref a, .int r.1])), (a, .inl (E.2.1, n, .inl r.2)), (h2, .inr (6, [.ref a2, .int q.1])), (a2, .inl (E.2.1, n2, .inl q.2))] := hD_99
    clear hl_71 hP hD hS
    refine lv_iload_n hx hb dX5_startsLike_2 rfl (lv_at hl_99 0 rfl) ?_
    refine lv_iload_n hx hb dX5_startsLike_3 rfl (lv_at hl_99 3 rfl) ?_
    refine lv_icmp_ge (tgt := 28) hx hb dX5_startsLike_4 (by decide) (fun c_100 => ?_) (fun c_100 => ?_)
    · replace c_100 : bytes.toNatClampNeg ≤ (g_first (fun k => decide (¬ F_X5_at n r (nI k) = F_X5_at n2 q (nI k))) bytes.toNatClampNeg) := (g_rle (by omega)).mp c_100
      refine lv_iconst (v := 1) hx hb dX5_startsLike_28 (by decide) ?_
      have hpost : (1 : Int32) = F_X5_startsLike n n2 r q bytes := (show F_X5_startsLike n n2 r q bytes = (1 : Int32) from ((if_pos c_100).trans rfl)).symm
      have hP9 := hP_99.sub (ws' := [(h, .inr (6, [.ref a, .int r.1])), (a, .inl (E.2.1, n, .inl r.2)), (h2, .inr (6, [.ref a2, .int q.1])), (a2, .inl (E.2.1, n2, .inl q.2))]) [0, 1, 2, 3] rfl
      have hD9 := hD_99.sub (ws' := [(h, .inr (6, [.ref a, .int r.1])), (a, .inl (E.2.1, n, .inl r.2)), (h2, .inr (6, [.ref a2, .int q.1])), (a2, .inl (E.2.1, n2, .inl q.2))]) [0, 1, 2, 3] (by decide) rfl
      exact W.zret (v := 1) hx hb hr rfl (fun t ht hW => ⟨⟨1, (), rfl, hpost, by rw [ht]; exact hP9, hD9⟩, hS_99.F ht⟩) hS_99.2.2 dX5_startsLike_29
    · replace c_100 : ¬ bytes.toNatClampNeg ≤ (g_first (fun k => decide (¬ F_X5_at n r (nI k) = F_X5_at n2 q (nI k))) bytes.toNatClampNeg) := (not_congr (g_rle (by omega))).mp c_100
      refine lv_aload_n hx hb dX5_startsLike_7 rfl (lv_at hl_99 1 rfl) ?_
      refine lv_iload_n hx hb dX5_startsLike_8 rfl (lv_at hl_99 0 rfl) ?_
      refine gVi hF hl_99 hV hP_99 hD_99 hS_99 hA [0, 1] [2, 3] (wc := [(h, .inr (6, [.ref a, .int r.1])), (a, .inl (E.2.1, n, .inl r.2))]) (wr := [(h2, .inr (6, [.ref a2, .int q.1])), (a2, .inl (E.2.1, n2, .inl q.2))]) rfl rfl rfl (by decide) 0 6 rfl rfl rfl (k_X5_at E l h a n r (nI ((g_first (fun k => decide (¬ F_X5_at n r (nI k) = F_X5_at n2 q (nI k))) bytes.toNatClampNeg))) (by omega)) (cwV 1 hts gX5_startsLike_X5_at rfl rfl rfl (by decide +kernel) ⟨Nat.le_of_ble_eq_true rfl, Nat.le_of_ble_eq_true rfl⟩) rfl rfl rfl (Nat.le_of_ble_eq_true rfl) dX5_startsLike_9 ⟨Nat.le_of_ble_eq_true rfl, Nat.le_of_ble_eq_true rfl⟩ (fun r_101 _ H_102 locs_102 hu_101 hP_102 hD_102 hS_102 => ?_)
      have er_101 : r_101 = F_X5_at n r (nI ((g_first (fun k => decide (¬ F_X5_at n r (nI k) = F_X5_at n2 q (nI k))) bytes.toNatClampNeg))) := hu_101
      clear hu_101
      replace hP_102 : va_P E.1 vwCl [(h2, .inr (6, [.ref a2, .int q.1])), (a2, .inl (E.2.1, n2, .inl q.2)), (h, .inr (6, [.ref a, .int r.1])), (a, .inl (E.2.1, n, .inl r.2))] H_102 := hP_102
      replace hD_102 : va_D A [(h2, .inr (6, [.ref a2, .int q.1])), (a2, .inl (E.2.1, n2, .inl q.2)), (h, .inr (6, [.ref a, .int r.1])), (a, .inl (E.2.1, n, .inl r.2))] := hD_102
      clear hP_99 hD_99 hS_99
      refine lv_aload_n hx hb dX5_startsLike_12 rfl (lv_at hl_99 2 rfl) ?_
      refine lv_iload_n hx hb dX5_startsLike_13 rfl (lv_at hl_99 0 rfl) ?_
      refine gVi hF hl_99 hV hP_102 hD_102 hS_102 hA [0, 1] [2, 3] (wc := [(h2, .inr (6, [.ref a2, .int q.1])), (a2, .inl (E.2.1, n2, .inl q.2))]) (wr := [(h, .inr (6, [.ref a, .int r.1])), (a, .inl (E.2.1, n, .inl r.2))]) rfl rfl rfl (by decide) 0 6 rfl rfl rfl (k_X5_at E l h2 a2 n2 q (nI ((g_first (fun k => decide (¬ F_X5_at n r (nI k) = F_X5_at n2 q (nI k))) bytes.toNatClampNeg))) (by omega)) (cwV 1 hts gX5_startsLike_X5_at rfl rfl rfl (by decide +kernel) ⟨Nat.le_of_ble_eq_true rfl, Nat.le_of_ble_eq_true rfl⟩) rfl rfl rfl (Nat.le_of_ble_eq_true rfl) dX5_startsLike_14 ⟨Nat.le_of_ble_eq_true rfl, Nat.le_of_ble_eq_true rfl⟩ (fun r_103 _ H_104 locs_104 hu_103 hP_104 hD_104 hS_104 => ?_)
      have er_103 : r_103 = F_X5_at n2 q (nI ((g_first (fun k => decide (¬ F_X5_at n r (nI k) = F_X5_at n2 q (nI k))) bytes.toNatClampNeg))) := hu_103
      clear hu_103
      replace hP_104 : va_P E.1 vwCl [(h, .inr (6, [.ref a, .int r.1])), (a, .inl (E.2.1, n, .inl r.2)), (h2, .inr (6, [.ref a2, .int q.1])), (a2, .inl (E.2.1, n2, .inl q.2))] H_104 := hP_104
      replace hD_104 : va_D A [(h, .inr (6, [.ref a, .int r.1])), (a, .inl (E.2.1, n, .inl r.2)), (h2, .inr (6, [.ref a2, .int q.1])), (a2, .inl (E.2.1, n2, .inl q.2))] := hD_104
      clear hP_102 hD_102 hS_102
      refine lv_icmp_eq (tgt := 22) hx hb dX5_startsLike_17 (by decide) (fun c_105 => (by exfalso; have q9 := of_decide_eq_true (g_first_yes (fun k => decide (¬ F_X5_at n r (nI k) = F_X5_at n2 q (nI k))) bytes.toNatClampNeg (by omega)); exact q9 (by rw [← er_101, ← er_103]; exact c_105))) (fun c_105 => ?_)
      replace c_105 : ¬ (r_101 = r_103) := c_105
      refine lv_iconst (v := 0) hx hb dX5_startsLike_20 (by decide) ?_
      have hpost : (0 : Int32) = F_X5_startsLike n n2 r q bytes := (show F_X5_startsLike n n2 r q bytes = (0 : Int32) from ((if_neg c_100).trans (gLet_eq er_101 (gLet_eq er_103 rfl)))).symm
      have hP9 := hP_104.sub (ws' := [(h, .inr (6, [.ref a, .int r.1])), (a, .inl (E.2.1, n, .inl r.2)), (h2, .inr (6, [.ref a2, .int q.1])), (a2, .inl (E.2.1, n2, .inl q.2))]) [0, 1, 2, 3] rfl
      have hD9 := hD_104.sub (ws' := [(h, .inr (6, [.ref a, .int r.1])), (a, .inl (E.2.1, n, .inl r.2)), (h2, .inr (6, [.ref a2, .int q.1])), (a2, .inl (E.2.1, n2, .inl q.2))]) [0, 1, 2, 3] (by decide) rfl
      exact W.zret (v := 0) hx hb hr rfl (fun t ht hW => ⟨⟨0, (), rfl, hpost, by rw [ht]; exact hP9, hD9⟩, hS_104.F ht⟩) hS_104.2.2 dX5_startsLike_21
