set_option maxHeartbeats 4000000 in
set_option maxRecDepth 100000 in
theorem k_X7_swap (E : gE) (l : Launch) (h qm : Nat) (mx : Nat → Int32) (i : Int32) (j : Int32) : gMv E l yX7_swap wsX7_swap ({ frames := 0, cells := 0, slots := 0, locals := 0 }) 0 0 [.ref h, .int i, .int j] [(h, .inr (8, [.ref qm])), (qm, .inl (E.2.1, 256, .inl mx))] (fun (uu : Nat → Int32) => uu = F_X7_swap mx i j) (fun (uu : Nat → Int32) => [(h, .inr (8, [.ref qm])), (qm, .inl (E.2.1, 256, .inl uu))]) := by
  intro sz
  refine Met.ofW (cc := cX7_swap) (maxL := 4) (ret := none) (by decide) rfl ?_
  intro p e s m args below meth c s₁ B hml hv
  obtain ⟨rfl, hsz, hP, hV, hD0⟩ := hv
  have hx := B.exec
  have hb := B.bytes
  have hr := B.returns
  have hts := atoms_spec (ws := wsX7_swap) B.pre
  have hown : s.vm.findClass RX7 = some m.cls := findClass_of_methodNamed B.named
  have hlocks := B.notSynchronized
  subst hsz
  have hD := hD0.self (sz := s.heap.size)
  clear hD0
  generalize hAe : va_A [(h, .inr (8, [.ref qm])), (qm, .inl (E.2.1, 256, .inl mx))] s.heap.size = A at hD hV ⊢
  have hA : ∀ q : Nat, s.heap.size ≤ q → A q := fun q h => by rw [← hAe]; exact Or.inr h
  have hS : va_S A s.heap s.heap [] := va_S.rf
  have hK := hV.1
  have hF : CallFix p m c cX7_swap 4 s _ wsX7_swap RX7 := ⟨hx, hb, hml, hown, hts⟩
  have hl := lv_entry [.ref h, .int i, .int j] (n := 4) (Nat.le_of_ble_eq_true rfl)
  rw [lg_entry_eq]
  generalize (lg_sl [.ref h, .int i, .int j] ++ List.replicate (4 - (lg_sl [.ref h, .int i, .int j]).length) Slot.unset).toArray = ls at hl ⊢
  have hl : lv_has ls 4 [(0, .ref h), (1, .int i), (2, .int j)] := hl
  have in_X7 : ∀ w ∈ wsX70, w ∈ wsX7_swap := by decide +kernel
  have w_0 := hts (.fieldLink RX7 7 "CryptRows$Stream" "mixed" "[I") (by decide +kernel)
  refine lv_aload_n hx hb dX7_swap_0 rfl (lv_at hl 0 rfl) ?_
  refine va_get (D := E.1) (ci := 8) (v := .ref qm) (C := RX7) (T := TX7) (N := 1) hx hb hts in_X7 hown hK hP 0 rfl rfl 0 (by decide) w_0 (fun _ h9 => h9) rfl dX7_swap_1 ?_
  refine lv_iload_n hx hb dX7_swap_4 rfl (lv_at hl 1 rfl) ?_
  refine lv_sipush (v := 255) hx hb dX7_swap_5 (by decide) ?_
  refine lv_iand hx hb dX7_swap_8 ?_
  refine va_iald hx hb hK hP 1 0 rfl rfl (pk_andIn _ 8 (by decide) (by decide)) dX7_swap_9 ?_
  refine lv_istore_n (lv' := [(3, .int (mx (i &&& 255).toNatClampNeg)), (0, .ref h), (1, .int i), (2, .int j)]) hx hb dX7_swap_10 rfl hl (by decide) rfl (fun ls_7 hl_7 => ?_)
  clear hl
  refine lv_aload_n hx hb dX7_swap_11 rfl (lv_at hl_7 1 rfl) ?_
  refine va_get (D := E.1) (ci := 8) (v := .ref qm) (C := RX7) (T := TX7) (N := 1) hx hb hts in_X7 hown hK hP 0 rfl rfl 0 (by decide) w_0 (fun _ h9 => h9) rfl dX7_swap_12 ?_
  refine lv_iload_n hx hb dX7_swap_15 rfl (lv_at hl_7 2 rfl) ?_
  refine lv_sipush (v := 255) hx hb dX7_swap_16 (by decide) ?_
  refine lv_iand hx hb dX7_swap_19 ?_
  refine lv_aload_n hx hb dX7_swap_20 rfl (lv_at hl_7 1 rfl) ?_
  refine va_get (D := E.1) (ci := 8) (v := .ref qm) (C := RX7) (T := TX7) (N := 1) hx hb hts in_X7 hown hK hP 0 rfl rfl 0 (by decide) w_0 (fun _ h9 => h9) rfl dX7_swap_21 ?_
  refine lv_iload_n hx hb dX7_swap_24 rfl (lv_at hl_7 3 rfl) ?_
  refine lv_sipush (v := 255) hx hb dX7_swap_25 (by decide) ?_
  refine lv_iand hx hb dX7_swap_28 ?_
  refine va_iald hx hb hK hP 1 0 rfl rfl (pk_andIn _ 8 (by decide) (by decide)) dX7_swap_29 ?_
  refine va_iast hx hb hK hP hD hS 1 0 rfl rfl (pk_andIn _ 8 (by decide) (by decide)) dX7_swap_30 (fun H_8 locs_8 hP_8 hD_8 hS_8 => ?_)
  replace hP_8 : va_P E.1 vwCl [(h, .inr (8, [.ref qm])), (qm, .inl (E.2.1, 256, .inl (upd mx (i &&& 255).toNatClampNeg (mx (j &&& 255).toNatClampNeg))))] H_8 := hP_8
  replace hD_8 : va_D A [(h, .inr (8, [.ref qm])), (qm, .inl (E.2.1, 256, .inl (upd mx (i &&& 255).toNatClampNeg (mx (j &&& 255).toNatClampNeg))))] := hD_8
  clear hP hD hS
  refine lv_aload_n hx hb dX7_swap_31 rfl (lv_at hl_7 1 rfl) ?_
  refine va_get (D := E.1) (ci := 8) (v := .ref qm) (C := RX7) (T := TX7) (N := 1) hx hb hts in_X7 hown hK hP_8 0 rfl rfl 0 (by decide) w_0 (fun _ h9 => h9) rfl dX7_swap_32 ?_
  refine lv_iload_n hx hb dX7_swap_35 rfl (lv_at hl_7 3 rfl) ?_
  refine lv_sipush (v := 255) hx hb dX7_swap_36 (by decide) ?_
  refine lv_iand hx hb dX7_swap_39 ?_
  refine lv_iload_n hx hb dX7_swap_40 rfl (lv_at hl_7 0 rfl) ?_
  refine va_iast hx hb hK hP_8 hD_8 hS_8 1 0 rfl rfl (pk_andIn _ 8 (by decide) (by decide)) dX7_swap_41 (fun H_9 locs_9 hP_9 hD_9 hS_9 => ?_)
  replace hP_9 : va_P E.1 vwCl [(h, .inr (8, [.ref qm])), (qm, .inl (E.2.1, 256, .inl (upd (upd mx (i &&& 255).toNatClampNeg (mx (j &&& 255).toNatClampNeg)) (j &&& 255).toNatClampNeg (mx (i &&& 255).toNatClampNeg))))] H_9 := hP_9
  replace hD_9 : va_D A [(h, .inr (8, [.ref qm])), (qm, .inl (E.2.1, 256, .inl (upd (upd mx (i &&& 255).toNatClampNeg (mx (j &&& 255).toNatClampNeg)) (j &&& 255).toNatClampNeg (mx (i &&& 255).toNatClampNeg))))] := hD_9
  clear hP_8 hD_8 hS_8
  have hpost : ((upd (upd mx (i &&& 255).toNatClampNeg (mx (j &&& 255).toNatClampNeg)) (j &&& 255).toNatClampNeg (mx (i &&& 255).toNatClampNeg)) : Nat → Int32) = F_X7_swap mx i j := (show F_X7_swap mx i j = ((upd (upd mx (i &&& 255).toNatClampNeg (mx (j &&& 255).toNatClampNeg)) (j &&& 255).toNatClampNeg (mx (i &&& 255).toNatClampNeg)) : Nat → Int32) from rfl).symm
  have hP9 := hP_9.sub (ws' := [(h, .inr (8, [.ref qm])), (qm, .inl (E.2.1, 256, .inl (upd (upd mx (i &&& 255).toNatClampNeg (mx (j &&& 255).toNatClampNeg)) (j &&& 255).toNatClampNeg (mx (i &&& 255).toNatClampNeg))))]) [0, 1] rfl
  have hD9 := hD_9.sub (ws' := [(h, .inr (8, [.ref qm])), (qm, .inl (E.2.1, 256, .inl (upd (upd mx (i &&& 255).toNatClampNeg (mx (j &&& 255).toNatClampNeg)) (j &&& 255).toNatClampNeg (mx (i &&& 255).toNatClampNeg))))]) [0, 1] (by decide) rfl
  exact W.vret hx hb hr (fun t ht hW => ⟨⟨(upd (upd mx (i &&& 255).toNatClampNeg (mx (j &&& 255).toNatClampNeg)) (j &&& 255).toNatClampNeg (mx (i &&& 255).toNatClampNeg)), rfl, hpost, by rw [ht]; exact hP9, hD9⟩, hS_9.F ht⟩) hS_9.2.2 dX7_swap_42
set_option maxHeartbeats 4000000 in
set_option maxRecDepth 100000 in
theorem k_X7_mixKey (E : gE) (l : Launch) (h h2 qm a2 : Nat) (n2 : Nat) (mx : Nat → Int32) (q : gRow) (wv : Int32) (hn2 : n2 < 2147483648) : gMv E l yX7_mixKey wsX7_mixKey ({ frames := 1, cells := 0, slots := 0, locals := 23 }) 0 0 [.ref h, .ref h2, .int wv] [(h, .inr (8, [.ref qm])), (qm, .inl (E.2.1, 256, .inl mx)), (h2, .inr (6, [.ref a2, .int q.1])), (a2, .inl (E.2.1, n2, .inl q.2))] (fun (uu : Nat → Int32) => uu = F_X7_mixKey n2 mx q wv) (fun (uu : Nat → Int32) => [(h, .inr (8, [.ref qm])), (qm, .inl (E.2.1, 256, .inl uu)), (h2, .inr (6, [.ref a2, .int q.1])), (a2, .inl (E.2.1, n2, .inl q.2))]) := by
  intro sz
  refine Met.ofW (cc := cX7_mixKey) (maxL := 6) (ret := none) (by decide) rfl ?_
  intro p e s m args below meth c s₁ B hml hv
  obtain ⟨rfl, hsz, hP, hV, hD0⟩ := hv
  have hx := B.exec
  have hb := B.bytes
  have hr := B.returns
  have hts := atoms_spec (ws := wsX7_mixKey) B.pre
  have hown : s.vm.findClass RX7 = some m.cls := findClass_of_methodNamed B.named
  have hlocks := B.notSynchronized
  subst hsz
  have hD := hD0.self (sz := s.heap.size)
  clear hD0
  generalize hAe : va_A [(h, .inr (8, [.ref qm])), (qm, .inl (E.2.1, 256, .inl mx)), (h2, .inr (6, [.ref a2, .int q.1])), (a2, .inl (E.2.1, n2, .inl q.2))] s.heap.size = A at hD hV ⊢
  have hA : ∀ q : Nat, s.heap.size ≤ q → A q := fun q h => by rw [← hAe]; exact Or.inr h
  have hS : va_S A s.heap s.heap [] := va_S.rf
  have hK := hV.1
  have hF : CallFix p m c cX7_mixKey 6 s _ wsX7_mixKey RX7 := ⟨hx, hb, hml, hown, hts⟩
  have hl := lv_entry [.ref h, .ref h2, .int wv] (n := 6) (Nat.le_of_ble_eq_true rfl)
  rw [lg_entry_eq]
  generalize (lg_sl [.ref h, .ref h2, .int wv] ++ List.replicate (6 - (lg_sl [.ref h, .ref h2, .int wv]).length) Slot.unset).toArray = ls at hl ⊢
  have hl : lv_has ls 6 [(0, .ref h), (1, .ref h2), (2, .int wv)] := hl
  have in_X7 : ∀ w ∈ wsX70, w ∈ wsX7_mixKey := by decide +kernel
  have w_0 := hts (.fieldLink RX7 7 "CryptRows$Stream" "mixed" "[I") (by decide +kernel)
  refine lv_iconst (v := 0) hx hb dX7_mixKey_0 (by decide) ?_
  refine lv_istore_n (lv' := [(3, .int 0), (0, .ref h), (1, .ref h2), (2, .int wv)]) hx hb dX7_mixKey_1 rfl hl (by decide) rfl (fun ls_181 hl_181 => ?_)
  clear hl
  refine g_up (N := 256) B_X7_mixKey_2 (mx : Nat → Int32) (Inv := fun i_0 z_197 H_0 locs_0 ls_0 => lv_has ls_0 6 [(3, .int (nI i_0)), (0, .ref h), (1, .ref h2), (2, .int wv)] ∧ va_P E.1 vwCl [(h, .inr (8, [.ref qm])), (qm, .inl (E.2.1, 256, .inl z_197)), (h2, .inr (6, [.ref a2, .int q.1])), (a2, .inl (E.2.1, n2, .inl q.2))] H_0 ∧ va_D A [(h, .inr (8, [.ref qm])), (qm, .inl (E.2.1, 256, .inl z_197)), (h2, .inr (6, [.ref a2, .int q.1])), (a2, .inl (E.2.1, n2, .inl q.2))] ∧ va_S A s.heap H_0 locs_0) (G := fun H_0 locs_0 ls_0 => W _ _ _ _ _ _ _ _ _ _ H_0 locs_0 _ _ _ (F0 _ 2 ls_0 [])) ?_ ?_ ⟨lv_sub hl_181 [0, 1, 2, 3] rfl, hP, hD, hS⟩
  · intro j_198 i_198 z_198 H_198 locs_198 ls_198 hij_198 hz_198 hI_198 ih_198
    obtain ⟨hl_198, hP_198, hD_198, hS_198⟩ := hI_198
    replace hl_198 : lv_has ls_198 6 [(3, .int (nI i_198)), (0, .ref h), (1, .ref h2), (2, .int wv)] := hl_198
    replace hP_198 : va_P E.1 vwCl [(h, .inr (8, [.ref qm])), (qm, .inl (E.2.1, 256, .inl z_198)), (h2, .inr (6, [.ref a2, .int q.1])), (a2, .inl (E.2.1, n2, .inl q.2))] H_198 := hP_198
    replace hD_198 : va_D A [(h, .inr (8, [.ref qm])), (qm, .inl (E.2.1, 256, .inl z_198)), (h2, .inr (6, [.ref a2, .int q.1])), (a2, .inl (E.2.1, n2, .inl q.2))] := hD_198
    clear hl_181 hP hD hS
    refine lv_iload_n hx hb dX7_mixKey_2 rfl (lv_at hl_198 0 rfl) ?_
    refine lv_sipush (v := 256) hx hb dX7_mixKey_3 (by decide) ?_
    refine lv_icmp_ge (tgt := 22) hx hb dX7_mixKey_6 (by decide) (fun c_199 => (by have c_199 := (nI_leI (a := 256) (b := i_198) (by omega) (by omega)).mp c_199; exfalso; omega)) (fun c_199 => ?_)
    replace c_199 : ¬ 256 ≤ i_198 := (not_congr (nI_leI (a := 256) (b := i_198) (by omega) (by omega))).mp c_199
    refine lv_aload_n hx hb dX7_mixKey_9 rfl (lv_at hl_198 1 rfl) ?_
    refine va_get (D := E.1) (ci := 8) (v := .ref qm) (C := RX7) (T := TX7) (N := 1) hx hb hts in_X7 hown hK hP_198 0 rfl rfl 0 (by decide) w_0 (fun _ h9 => h9) rfl dX7_mixKey_10 ?_
    refine lv_iload_n hx hb dX7_mixKey_13 rfl (lv_at hl_198 0 rfl) ?_
    refine lv_iload_n hx hb dX7_mixKey_14 rfl (lv_at hl_198 0 rfl) ?_
    refine g_iast (e0 := i_198) hx hb hK hP_198 hD_198 hS_198 1 0 rfl rfl (by omega) (by omega) dX7_mixKey_15 (fun H_200 locs_200 hP_200 hD_200 hS_200 => ?_)
    replace hP_200 : va_P E.1 vwCl [(h, .inr (8, [.ref qm])), (qm, .inl (E.2.1, 256, .inl (upd z_198 i_198 (nI i_198)))), (h2, .inr (6, [.ref a2, .int q.1])), (a2, .inl (E.2.1, n2, .inl q.2))] H_200 := hP_200
    replace hD_200 : va_D A [(h, .inr (8, [.ref qm])), (qm, .inl (E.2.1, 256, .inl (upd z_198 i_198 (nI i_198)))), (h2, .inr (6, [.ref a2, .int q.1])), (a2, .inl (E.2.1, n2, .inl q.2))] := hD_200
    clear hP_198 hD_198 hS_198
    refine lv_iinc (v := (nI (i_198 + 1))) (lv' := [(3, .int (nI (i_198 + 1))), (0, .ref h), (1, .ref h2), (2, .int wv)]) hx hb dX7_mixKey_16 hl_198 (k := 0) rfl (nI_add _ 1) (by decide) rfl (fun ls_201 hl_201 => ?_)
    clear hl_198
    refine lv_goto (tgt := 2) hx hb dX7_mixKey_19 (by decide) ?_
    exact ih_198 ((upd z_198 i_198 (nI i_198)) : Nat → Int32) _ _ _ (((show B_X7_mixKey_2 i_198 z_198 = _ from rfl).symm.trans (congrArg (B_X7_mixKey_2 i_198) hz_198)).trans (itr_s _ _ _).symm) ⟨lv_sub hl_201 [0, 1, 2, 3] rfl, (hP_200.sub [0, 1, 2, 3] rfl), (hD_200.sub [0, 1, 2, 3] (by decide) rfl), hS_200⟩
  · intro z_202 H_202 locs_202 ls_202 hz_202 hI_202
    obtain ⟨hl_202, hP_202, hD_202, hS_202⟩ := hI_202
    replace hl_202 : lv_has ls_202 6 [(3, .int (nI 256)), (0, .ref h), (1, .ref h2), (2, .int wv)] := hl_202
    replace hP_202 : va_P E.1 vwCl [(h, .inr (8, [.ref qm])), (qm, .inl (E.2.1, 256, .inl z_202)), (h2, .inr (6, [.ref a2, .int q.1])), (a2, .inl (E.2.1, n2, .inl q.2))] H_202 := hP_202
    replace hD_202 : va_D A [(h, .inr (8, [.ref qm])), (qm, .inl (E.2.1, 256, .inl z_202)), (h2, .inr (6, [.ref a2, .int q.1])), (a2, .inl (E.2.1, n2, .inl q.2))] := hD_202
    clear hl_181 hP hD hS
    refine lv_iload_n hx hb dX7_mixKey_2 rfl (lv_at hl_202 0 rfl) ?_
    refine lv_sipush (v := 256) hx hb dX7_mixKey_3 (by decide) ?_
    refine lv_icmp_ge (tgt := 22) hx hb dX7_mixKey_6 (by decide) (fun c_203 => ?_) (fun c_203 => (by have c_203 := (not_congr (nI_leI (a := 256) (b := 256) (by omega) (by omega))).mp c_203; exfalso; omega))
    replace c_203 : 256 ≤ 256 := (nI_leI (a := 256) (b := 256) (by omega) (by omega)).mp c_203
    refine lv_iconst (v := 0) hx hb dX7_mixKey_22 (by decide) ?_
    refine lv_istore_n (lv' := [(3, .int 0), (0, .ref h), (1, .ref h2), (2, .int wv)]) hx hb dX7_mixKey_23 rfl hl_202 (by decide) rfl (fun ls_204 hl_204 => ?_)
    clear hl_202
    refine lv_iconst (v := 0) hx hb dX7_mixKey_24 (by decide) ?_
    refine lv_istore (lv' := [(4, .int 0), (3, .int 0), (0, .ref h), (1, .ref h2), (2, .int wv)]) hx hb dX7_mixKey_25 hl_204 (by decide) rfl (fun ls_205 hl_205 => ?_)
    clear hl_204
    refine lv_iconst (v := 0) hx hb dX7_mixKey_27 (by decide) ?_
    refine lv_istore (lv' := [(5, .int 0), (4, .int 0), (3, .int 0), (0, .ref h), (1, .ref h2), (2, .int wv)]) hx hb dX7_mixKey_28 hl_205 (by decide) rfl (fun ls_206 hl_206 => ?_)
    clear hl_205
    refine g_up (N := 256) (B_X7_mixKey_30 n2 q wv) ((0, 0, z_202) : Int32 × Int32 × (Nat → Int32)) (Inv := fun i_0 z_254 H_0 locs_0 ls_0 => lv_has ls_0 6 [(5, .int (nI i_0)), (4, .int z_254.2.1), (3, .int z_254.1), (0, .ref h), (1, .ref h2), (2, .int wv)] ∧ va_P E.1 vwCl [(h, .inr (8, [.ref qm])), (qm, .inl (E.2.1, 256, .inl z_254.2.2)), (h2, .inr (6, [.ref a2, .int q.1])), (a2, .inl (E.2.1, n2, .inl q.2))] H_0 ∧ va_D A [(h, .inr (8, [.ref qm])), (qm, .inl (E.2.1, 256, .inl z_254.2.2)), (h2, .inr (6, [.ref a2, .int q.1])), (a2, .inl (E.2.1, n2, .inl q.2))] ∧ va_S A s.heap H_0 locs_0) (G := fun H_0 locs_0 ls_0 => W _ _ _ _ _ _ _ _ _ _ H_0 locs_0 _ _ _ (F0 _ 30 ls_0 [])) ?_ ?_ ⟨lv_sub hl_206 [0, 1, 2, 3, 4, 5] rfl, hP_202, hD_202, hS_202⟩
    · intro j_255 i_255 z_255 H_255 locs_255 ls_255 hij_255 hz_255 hI_255 ih_255
      obtain ⟨hl_255, hP_255, hD_255, hS_255⟩ := hI_255
      replace hl_255 : lv_has ls_255 6 [(5, .int (nI i_255)), (4, .int z_255.2.1), (3, .int z_255.1), (0, .ref h), (1, .ref h2), (2, .int wv)] := hl_255
      replace hP_255 : va_P E.1 vwCl [(h, .inr (8, [.ref qm])), (qm, .inl (E.2.1, 256, .inl z_255.2.2)), (h2, .inr (6, [.ref a2, .int q.1])), (a2, .inl (E.2.1, n2, .inl q.2))] H_255 := hP_255
      replace hD_255 : va_D A [(h, .inr (8, [.ref qm])), (qm, .inl (E.2.1, 256, .inl z_255.2.2)), (h2, .inr (6, [.ref a2, .int q.1])), (a2, .inl (E.2.1, n2, .inl q.2))] := hD_255
      clear hl_206 hP_202 hD_202 hS_202
      refine lv_iload hx hb dX7_mixKey_30 (lv_at hl_255 0 rfl) ?_
      refine lv_sipush (v := 256) hx hb dX7_mixKey_32 (by decide) ?_
      refine lv_icmp_ge (tgt := 95) hx hb dX7_mixKey_35 (by decide) (fun c_256 => (by have c_256 := (nI_leI (a := 256) (b := i_255) (by omega) (by omega)).mp c_256; exfalso; omega)) (fun c_256 => ?_)
      replace c_256 : ¬ 256 ≤ i_255 := (not_congr (nI_leI (a := 256) (b := i_255) (by omega) (by omega))).mp c_256
      refine lv_iload_n hx hb dX7_mixKey_38 rfl (lv_at hl_255 2 rfl) ?_
      refine lv_aload_n hx hb dX7_mixKey_39 rfl (lv_at hl_255 3 rfl) ?_
      refine va_get (D := E.1) (ci := 8) (v := .ref qm) (C := RX7) (T := TX7) (N := 1) hx hb hts in_X7 hown hK hP_255 0 rfl rfl 0 (by decide) w_0 (fun _ h9 => h9) rfl dX7_mixKey_40 ?_
      refine lv_iload hx hb dX7_mixKey_43 (lv_at hl_255 0 rfl) ?_
      refine g_iald (e0 := i_255) hx hb hK hP_255 1 0 rfl rfl (by omega) (by omega) dX7_mixKey_45 ?_
      refine lv_iadd hx hb dX7_mixKey_46 ?_
      refine lv_aload_n hx hb dX7_mixKey_47 rfl (lv_at hl_255 4 rfl) ?_
      refine lv_iload hx hb dX7_mixKey_48 (lv_at hl_255 1 rfl) ?_
      refine gVi hF hl_255 hV hP_255 hD_255 hS_255 hA [2, 3] [0, 1] (wc := [(h2, .inr (6, [.ref a2, .int q.1])), (a2, .inl (E.2.1, n2, .inl q.2))]) (wr := [(h, .inr (8, [.ref qm])), (qm, .inl (E.2.1, 256, .inl z_255.2.2))]) rfl rfl rfl (by decide) 0 6 rfl rfl rfl (k_X5_at E l h2 a2 n2 q z_255.2.1 (by omega)) (cwV 1 hts gX7_mixKey_X5_at rfl rfl rfl (by decide +kernel) ⟨Nat.le_of_ble_eq_true rfl, Nat.le_of_ble_eq_true rfl⟩) rfl rfl rfl (Nat.le_of_ble_eq_true rfl) dX7_mixKey_50 ⟨Nat.le_of_ble_eq_true rfl, Nat.le_of_ble_eq_true rfl⟩ (fun r_257 _ H_258 locs_258 hu_257 hP_258 hD_258 hS_258 => ?_)
      have er_257 : r_257 = F_X5_at n2 q z_255.2.1 := hu_257
      clear hu_257
      replace hP_258 : va_P E.1 vwCl [(h, .inr (8, [.ref qm])), (qm, .inl (E.2.1, 256, .inl z_255.2.2)), (h2, .inr (6, [.ref a2, .int q.1])), (a2, .inl (E.2.1, n2, .inl q.2))] H_258 := hP_258
      replace hD_258 : va_D A [(h, .inr (8, [.ref qm])), (qm, .inl (E.2.1, 256, .inl z_255.2.2)), (h2, .inr (6, [.ref a2, .int q.1])), (a2, .inl (E.2.1, n2, .inl q.2))] := hD_258
      clear hP_255 hD_255 hS_255
      refine lv_iload_n hx hb dX7_mixKey_53 rfl (lv_at hl_255 5 rfl) ?_
      refine lv_ixor hx hb dX7_mixKey_54 ?_
      refine lv_iadd hx hb dX7_mixKey_55 ?_
      refine lv_sipush (v := 255) hx hb dX7_mixKey_56 (by decide) ?_
      refine lv_iand hx hb dX7_mixKey_59 ?_
      refine lv_istore_n (lv' := [(3, .int (((z_255.1 + (z_255.2.2 i_255)) + (r_257 ^^^ wv)) &&& 255)), (5, .int (nI i_255)), (4, .int z_255.2.1), (0, .ref h), (1, .ref h2), (2, .int wv)]) hx hb dX7_mixKey_60 rfl hl_255 (by decide) rfl (fun ls_259 hl_259 => ?_)
      clear hl_255
      refine lv_aload_n hx hb dX7_mixKey_61 rfl (lv_at hl_259 3 rfl) ?_
      refine lv_iload hx hb dX7_mixKey_62 (lv_at hl_259 1 rfl) ?_
      refine lv_iload_n hx hb dX7_mixKey_64 rfl (lv_at hl_259 0 rfl) ?_
      refine gVv hF hl_259 hV hP_258 hD_258 hS_258 hA [0, 1] [2, 3] (wc := [(h, .inr (8, [.ref qm])), (qm, .inl (E.2.1, 256, .inl z_255.2.2))]) (wr := [(h2, .inr (6, [.ref a2, .int q.1])), (a2, .inl (E.2.1, n2, .inl q.2))]) rfl rfl rfl (by decide) 0 8 rfl rfl rfl (k_X7_swap E l h qm z_255.2.2 (nI i_255) (((z_255.1 + (z_255.2.2 i_255)) + (r_257 ^^^ wv)) &&& 255)) (cwV 2 hts gX7_mixKey_X7_swap rfl rfl rfl (by decide +kernel) ⟨Nat.le_of_ble_eq_true rfl, Nat.le_of_ble_eq_true rfl⟩) rfl rfl rfl (Nat.le_of_ble_eq_true rfl) dX7_mixKey_65 ⟨Nat.le_of_ble_eq_true rfl, Nat.le_of_ble_eq_true rfl⟩ (fun u_260 H_261 locs_261 hu_260 hP_261 hD_261 hS_261 => ?_)
      replace hu_260 : u_260 = F_X7_swap z_255.2.2 (nI i_255) (((z_255.1 + (z_255.2.2 i_255)) + (r_257 ^^^ wv)) &&& 255) := hu_260
      replace hP_261 : va_P E.1 vwCl [(h2, .inr (6, [.ref a2, .int q.1])), (a2, .inl (E.2.1, n2, .inl q.2)), (h, .inr (8, [.ref qm])), (qm, .inl (E.2.1, 256, .inl u_260))] H_261 := hP_261
      replace hD_261 : va_D A [(h2, .inr (6, [.ref a2, .int q.1])), (a2, .inl (E.2.1, n2, .inl q.2)), (h, .inr (8, [.ref qm])), (qm, .inl (E.2.1, 256, .inl u_260))] := hD_261
      clear hP_258 hD_258 hS_258
      refine lv_iload hx hb dX7_mixKey_68 (lv_at hl_259 2 rfl) ?_
      refine lv_iconst (v := 1) hx hb dX7_mixKey_70 (by decide) ?_
      refine lv_iadd hx hb dX7_mixKey_71 ?_
      refine lv_aload_n hx hb dX7_mixKey_72 rfl (lv_at hl_259 4 rfl) ?_
      refine gVi hF hl_259 hV hP_261 hD_261 hS_261 hA [0] [1, 2, 3] (wc := [(h2, .inr (6, [.ref a2, .int q.1]))]) (wr := [(a2, .inl (E.2.1, n2, .inl q.2)), (h, .inr (8, [.ref qm])), (qm, .inl (E.2.1, 256, .inl u_260))]) rfl rfl rfl (by decide) 0 6 rfl rfl rfl (k_X5_count E l h2 a2 q) (cwV 0 hts gX7_mixKey_X5_count rfl rfl rfl (by decide +kernel) ⟨Nat.le_of_ble_eq_true rfl, Nat.le_of_ble_eq_true rfl⟩) rfl rfl rfl (Nat.le_of_ble_eq_true rfl) dX7_mixKey_73 ⟨Nat.le_of_ble_eq_true rfl, Nat.le_of_ble_eq_true rfl⟩ (fun r_262 _ H_263 locs_263 hu_262 hP_263 hD_263 hS_263 => ?_)
      have er_262 : r_262 = F_X5_count q := hu_262
      clear hu_262
      replace hP_263 : va_P E.1 vwCl [(a2, .inl (E.2.1, n2, .inl q.2)), (h, .inr (8, [.ref qm])), (qm, .inl (E.2.1, 256, .inl u_260)), (h2, .inr (6, [.ref a2, .int q.1]))] H_263 := hP_263
      replace hD_263 : va_D A [(a2, .inl (E.2.1, n2, .inl q.2)), (h, .inr (8, [.ref qm])), (qm, .inl (E.2.1, 256, .inl u_260)), (h2, .inr (6, [.ref a2, .int q.1]))] := hD_263
      clear hP_261 hD_261 hS_261
      refine lv_icmp_ge (tgt := 86) hx hb dX7_mixKey_76 (by decide) (fun c_264 => ?_) (fun c_264 => ?_)
      · replace c_264 : r_262 ≤ (z_255.2.1 + 1) := c_264
        refine lv_iconst (v := 0) hx hb dX7_mixKey_86 (by decide) ?_
        refine lv_istore (lv' := [(4, .int 0), (3, .int (((z_255.1 + (z_255.2.2 i_255)) + (r_257 ^^^ wv)) &&& 255)), (5, .int (nI i_255)), (0, .ref h), (1, .ref h2), (2, .int wv)]) hx hb dX7_mixKey_87 hl_259 (by decide) rfl (fun ls_265 hl_265 => ?_)
        clear hl_259
        refine lv_iinc (v := (nI (i_255 + 1))) (lv' := [(5, .int (nI (i_255 + 1))), (4, .int 0), (3, .int (((z_255.1 + (z_255.2.2 i_255)) + (r_257 ^^^ wv)) &&& 255)), (0, .ref h), (1, .ref h2), (2, .int wv)]) hx hb dX7_mixKey_89 hl_265 (k := 2) rfl (nI_add _ 1) (by decide) rfl (fun ls_266 hl_266 => ?_)
        clear hl_265
        refine lv_goto (tgt := 30) hx hb dX7_mixKey_92 (by decide) ?_
        exact ih_255 (((((z_255.1 + (z_255.2.2 i_255)) + (r_257 ^^^ wv)) &&& 255), 0, u_260) : Int32 × Int32 × (Nat → Int32)) _ _ _ (((show (B_X7_mixKey_30 n2 q wv) i_255 z_255 = _ from (gLet_eq er_257 (gLet_eq hu_260 (gLet_eq er_262 ((if_pos c_264).trans rfl))))).symm.trans (congrArg ((B_X7_mixKey_30 n2 q wv) i_255) hz_255)).trans (itr_s _ _ _).symm) ⟨lv_sub hl_266 [0, 1, 2, 3, 4, 5] rfl, (hP_263.sub [1, 2, 3, 0] rfl), (hD_263.sub [1, 2, 3, 0] (by decide) rfl), hS_263⟩
      · replace c_264 : ¬ (r_262 ≤ (z_255.2.1 + 1)) := c_264
        refine lv_iload hx hb dX7_mixKey_79 (lv_at hl_259 2 rfl) ?_
        refine lv_iconst (v := 1) hx hb dX7_mixKey_81 (by decide) ?_
        refine lv_iadd hx hb dX7_mixKey_82 ?_
        refine lv_goto (tgt := 87) hx hb dX7_mixKey_83 (by decide) ?_
        refine lv_istore (lv' := [(4, .int (z_255.2.1 + 1)), (3, .int (((z_255.1 + (z_255.2.2 i_255)) + (r_257 ^^^ wv)) &&& 255)), (5, .int (nI i_255)), (0, .ref h), (1, .ref h2), (2, .int wv)]) hx hb dX7_mixKey_87 hl_259 (by decide) rfl (fun ls_267 hl_267 => ?_)
        clear hl_259
        refine lv_iinc (v := (nI (i_255 + 1))) (lv' := [(5, .int (nI (i_255 + 1))), (4, .int (z_255.2.1 + 1)), (3, .int (((z_255.1 + (z_255.2.2 i_255)) + (r_257 ^^^ wv)) &&& 255)), (0, .ref h), (1, .ref h2), (2, .int wv)]) hx hb dX7_mixKey_89 hl_267 (k := 2) rfl (nI_add _ 1) (by decide) rfl (fun ls_268 hl_268 => ?_)
        clear hl_267
        refine lv_goto (tgt := 30) hx hb dX7_mixKey_92 (by decide) ?_
        exact ih_255 (((((z_255.1 + (z_255.2.2 i_255)) + (r_257 ^^^ wv)) &&& 255), (z_255.2.1 + 1), u_260) : Int32 × Int32 × (Nat → Int32)) _ _ _ (((show (B_X7_mixKey_30 n2 q wv) i_255 z_255 = _ from (gLet_eq er_257 (gLet_eq hu_260 (gLet_eq er_262 ((if_neg c_264).trans rfl))))).symm.trans (congrArg ((B_X7_mixKey_30 n2 q wv) i_255) hz_255)).trans (itr_s _ _ _).symm) ⟨lv_sub hl_268 [0, 1, 2, 3, 4, 5] rfl, (hP_263.sub [1, 2, 3, 0] rfl), (hD_263.sub [1, 2, 3, 0] (by decide) rfl), hS_263⟩
    · intro z_269 H_269 locs_269 ls_269 hz_269 hI_269
      obtain ⟨hl_269, hP_269, hD_269, hS_269⟩ := hI_269
      replace hl_269 : lv_has ls_269 6 [(5, .int (nI 256)), (4, .int z_269.2.1), (3, .int z_269.1), (0, .ref h), (1, .ref h2), (2, .int wv)] := hl_269
      replace hP_269 : va_P E.1 vwCl [(h, .inr (8, [.ref qm])), (qm, .inl (E.2.1, 256, .inl z_269.2.2)), (h2, .inr (6, [.ref a2, .int q.1])), (a2, .inl (E.2.1, n2, .inl q.2))] H_269 := hP_269
      replace hD_269 : va_D A [(h, .inr (8, [.ref qm])), (qm, .inl (E.2.1, 256, .inl z_269.2.2)), (h2, .inr (6, [.ref a2, .int q.1])), (a2, .inl (E.2.1, n2, .inl q.2))] := hD_269
      clear hl_206 hP_202 hD_202 hS_202
      refine lv_iload hx hb dX7_mixKey_30 (lv_at hl_269 0 rfl) ?_
      refine lv_sipush (v := 256) hx hb dX7_mixKey_32 (by decide) ?_
      refine lv_icmp_ge (tgt := 95) hx hb dX7_mixKey_35 (by decide) (fun c_270 => ?_) (fun c_270 => absurd c_203 ((not_congr (nI_leI (a := 256) (b := 256) (by omega) (by omega))).mp c_270))
      replace c_270 : 256 ≤ 256 := (nI_leI (a := 256) (b := 256) (by omega) (by omega)).mp c_270
      have hpost : (z_269.2.2 : Nat → Int32) = F_X7_mixKey n2 mx q wv := (show F_X7_mixKey n2 mx q wv = (z_269.2.2 : Nat → Int32) from (gLet_eq hz_202 (gLet_eq hz_269 rfl))).symm
      have hP9 := hP_269.sub (ws' := [(h, .inr (8, [.ref qm])), (qm, .inl (E.2.1, 256, .inl z_269.2.2)), (h2, .inr (6, [.ref a2, .int q.1])), (a2, .inl (E.2.1, n2, .inl q.2))]) [0, 1, 2, 3] rfl
      have hD9 := hD_269.sub (ws' := [(h, .inr (8, [.ref qm])), (qm, .inl (E.2.1, 256, .inl z_269.2.2)), (h2, .inr (6, [.ref a2, .int q.1])), (a2, .inl (E.2.1, n2, .inl q.2))]) [0, 1, 2, 3] (by decide) rfl
      exact W.vret hx hb hr (fun t ht hW => ⟨⟨z_269.2.2, rfl, hpost, by rw [ht]; exact hP9, hD9⟩, hS_269.F ht⟩) hS_269.2.2 dX7_mixKey_95
set_option maxHeartbeats 4000000 in
set_option maxRecDepth 100000 in
theorem k_X7_turn (E : gE) (l : Launch) (h h2 h3 qm a2 a3 : Nat) (n2 : Nat) (n3 : Nat) (mx : Nat → Int32) (q : gRow) (d : gRow) (wv : Int32) (hn2 : n2 < 2147483648) (hn3 : n3 < 2147483648) : gMv E l yX7_turn wsX7_turn ({ frames := 2, cells := 0, slots := 0, locals := 48 }) 0 0 [.ref h, .ref h2, .int wv, .ref h3] [(h, .inr (8, [.ref qm])), (qm, .inl (E.2.1, 256, .inl mx)), (h2, .inr (6, [.ref a2, .int q.1])), (a2, .inl (E.2.1, n2, .inl q.2)), (h3, .inr (6, [.ref a3, .int d.1])), (a3, .inl (E.2.1, n3, .inl d.2))] (fun (uu : (Nat → Int32) × gRow) => uu = F_X7_turn n2 n3 mx q d wv) (fun (uu : (Nat → Int32) × gRow) => [(h, .inr (8, [.ref qm])), (qm, .inl (E.2.1, 256, .inl uu.1)), (h2, .inr (6, [.ref a2, .int q.1])), (a2, .inl (E.2.1, n2, .inl q.2)), (h3, .inr (6, [.ref a3, .int uu.2.1])), (a3, .inl (E.2.1, n3, .inl uu.2.2))]) := by
  intro sz
  refine Met.ofW (cc := cX7_turn) (maxL := 7) (ret := none) (by decide) rfl ?_
  intro p e s m args below meth c s₁ B hml hv
  obtain ⟨rfl, hsz, hP, hV, hD0⟩ := hv
  have hx := B.exec
  have hb := B.bytes
  have hr := B.returns
  have hts := atoms_spec (ws := wsX7_turn) B.pre
  have hown : s.vm.findClass RX7 = some m.cls := findClass_of_methodNamed B.named
  have hlocks := B.notSynchronized
  subst hsz
  have hD := hD0.self (sz := s.heap.size)
  clear hD0
  generalize hAe : va_A [(h, .inr (8, [.ref qm])), (qm, .inl (E.2.1, 256, .inl mx)), (h2, .inr (6, [.ref a2, .int q.1])), (a2, .inl (E.2.1, n2, .inl q.2)), (h3, .inr (6, [.ref a3, .int d.1])), (a3, .inl (E.2.1, n3, .inl d.2))] s.heap.size = A at hD hV ⊢
  have hA : ∀ q : Nat, s.heap.size ≤ q → A q := fun q h => by rw [← hAe]; exact Or.inr h
  have hS : va_S A s.heap s.heap [] := va_S.rf
  have hK := hV.1
  have hF : CallFix p m c cX7_turn 7 s _ wsX7_turn RX7 := ⟨hx, hb, hml, hown, hts⟩
  have hl := lv_entry [.ref h, .ref h2, .int wv, .ref h3] (n := 7) (Nat.le_of_ble_eq_true rfl)
  rw [lg_entry_eq]
  generalize (lg_sl [.ref h, .ref h2, .int wv, .ref h3] ++ List.replicate (7 - (lg_sl [.ref h, .ref h2, .int wv, .ref h3]).length) Slot.unset).toArray = ls at hl ⊢
  have hl : lv_has ls 7 [(0, .ref h), (1, .ref h2), (2, .int wv), (3, .ref h3)] := hl
  have in_X7 : ∀ w ∈ wsX70, w ∈ wsX7_turn := by decide +kernel
  have w_0 := hts (.fieldLink RX7 7 "CryptRows$Stream" "mixed" "[I") (by decide +kernel)
  refine lv_aload_n hx hb dX7_turn_0 rfl (lv_at hl 0 rfl) ?_
  refine lv_aload_n hx hb dX7_turn_1 rfl (lv_at hl 1 rfl) ?_
  refine lv_iload_n hx hb dX7_turn_2 rfl (lv_at hl 2 rfl) ?_
  refine gVv hF hl hV hP hD hS hA [0, 1, 2, 3] [4, 5] (wc := [(h, .inr (8, [.ref qm])), (qm, .inl (E.2.1, 256, .inl mx)), (h2, .inr (6, [.ref a2, .int q.1])), (a2, .inl (E.2.1, n2, .inl q.2))]) (wr := [(h3, .inr (6, [.ref a3, .int d.1])), (a3, .inl (E.2.1, n3, .inl d.2))]) rfl rfl rfl (by decide) 0 8 rfl rfl rfl (k_X7_mixKey E l h h2 qm a2 n2 mx q wv (by omega)) (cwV 2 hts gX7_turn_X7_mixKey rfl rfl rfl (by decide +kernel) ⟨Nat.le_of_ble_eq_true rfl, Nat.le_of_ble_eq_true rfl⟩) rfl rfl rfl (Nat.le_of_ble_eq_true rfl) dX7_turn_3 ⟨Nat.le_of_ble_eq_true rfl, Nat.le_of_ble_eq_true rfl⟩ (fun u_151 H_152 locs_152 hu_151 hP_152 hD_152 hS_152 => ?_)
  replace hu_151 : u_151 = F_X7_mixKey n2 mx q wv := hu_151
  replace hP_152 : va_P E.1 vwCl [(h3, .inr (6, [.ref a3, .int d.1])), (a3, .inl (E.2.1, n3, .inl d.2)), (h, .inr (8, [.ref qm])), (qm, .inl (E.2.1, 256, .inl u_151)), (h2, .inr (6, [.ref a2, .int q.1])), (a2, .inl (E.2.1, n2, .inl q.2))] H_152 := hP_152
  replace hD_152 : va_D A [(h3, .inr (6, [.ref a3, .int d.1])), (a3, .inl (E.2.1, n3, .inl d.2)), (h, .inr (8, [.ref qm])), (qm, .inl (E.2.1, 256, .inl u_151)), (h2, .inr (6, [.ref a2, .int q.1])), (a2, .inl (E.2.1, n2, .inl q.2))] := hD_152
  clear hP hD hS
  refine lv_iconst (v := 0) hx hb dX7_turn_6 (by decide) ?_
  refine lv_istore (lv' := [(4, .int 0), (0, .ref h), (1, .ref h2), (2, .int wv), (3, .ref h3)]) hx hb dX7_turn_7 hl (by decide) rfl (fun ls_153 hl_153 => ?_)
  clear hl
  refine lv_iconst (v := 0) hx hb dX7_turn_9 (by decide) ?_
  refine lv_istore (lv' := [(5, .int 0), (4, .int 0), (0, .ref h), (1, .ref h2), (2, .int wv), (3, .ref h3)]) hx hb dX7_turn_10 hl_153 (by decide) rfl (fun ls_154 hl_154 => ?_)
  clear hl_153
  refine lv_iconst (v := 0) hx hb dX7_turn_12 (by decide) ?_
  refine lv_istore (lv' := [(6, .int 0), (5, .int 0), (4, .int 0), (0, .ref h), (1, .ref h2), (2, .int wv), (3, .ref h3)]) hx hb dX7_turn_13 hl_154 (by decide) rfl (fun ls_155 hl_155 => ?_)
  clear hl_154
  have hcl_205 := g_clamp_lt d.1
  refine g_up (N := d.1.toNatClampNeg) (B_X7_turn_15 n3) ((0, 0, u_151, d) : Int32 × Int32 × (Nat → Int32) × gRow) (Inv := fun i_0 z_206 H_0 locs_0 ls_0 => lv_has ls_0 7 [(6, .int (nI i_0)), (5, .int z_206.2.1), (4, .int z_206.1), (0, .ref h), (1, .ref h2), (2, .int wv), (3, .ref h3)] ∧ va_P E.1 vwCl [(h3, .inr (6, [.ref a3, .int z_206.2.2.2.1])), (a3, .inl (E.2.1, n3, .inl z_206.2.2.2.2)), (h, .inr (8, [.ref qm])), (qm, .inl (E.2.1, 256, .inl z_206.2.2.1)), (h2, .inr (6, [.ref a2, .int q.1])), (a2, .inl (E.2.1, n2, .inl q.2))] H_0 ∧ va_D A [(h3, .inr (6, [.ref a3, .int z_206.2.2.2.1])), (a3, .inl (E.2.1, n3, .inl z_206.2.2.2.2)), (h, .inr (8, [.ref qm])), (qm, .inl (E.2.1, 256, .inl z_206.2.2.1)), (h2, .inr (6, [.ref a2, .int q.1])), (a2, .inl (E.2.1, n2, .inl q.2))] ∧ va_S A s.heap H_0 locs_0) (G := fun H_0 locs_0 ls_0 => W _ _ _ _ _ _ _ _ _ _ H_0 locs_0 _ _ _ (F0 _ 15 ls_0 [])) ?_ ?_ ⟨lv_sub hl_155 [0, 1, 2, 3, 4, 5, 6] rfl, hP_152, hD_152, hS_152⟩
  · intro j_207 i_207 z_207 H_207 locs_207 ls_207 hij_207 hz_207 hI_207 ih_207
    obtain ⟨hl_207, hP_207, hD_207, hS_207⟩ := hI_207
    replace hl_207 : lv_has ls_207 7 [(6, .int (nI i_207)), (5, .int z_207.2.1), (4, .int z_207.1), (0, .ref h), (1, .ref h2), (2, .int wv), (3, .ref h3)] := hl_207
    replace hP_207 : va_P E.1 vwCl [(h3, .inr (6, [.ref a3, .int z_207.2.2.2.1])), (a3, .inl (E.2.1, n3, .inl z_207.2.2.2.2)), (h, .inr (8, [.ref qm])), (qm, .inl (E.2.1, 256, .inl z_207.2.2.1)), (h2, .inr (6, [.ref a2, .int q.1])), (a2, .inl (E.2.1, n2, .inl q.2))] H_207 := hP_207
    replace hD_207 : va_D A [(h3, .inr (6, [.ref a3, .int z_207.2.2.2.1])), (a3, .inl (E.2.1, n3, .inl z_207.2.2.2.2)), (h, .inr (8, [.ref qm])), (qm, .inl (E.2.1, 256, .inl z_207.2.2.1)), (h2, .inr (6, [.ref a2, .int q.1])), (a2, .inl (E.2.1, n2, .inl q.2))] := hD_207
    clear hl_155 hP_152 hD_152 hS_152
    refine lv_iload hx hb dX7_turn_15 (lv_at hl_207 0 rfl) ?_
    refine lv_aload_n hx hb dX7_turn_17 rfl (lv_at hl_207 6 rfl) ?_
    refine gVi hF hl_207 hV hP_207 hD_207 hS_207 hA [0] [1, 2, 3, 4, 5] (wc := [(h3, .inr (6, [.ref a3, .int z_207.2.2.2.1]))]) (wr := [(a3, .inl (E.2.1, n3, .inl z_207.2.2.2.2)), (h, .inr (8, [.ref qm])), (qm, .inl (E.2.1, 256, .inl z_207.2.2.1)), (h2, .inr (6, [.ref a2, .int q.1])), (a2, .inl (E.2.1, n2, .inl q.2))]) rfl rfl rfl (by decide) 0 6 rfl rfl rfl (k_X5_count E l h3 a3 z_207.2.2.2) (cwV 0 hts gX7_turn_X5_count rfl rfl rfl (by decide +kernel) ⟨Nat.le_of_ble_eq_true rfl, Nat.le_of_ble_eq_true rfl⟩) rfl rfl rfl (Nat.le_of_ble_eq_true rfl) dX7_turn_18 ⟨Nat.le_of_ble_eq_true rfl, Nat.le_of_ble_eq_true rfl⟩ (fun r_208 _ H_209 locs_209 hu_208 hP_209 hD_209 hS_209 => ?_)
    have er_208 : r_208 = F_X5_count z_207.2.2.2 := hu_208
    clear hu_208
    replace hP_209 : va_P E.1 vwCl [(a3, .inl (E.2.1, n3, .inl z_207.2.2.2.2)), (h, .inr (8, [.ref qm])), (qm, .inl (E.2.1, 256, .inl z_207.2.2.1)), (h2, .inr (6, [.ref a2, .int q.1])), (a2, .inl (E.2.1, n2, .inl q.2)), (h3, .inr (6, [.ref a3, .int z_207.2.2.2.1]))] H_209 := hP_209
    replace hD_209 : va_D A [(a3, .inl (E.2.1, n3, .inl z_207.2.2.2.2)), (h, .inr (8, [.ref qm])), (qm, .inl (E.2.1, 256, .inl z_207.2.2.1)), (h2, .inr (6, [.ref a2, .int q.1])), (a2, .inl (E.2.1, n2, .inl q.2)), (h3, .inr (6, [.ref a3, .int z_207.2.2.2.1]))] := hD_209
    clear hP_207 hD_207 hS_207
    refine lv_icmp_ge (tgt := 101) hx hb dX7_turn_21 (by decide) (fun c_210 => (by have c_210 := (g_rle (by omega)).mp c_210; exfalso; (have q9 : r_208 = d.1 := (by rw [er_208, hz_207]; exact L_turn_cnt _ _)); rw [q9] at c_210; omega)) (fun c_210 => ?_)
    replace c_210 : ¬ r_208.toNatClampNeg ≤ i_207 := (not_congr (g_rle (by omega))).mp c_210
    refine lv_iload hx hb dX7_turn_24 (lv_at hl_207 2 rfl) ?_
    refine lv_iconst (v := 1) hx hb dX7_turn_26 (by decide) ?_
    refine lv_iadd hx hb dX7_turn_27 ?_
    refine lv_sipush (v := 255) hx hb dX7_turn_28 (by decide) ?_
    refine lv_iand hx hb dX7_turn_31 ?_
    refine lv_istore (lv' := [(4, .int ((z_207.1 + 1) &&& 255)), (6, .int (nI i_207)), (5, .int z_207.2.1), (0, .ref h), (1, .ref h2), (2, .int wv), (3, .ref h3)]) hx hb dX7_turn_32 hl_207 (by decide) rfl (fun ls_211 hl_211 => ?_)
    clear hl_207
    refine lv_iload hx hb dX7_turn_34 (lv_at hl_211 2 rfl) ?_
    refine lv_aload_n hx hb dX7_turn_36 rfl (lv_at hl_211 3 rfl) ?_
    refine va_get (D := E.1) (ci := 8) (v := .ref qm) (C := RX7) (T := TX7) (N := 1) hx hb hts in_X7 hown hK hP_209 1 rfl rfl 0 (by decide) w_0 (fun _ h9 => h9) rfl dX7_turn_37 ?_
    refine lv_iload hx hb dX7_turn_40 (lv_at hl_211 0 rfl) ?_
    refine va_iald hx hb hK hP_209 2 0 rfl rfl (pk_andIn _ 8 (by decide) (by decide)) dX7_turn_42 ?_
    refine lv_iadd hx hb dX7_turn_43 ?_
    refine lv_topi (fun v_212 ev_212 => ?_)
    refine lv_sipush (v := 255) hx hb dX7_turn_44 (by decide) ?_
    refine lv_iand hx hb dX7_turn_47 ?_
    refine lv_istore (lv' := [(5, .int (v_212 &&& 255)), (4, .int ((z_207.1 + 1) &&& 255)), (6, .int (nI i_207)), (0, .ref h), (1, .ref h2), (2, .int wv), (3, .ref h3)]) hx hb dX7_turn_48 hl_211 (by decide) rfl (fun ls_213 hl_213 => ?_)
    clear hl_211
    refine lv_aload_n hx hb dX7_turn_50 rfl (lv_at hl_213 3 rfl) ?_
    refine lv_iload hx hb dX7_turn_51 (lv_at hl_213 1 rfl) ?_
    refine lv_iload hx hb dX7_turn_53 (lv_at hl_213 0 rfl) ?_
    refine gVv hF hl_213 hV hP_209 hD_209 hS_209 hA [1, 2] [0, 3, 4, 5] (wc := [(h, .inr (8, [.ref qm])), (qm, .inl (E.2.1, 256, .inl z_207.2.2.1))]) (wr := [(a3, .inl (E.2.1, n3, .inl z_207.2.2.2.2)), (h2, .inr (6, [.ref a2, .int q.1])), (a2, .inl (E.2.1, n2, .inl q.2)), (h3, .inr (6, [.ref a3, .int z_207.2.2.2.1]))]) rfl rfl rfl (by decide) 0 8 rfl rfl rfl (k_X7_swap E l h qm z_207.2.2.1 ((z_207.1 + 1) &&& 255) (v_212 &&& 255)) (cwV 2 hts gX7_turn_X7_swap rfl rfl rfl (by decide +kernel) ⟨Nat.le_of_ble_eq_true rfl, Nat.le_of_ble_eq_true rfl⟩) rfl rfl rfl (Nat.le_of_ble_eq_true rfl) dX7_turn_55 ⟨Nat.le_of_ble_eq_true rfl, Nat.le_of_ble_eq_true rfl⟩ (fun u_214 H_215 locs_215 hu_214 hP_215 hD_215 hS_215 => ?_)
    replace hu_214 : u_214 = F_X7_swap z_207.2.2.1 ((z_207.1 + 1) &&& 255) (v_212 &&& 255) := hu_214
    replace hP_215 : va_P E.1 vwCl [(a3, .inl (E.2.1, n3, .inl z_207.2.2.2.2)), (h2, .inr (6, [.ref a2, .int q.1])), (a2, .inl (E.2.1, n2, .inl q.2)), (h3, .inr (6, [.ref a3, .int z_207.2.2.2.1])), (h, .inr (8, [.ref qm])), (qm, .inl (E.2.1, 256, .inl u_214))] H_215 := hP_215
    replace hD_215 : va_D A [(a3, .inl (E.2.1, n3, .inl z_207.2.2.2.2)), (h2, .inr (6, [.ref a2, .int q.1])), (a2, .inl (E.2.1, n2, .inl q.2)), (h3, .inr (6, [.ref a3, .int z_207.2.2.2.1])), (h, .inr (8, [.ref qm])), (qm, .inl (E.2.1, 256, .inl u_214))] := hD_215
    clear hP_209 hD_209 hS_209
    refine lv_aload_n hx hb dX7_turn_58 rfl (lv_at hl_213 6 rfl) ?_
    refine lv_iload hx hb dX7_turn_59 (lv_at hl_213 2 rfl) ?_
    refine lv_aload_n hx hb dX7_turn_61 rfl (lv_at hl_213 6 rfl) ?_
    refine lv_iload hx hb dX7_turn_62 (lv_at hl_213 2 rfl) ?_
    refine gVi hF hl_213 hV hP_215 hD_215 hS_215 hA [3, 0] [1, 2, 4, 5] (wc := [(h3, .inr (6, [.ref a3, .int z_207.2.2.2.1])), (a3, .inl (E.2.1, n3, .inl z_207.2.2.2.2))]) (wr := [(h2, .inr (6, [.ref a2, .int q.1])), (a2, .inl (E.2.1, n2, .inl q.2)), (h, .inr (8, [.ref qm])), (qm, .inl (E.2.1, 256, .inl u_214))]) rfl rfl rfl (by decide) 0 6 rfl rfl rfl (k_X5_at E l h3 a3 n3 z_207.2.2.2 (nI i_207) (by omega)) (cwV 1 hts gX7_turn_X5_at rfl rfl rfl (by decide +kernel) ⟨Nat.le_of_ble_eq_true rfl, Nat.le_of_ble_eq_true rfl⟩) rfl rfl rfl (Nat.le_of_ble_eq_true rfl) dX7_turn_64 ⟨Nat.le_of_ble_eq_true rfl, Nat.le_of_ble_eq_true rfl⟩ (fun r_216 _ H_217 locs_217 hu_216 hP_217 hD_217 hS_217 => ?_)
    have er_216 : r_216 = F_X5_at n3 z_207.2.2.2 (nI i_207) := hu_216
    clear hu_216
    replace hP_217 : va_P E.1 vwCl [(h2, .inr (6, [.ref a2, .int q.1])), (a2, .inl (E.2.1, n2, .inl q.2)), (h, .inr (8, [.ref qm])), (qm, .inl (E.2.1, 256, .inl u_214)), (h3, .inr (6, [.ref a3, .int z_207.2.2.2.1])), (a3, .inl (E.2.1, n3, .inl z_207.2.2.2.2))] H_217 := hP_217
    replace hD_217 : va_D A [(h2, .inr (6, [.ref a2, .int q.1])), (a2, .inl (E.2.1, n2, .inl q.2)), (h, .inr (8, [.ref qm])), (qm, .inl (E.2.1, 256, .inl u_214)), (h3, .inr (6, [.ref a3, .int z_207.2.2.2.1])), (a3, .inl (E.2.1, n3, .inl z_207.2.2.2.2))] := hD_217
    clear hP_215 hD_215 hS_215
    refine lv_aload_n hx hb dX7_turn_67 rfl (lv_at hl_213 3 rfl) ?_
    refine va_get (D := E.1) (ci := 8) (v := .ref qm) (C := RX7) (T := TX7) (N := 1) hx hb hts in_X7 hown hK hP_217 2 rfl rfl 0 (by decide) w_0 (fun _ h9 => h9) rfl dX7_turn_68 ?_
    refine lv_aload_n hx hb dX7_turn_71 rfl (lv_at hl_213 3 rfl) ?_
    refine va_get (D := E.1) (ci := 8) (v := .ref qm) (C := RX7) (T := TX7) (N := 1) hx hb hts in_X7 hown hK hP_217 2 rfl rfl 0 (by decide) w_0 (fun _ h9 => h9) rfl dX7_turn_72 ?_
    refine lv_iload hx hb dX7_turn_75 (lv_at hl_213 1 rfl) ?_
    refine va_iald hx hb hK hP_217 3 0 rfl rfl (pk_andIn _ 8 (by decide) (by decide)) dX7_turn_77 ?_
    refine lv_aload_n hx hb dX7_turn_78 rfl (lv_at hl_213 3 rfl) ?_
    refine va_get (D := E.1) (ci := 8) (v := .ref qm) (C := RX7) (T := TX7) (N := 1) hx hb hts in_X7 hown hK hP_217 2 rfl rfl 0 (by decide) w_0 (fun _ h9 => h9) rfl dX7_turn_79 ?_
    refine lv_iload hx hb dX7_turn_82 (lv_at hl_213 0 rfl) ?_
    refine va_iald hx hb hK hP_217 3 0 rfl rfl (pk_andIn _ 8 (by decide) (by decide)) dX7_turn_84 ?_
    refine lv_iadd hx hb dX7_turn_85 ?_
    refine lv_topi (fun v_218 ev_218 => ?_)
    refine lv_sipush (v := 255) hx hb dX7_turn_86 (by decide) ?_
    refine lv_iand hx hb dX7_turn_89 ?_
    refine va_iald hx hb hK hP_217 3 0 rfl rfl (pk_andIn _ 8 (by decide) (by decide)) dX7_turn_90 ?_
    refine lv_ixor hx hb dX7_turn_91 ?_
    refine gVv hF hl_213 hV hP_217 hD_217 hS_217 hA [4, 5] [0, 1, 2, 3] (wc := [(h3, .inr (6, [.ref a3, .int z_207.2.2.2.1])), (a3, .inl (E.2.1, n3, .inl z_207.2.2.2.2))]) (wr := [(h2, .inr (6, [.ref a2, .int q.1])), (a2, .inl (E.2.1, n2, .inl q.2)), (h, .inr (8, [.ref qm])), (qm, .inl (E.2.1, 256, .inl u_214))]) rfl rfl rfl (by decide) 0 6 rfl rfl rfl (k_X5_put E l h3 a3 n3 z_207.2.2.2 (nI i_207) (r_216 ^^^ (u_214 (v_218 &&& 255).toNatClampNeg)) (by omega)) (cwV 2 hts gX7_turn_X5_put rfl rfl rfl (by decide +kernel) ⟨Nat.le_of_ble_eq_true rfl, Nat.le_of_ble_eq_true rfl⟩) rfl rfl rfl (Nat.le_of_ble_eq_true rfl) dX7_turn_92 ⟨Nat.le_of_ble_eq_true rfl, Nat.le_of_ble_eq_true rfl⟩ (fun u_219 H_220 locs_220 hu_219 hP_220 hD_220 hS_220 => ?_)
    replace hu_219 : u_219 = F_X5_put n3 z_207.2.2.2 (nI i_207) (r_216 ^^^ (u_214 (v_218 &&& 255).toNatClampNeg)) := hu_219
    replace hP_220 : va_P E.1 vwCl [(h2, .inr (6, [.ref a2, .int q.1])), (a2, .inl (E.2.1, n2, .inl q.2)), (h, .inr (8, [.ref qm])), (qm, .inl (E.2.1, 256, .inl u_214)), (h3, .inr (6, [.ref a3, .int u_219.1])), (a3, .inl (E.2.1, n3, .inl u_219.2))] H_220 := hP_220
    replace hD_220 : va_D A [(h2, .inr (6, [.ref a2, .int q.1])), (a2, .inl (E.2.1, n2, .inl q.2)), (h, .inr (8, [.ref qm])), (qm, .inl (E.2.1, 256, .inl u_214)), (h3, .inr (6, [.ref a3, .int u_219.1])), (a3, .inl (E.2.1, n3, .inl u_219.2))] := hD_220
    clear hP_217 hD_217 hS_217
    refine lv_iinc (v := (nI (i_207 + 1))) (lv' := [(6, .int (nI (i_207 + 1))), (5, .int (v_212 &&& 255)), (4, .int ((z_207.1 + 1) &&& 255)), (0, .ref h), (1, .ref h2), (2, .int wv), (3, .ref h3)]) hx hb dX7_turn_95 hl_213 (k := 2) rfl (nI_add _ 1) (by decide) rfl (fun ls_221 hl_221 => ?_)
    clear hl_213
    refine lv_goto (tgt := 15) hx hb dX7_turn_98 (by decide) ?_
    exact ih_207 ((((z_207.1 + 1) &&& 255), (v_212 &&& 255), u_214, u_219) : Int32 × Int32 × (Nat → Int32) × gRow) _ _ _ (((show (B_X7_turn_15 n3) i_207 z_207 = _ from (gLet_eq er_208 (gLet_eq ev_212 (gLet_eq hu_214 (gLet_eq er_216 (gLet_eq ev_218 (gLet_eq hu_219 rfl))))))).symm.trans (congrArg ((B_X7_turn_15 n3) i_207) hz_207)).trans (itr_s _ _ _).symm) ⟨lv_sub hl_221 [0, 1, 2, 3, 4, 5, 6] rfl, (hP_220.sub [4, 5, 2, 3, 0, 1] rfl), (hD_220.sub [4, 5, 2, 3, 0, 1] (by decide) rfl), hS_220⟩
  · intro z_222 H_222 locs_222 ls_222 hz_222 hI_222
    obtain ⟨hl_222, hP_222, hD_222, hS_222⟩ := hI_222
    replace hl_222 : lv_has ls_222 7 [(6, .int (nI (d.1.toNatClampNeg))), (5, .int z_222.2.1), (4, .int z_222.1), (0, .ref h), (1, .ref h2), (2, .int wv), (3, .ref h3)] := hl_222
    replace hP_222 : va_P E.1 vwCl [(h3, .inr (6, [.ref a3, .int z_222.2.2.2.1])), (a3, .inl (E.2.1, n3, .inl z_222.2.2.2.2)), (h, .inr (8, [.ref qm])), (qm, .inl (E.2.1, 256, .inl z_222.2.2.1)), (h2, .inr (6, [.ref a2, .int q.1])), (a2, .inl (E.2.1, n2, .inl q.2))] H_222 := hP_222
    replace hD_222 : va_D A [(h3, .inr (6, [.ref a3, .int z_222.2.2.2.1])), (a3, .inl (E.2.1, n3, .inl z_222.2.2.2.2)), (h, .inr (8, [.ref qm])), (qm, .inl (E.2.1, 256, .inl z_222.2.2.1)), (h2, .inr (6, [.ref a2, .int q.1])), (a2, .inl (E.2.1, n2, .inl q.2))] := hD_222
    clear hl_155 hP_152 hD_152 hS_152
    refine lv_iload hx hb dX7_turn_15 (lv_at hl_222 0 rfl) ?_
    refine lv_aload_n hx hb dX7_turn_17 rfl (lv_at hl_222 6 rfl) ?_
    refine gVi hF hl_222 hV hP_222 hD_222 hS_222 hA [0] [1, 2, 3, 4, 5] (wc := [(h3, .inr (6, [.ref a3, .int z_222.2.2.2.1]))]) (wr := [(a3, .inl (E.2.1, n3, .inl z_222.2.2.2.2)), (h, .inr (8, [.ref qm])), (qm, .inl (E.2.1, 256, .inl z_222.2.2.1)), (h2, .inr (6, [.ref a2, .int q.1])), (a2, .inl (E.2.1, n2, .inl q.2))]) rfl rfl rfl (by decide) 0 6 rfl rfl rfl (k_X5_count E l h3 a3 z_222.2.2.2) (cwV 0 hts gX7_turn_X5_count rfl rfl rfl (by decide +kernel) ⟨Nat.le_of_ble_eq_true rfl, Nat.le_of_ble_eq_true rfl⟩) rfl rfl rfl (Nat.le_of_ble_eq_true rfl) dX7_turn_18 ⟨Nat.le_of_ble_eq_true rfl, Nat.le_of_ble_eq_true rfl⟩ (fun r_223 _ H_224 locs_224 hu_223 hP_224 hD_224 hS_224 => ?_)
    have er_223 : r_223 = F_X5_count z_222.2.2.2 := hu_223
    clear hu_223
    replace hP_224 : va_P E.1 vwCl [(a3, .inl (E.2.1, n3, .inl z_222.2.2.2.2)), (h, .inr (8, [.ref qm])), (qm, .inl (E.2.1, 256, .inl z_222.2.2.1)), (h2, .inr (6, [.ref a2, .int q.1])), (a2, .inl (E.2.1, n2, .inl q.2)), (h3, .inr (6, [.ref a3, .int z_222.2.2.2.1]))] H_224 := hP_224
    replace hD_224 : va_D A [(a3, .inl (E.2.1, n3, .inl z_222.2.2.2.2)), (h, .inr (8, [.ref qm])), (qm, .inl (E.2.1, 256, .inl z_222.2.2.1)), (h2, .inr (6, [.ref a2, .int q.1])), (a2, .inl (E.2.1, n2, .inl q.2)), (h3, .inr (6, [.ref a3, .int z_222.2.2.2.1]))] := hD_224
    clear hP_222 hD_222 hS_222
    refine lv_icmp_ge (tgt := 101) hx hb dX7_turn_21 (by decide) (fun c_225 => ?_) (fun c_225 => (by have c_225 := (not_congr (g_rle (by omega))).mp c_225; exfalso; (have q9 : r_223 = d.1 := (by rw [er_223, hz_222]; exact L_turn_cnt _ _)); rw [q9] at c_225; omega))
    replace c_225 : r_223.toNatClampNeg ≤ d.1.toNatClampNeg := (g_rle (by omega)).mp c_225
    have hpost : ((z_222.2.2.1, z_222.2.2.2) : (Nat → Int32) × gRow) = F_X7_turn n2 n3 mx q d wv := (show F_X7_turn n2 n3 mx q d wv = ((z_222.2.2.1, z_222.2.2.2) : (Nat → Int32) × gRow) from (gLet_eq hu_151 (gLet_eq hz_222 (gLet_eq er_223 rfl)))).symm
    have hP9 := hP_224.sub (ws' := [(h, .inr (8, [.ref qm])), (qm, .inl (E.2.1, 256, .inl z_222.2.2.1)), (h2, .inr (6, [.ref a2, .int q.1])), (a2, .inl (E.2.1, n2, .inl q.2)), (h3, .inr (6, [.ref a3, .int z_222.2.2.2.1])), (a3, .inl (E.2.1, n3, .inl z_222.2.2.2.2))]) [1, 2, 3, 4, 5, 0] rfl
    have hD9 := hD_224.sub (ws' := [(h, .inr (8, [.ref qm])), (qm, .inl (E.2.1, 256, .inl z_222.2.2.1)), (h2, .inr (6, [.ref a2, .int q.1])), (a2, .inl (E.2.1, n2, .inl q.2)), (h3, .inr (6, [.ref a3, .int z_222.2.2.2.1])), (a3, .inl (E.2.1, n3, .inl z_222.2.2.2.2))]) [1, 2, 3, 4, 5, 0] (by decide) rfl
    exact W.vret hx hb hr (fun t ht hW => ⟨⟨(z_222.2.2.1, z_222.2.2.2), rfl, hpost, by rw [ht]; exact hP9, hD9⟩, hS_224.F ht⟩) hS_224.2.2 dX7_turn_101
