set_option maxHeartbeats 4000000 in
set_option maxRecDepth 100000 in
theorem k_X6_pick (E : gE) (l : Launch) (round : Int32) (i : Int32) : gMi E l yX6_pick wsX6_pick ({ frames := 0, cells := 0, slots := 0, locals := 0 }) 0 0 [.int round, .int i] [] (fun (rr : Int32) (_ : Unit) => rr = F_X6_pick round i) (fun (_ : Unit) => []) := by
  intro sz
  refine Met.ofW (cc := cX6_pick) (maxL := 2) (ret := (some .int)) (by decide) rfl ?_
  intro p e s m args below meth c s₁ B hml hv
  obtain ⟨rfl, hsz, hP, hV, hD0⟩ := hv
  have hx := B.exec
  have hb := B.bytes
  have hr := B.returns
  have hts := atoms_spec (ws := wsX6_pick) B.pre
  have hown : s.vm.findClass RX6 = some m.cls := findClass_of_methodNamed B.named
  have hlocks := B.notSynchronized
  subst hsz
  have hD := hD0.self (sz := s.heap.size)
  clear hD0
  generalize hAe : va_A [] s.heap.size = A at hD hV ⊢
  have hA : ∀ q : Nat, s.heap.size ≤ q → A q := fun q h => by rw [← hAe]; exact Or.inr h
  have hS : va_S A s.heap s.heap [] := va_S.rf
  have hK := hV.1
  have hF : CallFix p m c cX6_pick 2 s _ wsX6_pick RX6 := ⟨hx, hb, hml, hown, hts⟩
  have hl := lv_entry [.int round, .int i] (n := 2) (Nat.le_of_ble_eq_true rfl)
  rw [lg_entry_eq]
  generalize (lg_sl [.int round, .int i] ++ List.replicate (2 - (lg_sl [.int round, .int i]).length) Slot.unset).toArray = ls at hl ⊢
  have hl : lv_has ls 2 [(0, .int round), (1, .int i)] := hl
  refine lv_iload_n hx hb dX6_pick_0 rfl (lv_at hl 0 rfl) ?_
  by_cases c_7 : round = 0
  · refine lv_tableIn (off := 27) (tgt := 28) hx hb dX6_pick_1 (by rw [c_7]; decide) (by rw [c_7]; decide) (by rw [c_7]; rfl) (by decide) ?_
    refine lv_iload_n hx hb dX6_pick_28 rfl (lv_at hl 1 rfl) ?_
    refine lv_bipush (v := 15) hx hb dX6_pick_29 (by decide) ?_
    refine lv_iand hx hb dX6_pick_31 ?_
    have hpost : ((i &&& 15) : Int32) = F_X6_pick round i := (show F_X6_pick round i = ((i &&& 15) : Int32) from ((if_pos c_7).trans rfl)).symm
    have hP9 := hP.sub (ws' := []) [] rfl
    have hD9 := hD.sub (ws' := []) [] (by decide) rfl
    exact W.iret (v := (i &&& 15)) hx hb hr (fun t ht hW => ⟨⟨(i &&& 15), (), rfl, hpost, by rw [ht]; exact hP9, hD9⟩, hS.F ht⟩) hS.2.2 dX6_pick_32
  · by_cases c_8 : round = 1
    · refine lv_tableIn (off := 32) (tgt := 33) hx hb dX6_pick_1 (by rw [c_8]; decide) (by rw [c_8]; decide) (by rw [c_8]; rfl) (by decide) ?_
      refine lv_iconst (v := 5) hx hb dX6_pick_33 (by decide) ?_
      refine lv_iload_n hx hb dX6_pick_34 rfl (lv_at hl 1 rfl) ?_
      refine lv_imul hx hb dX6_pick_35 ?_
      refine lv_iconst (v := 1) hx hb dX6_pick_36 (by decide) ?_
      refine lv_iadd hx hb dX6_pick_37 ?_
      refine lv_bipush (v := 15) hx hb dX6_pick_38 (by decide) ?_
      refine lv_iand hx hb dX6_pick_40 ?_
      have hpost : ((((5 * i) + 1) &&& 15) : Int32) = F_X6_pick round i := (show F_X6_pick round i = ((((5 * i) + 1) &&& 15) : Int32) from ((if_neg c_7).trans ((if_pos c_8).trans rfl))).symm
      have hP9 := hP.sub (ws' := []) [] rfl
      have hD9 := hD.sub (ws' := []) [] (by decide) rfl
      exact W.iret (v := (((5 * i) + 1) &&& 15)) hx hb hr (fun t ht hW => ⟨⟨(((5 * i) + 1) &&& 15), (), rfl, hpost, by rw [ht]; exact hP9, hD9⟩, hS.F ht⟩) hS.2.2 dX6_pick_41
    · by_cases c_9 : round = 2
      · refine lv_tableIn (off := 41) (tgt := 42) hx hb dX6_pick_1 (by rw [c_9]; decide) (by rw [c_9]; decide) (by rw [c_9]; rfl) (by decide) ?_
        refine lv_iconst (v := 3) hx hb dX6_pick_42 (by decide) ?_
        refine lv_iload_n hx hb dX6_pick_43 rfl (lv_at hl 1 rfl) ?_
        refine lv_imul hx hb dX6_pick_44 ?_
        refine lv_iconst (v := 5) hx hb dX6_pick_45 (by decide) ?_
        refine lv_iadd hx hb dX6_pick_46 ?_
        refine lv_bipush (v := 15) hx hb dX6_pick_47 (by decide) ?_
        refine lv_iand hx hb dX6_pick_49 ?_
        have hpost : ((((3 * i) + 5) &&& 15) : Int32) = F_X6_pick round i := (show F_X6_pick round i = ((((3 * i) + 5) &&& 15) : Int32) from ((if_neg c_7).trans ((if_neg c_8).trans ((if_pos c_9).trans rfl)))).symm
        have hP9 := hP.sub (ws' := []) [] rfl
        have hD9 := hD.sub (ws' := []) [] (by decide) rfl
        exact W.iret (v := (((3 * i) + 5) &&& 15)) hx hb hr (fun t ht hW => ⟨⟨(((3 * i) + 5) &&& 15), (), rfl, hpost, by rw [ht]; exact hP9, hD9⟩, hS.F ht⟩) hS.2.2 dX6_pick_50
      · refine lv_tableOut (tgt := 51) hx hb dX6_pick_1 (g_out0_2 c_7 c_8 c_9) (by decide) ?_
        refine lv_bipush (v := 7) hx hb dX6_pick_51 (by decide) ?_
        refine lv_iload_n hx hb dX6_pick_53 rfl (lv_at hl 1 rfl) ?_
        refine lv_imul hx hb dX6_pick_54 ?_
        refine lv_bipush (v := 15) hx hb dX6_pick_55 (by decide) ?_
        refine lv_iand hx hb dX6_pick_57 ?_
        have hpost : (((7 * i) &&& 15) : Int32) = F_X6_pick round i := (show F_X6_pick round i = (((7 * i) &&& 15) : Int32) from ((if_neg c_7).trans ((if_neg c_8).trans ((if_neg c_9).trans rfl)))).symm
        have hP9 := hP.sub (ws' := []) [] rfl
        have hD9 := hD.sub (ws' := []) [] (by decide) rfl
        exact W.iret (v := ((7 * i) &&& 15)) hx hb hr (fun t ht hW => ⟨⟨((7 * i) &&& 15), (), rfl, hpost, by rw [ht]; exact hP9, hD9⟩, hS.F ht⟩) hS.2.2 dX6_pick_58
set_option maxHeartbeats 4000000 in
set_option maxRecDepth 100000 in
theorem k_X6_blend (E : gE) (l : Launch) (round : Int32) (vb : Int32) (vc : Int32) (vd : Int32) : gMi E l yX6_blend wsX6_blend ({ frames := 0, cells := 0, slots := 0, locals := 0 }) 0 0 [.int round, .int vb, .int vc, .int vd] [] (fun (rr : Int32) (_ : Unit) => rr = F_X6_blend round vb vc vd) (fun (_ : Unit) => []) := by
  intro sz
  refine Met.ofW (cc := cX6_blend) (maxL := 4) (ret := (some .int)) (by decide) rfl ?_
  intro p e s m args below meth c s₁ B hml hv
  obtain ⟨rfl, hsz, hP, hV, hD0⟩ := hv
  have hx := B.exec
  have hb := B.bytes
  have hr := B.returns
  have hts := atoms_spec (ws := wsX6_blend) B.pre
  have hown : s.vm.findClass RX6 = some m.cls := findClass_of_methodNamed B.named
  have hlocks := B.notSynchronized
  subst hsz
  have hD := hD0.self (sz := s.heap.size)
  clear hD0
  generalize hAe : va_A [] s.heap.size = A at hD hV ⊢
  have hA : ∀ q : Nat, s.heap.size ≤ q → A q := fun q h => by rw [← hAe]; exact Or.inr h
  have hS : va_S A s.heap s.heap [] := va_S.rf
  have hK := hV.1
  have hF : CallFix p m c cX6_blend 4 s _ wsX6_blend RX6 := ⟨hx, hb, hml, hown, hts⟩
  have hl := lv_entry [.int round, .int vb, .int vc, .int vd] (n := 4) (Nat.le_of_ble_eq_true rfl)
  rw [lg_entry_eq]
  generalize (lg_sl [.int round, .int vb, .int vc, .int vd] ++ List.replicate (4 - (lg_sl [.int round, .int vb, .int vc, .int vd]).length) Slot.unset).toArray = ls at hl ⊢
  have hl : lv_has ls 4 [(0, .int round), (1, .int vb), (2, .int vc), (3, .int vd)] := hl
  refine lv_iload_n hx hb dX6_blend_0 rfl (lv_at hl 0 rfl) ?_
  by_cases c_7 : round = 0
  · refine lv_tableIn (off := 27) (tgt := 28) hx hb dX6_blend_1 (by rw [c_7]; decide) (by rw [c_7]; decide) (by rw [c_7]; rfl) (by decide) ?_
    refine lv_iload_n hx hb dX6_blend_28 rfl (lv_at hl 1 rfl) ?_
    refine lv_iload_n hx hb dX6_blend_29 rfl (lv_at hl 2 rfl) ?_
    refine lv_iand hx hb dX6_blend_30 ?_
    refine lv_iload_n hx hb dX6_blend_31 rfl (lv_at hl 1 rfl) ?_
    refine lv_iconst (v := (-1)) hx hb dX6_blend_32 (by decide) ?_
    refine lv_ixor hx hb dX6_blend_33 ?_
    refine lv_iload_n hx hb dX6_blend_34 rfl (lv_at hl 3 rfl) ?_
    refine lv_iand hx hb dX6_blend_35 ?_
    refine lv_ior hx hb dX6_blend_36 ?_
    have hpost : (((vb &&& vc) ||| ((vb ^^^ (-1)) &&& vd)) : Int32) = F_X6_blend round vb vc vd := (show F_X6_blend round vb vc vd = (((vb &&& vc) ||| ((vb ^^^ (-1)) &&& vd)) : Int32) from ((if_pos c_7).trans rfl)).symm
    have hP9 := hP.sub (ws' := []) [] rfl
    have hD9 := hD.sub (ws' := []) [] (by decide) rfl
    exact W.iret (v := ((vb &&& vc) ||| ((vb ^^^ (-1)) &&& vd))) hx hb hr (fun t ht hW => ⟨⟨((vb &&& vc) ||| ((vb ^^^ (-1)) &&& vd)), (), rfl, hpost, by rw [ht]; exact hP9, hD9⟩, hS.F ht⟩) hS.2.2 dX6_blend_37
  · by_cases c_8 : round = 1
    · refine lv_tableIn (off := 37) (tgt := 38) hx hb dX6_blend_1 (by rw [c_8]; decide) (by rw [c_8]; decide) (by rw [c_8]; rfl) (by decide) ?_
      refine lv_iload_n hx hb dX6_blend_38 rfl (lv_at hl 3 rfl) ?_
      refine lv_iload_n hx hb dX6_blend_39 rfl (lv_at hl 1 rfl) ?_
      refine lv_iand hx hb dX6_blend_40 ?_
      refine lv_iload_n hx hb dX6_blend_41 rfl (lv_at hl 3 rfl) ?_
      refine lv_iconst (v := (-1)) hx hb dX6_blend_42 (by decide) ?_
      refine lv_ixor hx hb dX6_blend_43 ?_
      refine lv_iload_n hx hb dX6_blend_44 rfl (lv_at hl 2 rfl) ?_
      refine lv_iand hx hb dX6_blend_45 ?_
      refine lv_ior hx hb dX6_blend_46 ?_
      have hpost : (((vd &&& vb) ||| ((vd ^^^ (-1)) &&& vc)) : Int32) = F_X6_blend round vb vc vd := (show F_X6_blend round vb vc vd = (((vd &&& vb) ||| ((vd ^^^ (-1)) &&& vc)) : Int32) from ((if_neg c_7).trans ((if_pos c_8).trans rfl))).symm
      have hP9 := hP.sub (ws' := []) [] rfl
      have hD9 := hD.sub (ws' := []) [] (by decide) rfl
      exact W.iret (v := ((vd &&& vb) ||| ((vd ^^^ (-1)) &&& vc))) hx hb hr (fun t ht hW => ⟨⟨((vd &&& vb) ||| ((vd ^^^ (-1)) &&& vc)), (), rfl, hpost, by rw [ht]; exact hP9, hD9⟩, hS.F ht⟩) hS.2.2 dX6_blend_47
    · by_cases c_9 : round = 2
      · refine lv_tableIn (off := 47) (tgt := 48) hx hb dX6_blend_1 (by rw [c_9]; decide) (by rw [c_9]; decide) (by rw [c_9]; rfl) (by decide) ?_
        refine lv_iload_n hx hb dX6_blend_48 rfl (lv_at hl 1 rfl) ?_
        refine lv_iload_n hx hb dX6_blend_49 rfl (lv_at hl 2 rfl) ?_
        refine lv_ixor hx hb dX6_blend_50 ?_
        refine lv_iload_n hx hb dX6_blend_51 rfl (lv_at hl 3 rfl) ?_
        refine lv_ixor hx hb dX6_blend_52 ?_
        have hpost : (((vb ^^^ vc) ^^^ vd) : Int32) = F_X6_blend round vb vc vd := (show F_X6_blend round vb vc vd = (((vb ^^^ vc) ^^^ vd) : Int32) from ((if_neg c_7).trans ((if_neg c_8).trans ((if_pos c_9).trans rfl)))).symm
        have hP9 := hP.sub (ws' := []) [] rfl
        have hD9 := hD.sub (ws' := []) [] (by decide) rfl
        exact W.iret (v := ((vb ^^^ vc) ^^^ vd)) hx hb hr (fun t ht hW => ⟨⟨((vb ^^^ vc) ^^^ vd), (), rfl, hpost, by rw [ht]; exact hP9, hD9⟩, hS.F ht⟩) hS.2.2 dX6_blend_53
      · refine lv_tableOut (tgt := 54) hx hb dX6_blend_1 (g_out0_2 c_7 c_8 c_9) (by decide) ?_
        refine lv_iload_n hx hb dX6_blend_54 rfl (lv_at hl 2 rfl) ?_
        refine lv_iload_n hx hb dX6_blend_55 rfl (lv_at hl 1 rfl) ?_
        refine lv_iload_n hx hb dX6_blend_56 rfl (lv_at hl 3 rfl) ?_
        refine lv_iconst (v := (-1)) hx hb dX6_blend_57 (by decide) ?_
        refine lv_ixor hx hb dX6_blend_58 ?_
        refine lv_ior hx hb dX6_blend_59 ?_
        refine lv_ixor hx hb dX6_blend_60 ?_
        have hpost : ((vc ^^^ (vb ||| (vd ^^^ (-1)))) : Int32) = F_X6_blend round vb vc vd := (show F_X6_blend round vb vc vd = ((vc ^^^ (vb ||| (vd ^^^ (-1)))) : Int32) from ((if_neg c_7).trans ((if_neg c_8).trans ((if_neg c_9).trans rfl)))).symm
        have hP9 := hP.sub (ws' := []) [] rfl
        have hD9 := hD.sub (ws' := []) [] (by decide) rfl
        exact W.iret (v := (vc ^^^ (vb ||| (vd ^^^ (-1))))) hx hb hr (fun t ht hW => ⟨⟨(vc ^^^ (vb ||| (vd ^^^ (-1)))), (), rfl, hpost, by rw [ht]; exact hP9, hD9⟩, hS.F ht⟩) hS.2.2 dX6_blend_61
set_option maxHeartbeats 4000000 in
set_option maxRecDepth 100000 in
theorem k_X6_load (E : gE) (l : Launch) (h h2 qb qs a2 : Nat) (n2 : Nat) (bk : Nat → Int32) (q : gRow) (start : Int32) (hn2 : n2 < 2147483648) : gMv E l yX6_load wsX6_load ({ frames := 1, cells := 0, slots := 0, locals := 21 }) 0 0 [.ref h, .ref h2, .int start] [(h, .inr (7, [.ref qb, .ref qs])), (qb, .inl (E.2.1, 16, .inl bk)), (h2, .inr (6, [.ref a2, .int q.1])), (a2, .inl (E.2.1, n2, .inl q.2))] (fun (uu : Nat → Int32) => uu = F_X6_load n2 bk q start) (fun (uu : Nat → Int32) => [(h, .inr (7, [.ref qb, .ref qs])), (qb, .inl (E.2.1, 16, .inl uu)), (h2, .inr (6, [.ref a2, .int q.1])), (a2, .inl (E.2.1, n2, .inl q.2))]) := by
  intro sz
  refine Met.ofW (cc := cX6_load) (maxL := 6) (ret := none) (by decide) rfl ?_
  intro p e s m args below meth c s₁ B hml hv
  obtain ⟨rfl, hsz, hP, hV, hD0⟩ := hv
  have hx := B.exec
  have hb := B.bytes
  have hr := B.returns
  have hts := atoms_spec (ws := wsX6_load) B.pre
  have hown : s.vm.findClass RX6 = some m.cls := findClass_of_methodNamed B.named
  have hlocks := B.notSynchronized
  subst hsz
  have hD := hD0.self (sz := s.heap.size)
  clear hD0
  generalize hAe : va_A [(h, .inr (7, [.ref qb, .ref qs])), (qb, .inl (E.2.1, 16, .inl bk)), (h2, .inr (6, [.ref a2, .int q.1])), (a2, .inl (E.2.1, n2, .inl q.2))] s.heap.size = A at hD hV ⊢
  have hA : ∀ q : Nat, s.heap.size ≤ q → A q := fun q h => by rw [← hAe]; exact Or.inr h
  have hS : va_S A s.heap s.heap [] := va_S.rf
  have hK := hV.1
  have hF : CallFix p m c cX6_load 6 s _ wsX6_load RX6 := ⟨hx, hb, hml, hown, hts⟩
  have hl := lv_entry [.ref h, .ref h2, .int start] (n := 6) (Nat.le_of_ble_eq_true rfl)
  rw [lg_entry_eq]
  generalize (lg_sl [.ref h, .ref h2, .int start] ++ List.replicate (6 - (lg_sl [.ref h, .ref h2, .int start]).length) Slot.unset).toArray = ls at hl ⊢
  have hl : lv_has ls 6 [(0, .ref h), (1, .ref h2), (2, .int start)] := hl
  have in_X6 : ∀ w ∈ wsX60, w ∈ wsX6_load := by decide +kernel
  have w_0 := hts (.fieldLink RX6 7 "CryptRows$Small" "block" "[I") (by decide +kernel)
  refine lv_iconst (v := 0) hx hb dX6_load_0 (by decide) ?_
  refine lv_istore_n (lv' := [(3, .int 0), (0, .ref h), (1, .ref h2), (2, .int start)]) hx hb dX6_load_1 rfl hl (by decide) rfl (fun ls_279 hl_279 => ?_)
  clear hl
  refine g_up (N := 16) (B_X6_load_2 n2 q start) (bk : Nat → Int32) (Inv := fun i_0 z_382 H_0 locs_0 ls_0 => lv_has ls_0 6 [(3, .int (nI i_0)), (0, .ref h), (1, .ref h2), (2, .int start)] ∧ va_P E.1 vwCl [(h, .inr (7, [.ref qb, .ref qs])), (qb, .inl (E.2.1, 16, .inl z_382)), (h2, .inr (6, [.ref a2, .int q.1])), (a2, .inl (E.2.1, n2, .inl q.2))] H_0 ∧ va_D A [(h, .inr (7, [.ref qb, .ref qs])), (qb, .inl (E.2.1, 16, .inl z_382)), (h2, .inr (6, [.ref a2, .int q.1])), (a2, .inl (E.2.1, n2, .inl q.2))] ∧ va_S A s.heap H_0 locs_0) (G := fun H_0 locs_0 ls_0 => W _ _ _ _ _ _ _ _ _ _ H_0 locs_0 _ _ _ (F0 _ 2 ls_0 [])) ?_ ?_ ⟨lv_sub hl_279 [0, 1, 2, 3] rfl, hP, hD, hS⟩
  · intro j_383 i_383 z_383 H_383 locs_383 ls_383 hij_383 hz_383 hI_383 ih_383
    obtain ⟨hl_383, hP_383, hD_383, hS_383⟩ := hI_383
    replace hl_383 : lv_has ls_383 6 [(3, .int (nI i_383)), (0, .ref h), (1, .ref h2), (2, .int start)] := hl_383
    replace hP_383 : va_P E.1 vwCl [(h, .inr (7, [.ref qb, .ref qs])), (qb, .inl (E.2.1, 16, .inl z_383)), (h2, .inr (6, [.ref a2, .int q.1])), (a2, .inl (E.2.1, n2, .inl q.2))] H_383 := hP_383
    replace hD_383 : va_D A [(h, .inr (7, [.ref qb, .ref qs])), (qb, .inl (E.2.1, 16, .inl z_383)), (h2, .inr (6, [.ref a2, .int q.1])), (a2, .inl (E.2.1, n2, .inl q.2))] := hD_383
    clear hl_279 hP hD hS
    refine lv_iload_n hx hb dX6_load_2 rfl (lv_at hl_383 0 rfl) ?_
    refine lv_bipush (v := 16) hx hb dX6_load_3 (by decide) ?_
    refine lv_icmp_ge (tgt := 59) hx hb dX6_load_5 (by decide) (fun c_384 => (by have c_384 := (nI_leI (a := 16) (b := i_383) (by omega) (by omega)).mp c_384; exfalso; omega)) (fun c_384 => ?_)
    replace c_384 : ¬ 16 ≤ i_383 := (not_congr (nI_leI (a := 16) (b := i_383) (by omega) (by omega))).mp c_384
    refine lv_iconst (v := 0) hx hb dX6_load_8 (by decide) ?_
    refine lv_istore (lv' := [(4, .int 0), (3, .int (nI i_383)), (0, .ref h), (1, .ref h2), (2, .int start)]) hx hb dX6_load_9 hl_383 (by decide) rfl (fun ls_385 hl_385 => ?_)
    clear hl_383
    refine lv_iconst (v := 3) hx hb dX6_load_11 (by decide) ?_
    refine lv_istore (lv' := [(5, .int 3), (4, .int 0), (3, .int (nI i_383)), (0, .ref h), (1, .ref h2), (2, .int start)]) hx hb dX6_load_12 hl_385 (by decide) rfl (fun ls_386 hl_386 => ?_)
    clear hl_385
    refine lv_iload hx hb dX6_load_14 (lv_at hl_386 0 rfl) ?_
    refine lv_if_lt (tgt := 45) hx hb dX6_load_16 (by decide) (fun c_387 => absurd c_387 (by decide)) (fun c_387 => ?_)
    refine lv_iload hx hb dX6_load_19 (lv_at hl_386 1 rfl) ?_
    refine lv_bipush (v := 8) hx hb dX6_load_21 (by decide) ?_
    refine lv_ishl hx hb dX6_load_23 ?_
    refine lv_topi (fun y_388 ey_388 => ?_)
    obtain rfl : y_388 = 0 := ey_388.trans (by decide)
    refine lv_aload_n hx hb dX6_load_24 rfl (lv_at hl_386 4 rfl) ?_
    refine lv_iload_n hx hb dX6_load_25 rfl (lv_at hl_386 5 rfl) ?_
    refine lv_iconst (v := 4) hx hb dX6_load_26 (by decide) ?_
    refine lv_iload_n hx hb dX6_load_27 rfl (lv_at hl_386 2 rfl) ?_
    refine lv_imul hx hb dX6_load_28 ?_
    refine lv_topi (fun y_389 ey_389 => ?_)
    obtain rfl : y_389 = (nI (4 * i_383)) := ey_389.trans (pk_mul _ _)
    refine lv_iadd hx hb dX6_load_29 ?_
    refine lv_iload hx hb dX6_load_30 (lv_at hl_386 0 rfl) ?_
    refine lv_iadd hx hb dX6_load_32 ?_
    refine gVi hF hl_386 hV hP_383 hD_383 hS_383 hA [2, 3] [0, 1] (wc := [(h2, .inr (6, [.ref a2, .int q.1])), (a2, .inl (E.2.1, n2, .inl q.2))]) (wr := [(h, .inr (7, [.ref qb, .ref qs])), (qb, .inl (E.2.1, 16, .inl z_383))]) rfl rfl rfl (by decide) 0 6 rfl rfl rfl (k_X5_closedAt E l h2 a2 n2 q ((start + (nI (4 * i_383))) + 3) (by omega)) (cwV 1 hts gX6_load_X5_closedAt rfl rfl rfl (by decide +kernel) ⟨Nat.le_of_ble_eq_true rfl, Nat.le_of_ble_eq_true rfl⟩) rfl rfl rfl (Nat.le_of_ble_eq_true rfl) dX6_load_33 ⟨Nat.le_of_ble_eq_true rfl, Nat.le_of_ble_eq_true rfl⟩ (fun r_390 _ H_391 locs_391 hu_390 hP_391 hD_391 hS_391 => ?_)
    have er_390 : r_390 = F_X5_closedAt n2 q ((start + (nI (4 * i_383))) + 3) := hu_390
    clear hu_390
    replace hP_391 : va_P E.1 vwCl [(h, .inr (7, [.ref qb, .ref qs])), (qb, .inl (E.2.1, 16, .inl z_383)), (h2, .inr (6, [.ref a2, .int q.1])), (a2, .inl (E.2.1, n2, .inl q.2))] H_391 := hP_391
    replace hD_391 : va_D A [(h, .inr (7, [.ref qb, .ref qs])), (qb, .inl (E.2.1, 16, .inl z_383)), (h2, .inr (6, [.ref a2, .int q.1])), (a2, .inl (E.2.1, n2, .inl q.2))] := hD_391
    clear hP_383 hD_383 hS_383
    refine lv_ior hx hb dX6_load_36 ?_
    refine lv_istore (lv' := [(4, .int (0 ||| r_390)), (5, .int 3), (3, .int (nI i_383)), (0, .ref h), (1, .ref h2), (2, .int start)]) hx hb dX6_load_37 hl_386 (by decide) rfl (fun ls_392 hl_392 => ?_)
    clear hl_386
    refine lv_iinc (v := 2) (lv' := [(5, .int 2), (4, .int (0 ||| r_390)), (3, .int (nI i_383)), (0, .ref h), (1, .ref h2), (2, .int start)]) hx hb dX6_load_39 hl_392 (k := 1) rfl (by decide) (by decide) rfl (fun ls_393 hl_393 => ?_)
    clear hl_392
    refine lv_goto (tgt := 14) hx hb dX6_load_42 (by decide) ?_
    refine lv_iload hx hb dX6_load_14 (lv_at hl_393 0 rfl) ?_
    refine lv_if_lt (tgt := 45) hx hb dX6_load_16 (by decide) (fun c_394 => absurd c_394 (by decide)) (fun c_394 => ?_)
    refine lv_iload hx hb dX6_load_19 (lv_at hl_393 1 rfl) ?_
    refine lv_bipush (v := 8) hx hb dX6_load_21 (by decide) ?_
    refine lv_ishl hx hb dX6_load_23 ?_
    refine lv_aload_n hx hb dX6_load_24 rfl (lv_at hl_393 4 rfl) ?_
    refine lv_iload_n hx hb dX6_load_25 rfl (lv_at hl_393 5 rfl) ?_
    refine lv_iconst (v := 4) hx hb dX6_load_26 (by decide) ?_
    refine lv_iload_n hx hb dX6_load_27 rfl (lv_at hl_393 2 rfl) ?_
    refine lv_imul hx hb dX6_load_28 ?_
    refine lv_topi (fun y_395 ey_395 => ?_)
    obtain rfl : y_395 = (nI (4 * i_383)) := ey_395.trans (pk_mul _ _)
    refine lv_iadd hx hb dX6_load_29 ?_
    refine lv_iload hx hb dX6_load_30 (lv_at hl_393 0 rfl) ?_
    refine lv_iadd hx hb dX6_load_32 ?_
    refine gVi hF hl_393 hV hP_391 hD_391 hS_391 hA [2, 3] [0, 1] (wc := [(h2, .inr (6, [.ref a2, .int q.1])), (a2, .inl (E.2.1, n2, .inl q.2))]) (wr := [(h, .inr (7, [.ref qb, .ref qs])), (qb, .inl (E.2.1, 16, .inl z_383))]) rfl rfl rfl (by decide) 0 6 rfl rfl rfl (k_X5_closedAt E l h2 a2 n2 q ((start + (nI (4 * i_383))) + 2) (by omega)) (cwV 1 hts gX6_load_X5_closedAt rfl rfl rfl (by decide +kernel) ⟨Nat.le_of_ble_eq_true rfl, Nat.le_of_ble_eq_true rfl⟩) rfl rfl rfl (Nat.le_of_ble_eq_true rfl) dX6_load_33 ⟨Nat.le_of_ble_eq_true rfl, Nat.le_of_ble_eq_true rfl⟩ (fun r_396 _ H_397 locs_397 hu_396 hP_397 hD_397 hS_397 => ?_)
    have er_396 : r_396 = F_X5_closedAt n2 q ((start + (nI (4 * i_383))) + 2) := hu_396
    clear hu_396
    replace hP_397 : va_P E.1 vwCl [(h, .inr (7, [.ref qb, .ref qs])), (qb, .inl (E.2.1, 16, .inl z_383)), (h2, .inr (6, [.ref a2, .int q.1])), (a2, .inl (E.2.1, n2, .inl q.2))] H_397 := hP_397
    replace hD_397 : va_D A [(h, .inr (7, [.ref qb, .ref qs])), (qb, .inl (E.2.1, 16, .inl z_383)), (h2, .inr (6, [.ref a2, .int q.1])), (a2, .inl (E.2.1, n2, .inl q.2))] := hD_397
    clear hP_391 hD_391 hS_391
    refine lv_ior hx hb dX6_load_36 ?_
    refine lv_istore (lv' := [(4, .int (((0 ||| r_390) <<< (8 &&& 31)) ||| r_396)), (5, .int 2), (3, .int (nI i_383)), (0, .ref h), (1, .ref h2), (2, .int start)]) hx hb dX6_load_37 hl_393 (by decide) rfl (fun ls_398 hl_398 => ?_)
    clear hl_393
    refine lv_iinc (v := 1) (lv' := [(5, .int 1), (4, .int (((0 ||| r_390) <<< (8 &&& 31)) ||| r_396)), (3, .int (nI i_383)), (0, .ref h), (1, .ref h2), (2, .int start)]) hx hb dX6_load_39 hl_398 (k := 1) rfl (by decide) (by decide) rfl (fun ls_399 hl_399 => ?_)
    clear hl_398
    refine lv_goto (tgt := 14) hx hb dX6_load_42 (by decide) ?_
    refine lv_iload hx hb dX6_load_14 (lv_at hl_399 0 rfl) ?_
    refine lv_if_lt (tgt := 45) hx hb dX6_load_16 (by decide) (fun c_400 => absurd c_400 (by decide)) (fun c_400 => ?_)
    refine lv_iload hx hb dX6_load_19 (lv_at hl_399 1 rfl) ?_
    refine lv_bipush (v := 8) hx hb dX6_load_21 (by decide) ?_
    refine lv_ishl hx hb dX6_load_23 ?_
    refine lv_aload_n hx hb dX6_load_24 rfl (lv_at hl_399 4 rfl) ?_
    refine lv_iload_n hx hb dX6_load_25 rfl (lv_at hl_399 5 rfl) ?_
    refine lv_iconst (v := 4) hx hb dX6_load_26 (by decide) ?_
    refine lv_iload_n hx hb dX6_load_27 rfl (lv_at hl_399 2 rfl) ?_
    refine lv_imul hx hb dX6_load_28 ?_
    refine lv_topi (fun y_401 ey_401 => ?_)
    obtain rfl : y_401 = (nI (4 * i_383)) := ey_401.trans (pk_mul _ _)
    refine lv_iadd hx hb dX6_load_29 ?_
    refine lv_iload hx hb dX6_load_30 (lv_at hl_399 0 rfl) ?_
    refine lv_iadd hx hb dX6_load_32 ?_
    refine gVi hF hl_399 hV hP_397 hD_397 hS_397 hA [2, 3] [0, 1] (wc := [(h2, .inr (6, [.ref a2, .int q.1])), (a2, .inl (E.2.1, n2, .inl q.2))]) (wr := [(h, .inr (7, [.ref qb, .ref qs])), (qb, .inl (E.2.1, 16, .inl z_383))]) rfl rfl rfl (by decide) 0 6 rfl rfl rfl (k_X5_closedAt E l h2 a2 n2 q ((start + (nI (4 * i_383))) + 1) (by omega)) (cwV 1 hts gX6_load_X5_closedAt rfl rfl rfl (by decide +kernel) ⟨Nat.le_of_ble_eq_true rfl, Nat.le_of_ble_eq_true rfl⟩) rfl rfl rfl (Nat.le_of_ble_eq_true rfl) dX6_load_33 ⟨Nat.le_of_ble_eq_true rfl, Nat.le_of_ble_eq_true rfl⟩ (fun r_402 _ H_403 locs_403 hu_402 hP_403 hD_403 hS_403 => ?_)
    have er_402 : r_402 = F_X5_closedAt n2 q ((start + (nI (4 * i_383))) + 1) := hu_402
    clear hu_402
    replace hP_403 : va_P E.1 vwCl [(h, .inr (7, [.ref qb, .ref qs])), (qb, .inl (E.2.1, 16, .inl z_383)), (h2, .inr (6, [.ref a2, .int q.1])), (a2, .inl (E.2.1, n2, .inl q.2))] H_403 := hP_403
    replace hD_403 : va_D A [(h, .inr (7, [.ref qb, .ref qs])), (qb, .inl (E.2.1, 16, .inl z_383)), (h2, .inr (6, [.ref a2, .int q.1])), (a2, .inl (E.2.1, n2, .inl q.2))] := hD_403
    clear hP_397 hD_397 hS_397
    refine lv_ior hx hb dX6_load_36 ?_
    refine lv_topi (fun v_404 ev_404 => ?_)
    refine lv_istore (lv' := [(4, .int v_404), (5, .int 1), (3, .int (nI i_383)), (0, .ref h), (1, .ref h2), (2, .int start)]) hx hb dX6_load_37 hl_399 (by decide) rfl (fun ls_405 hl_405 => ?_)
    clear hl_399
    refine lv_iinc (v := 0) (lv' := [(5, .int 0), (4, .int v_404), (3, .int (nI i_383)), (0, .ref h), (1, .ref h2), (2, .int start)]) hx hb dX6_load_39 hl_405 (k := 1) rfl (by decide) (by decide) rfl (fun ls_406 hl_406 => ?_)
    clear hl_405
    refine lv_goto (tgt := 14) hx hb dX6_load_42 (by decide) ?_
    refine lv_iload hx hb dX6_load_14 (lv_at hl_406 0 rfl) ?_
    refine lv_if_lt (tgt := 45) hx hb dX6_load_16 (by decide) (fun c_407 => absurd c_407 (by decide)) (fun c_407 => ?_)
    refine lv_iload hx hb dX6_load_19 (lv_at hl_406 1 rfl) ?_
    refine lv_bipush (v := 8) hx hb dX6_load_21 (by decide) ?_
    refine lv_ishl hx hb dX6_load_23 ?_
    refine lv_aload_n hx hb dX6_load_24 rfl (lv_at hl_406 4 rfl) ?_
    refine lv_iload_n hx hb dX6_load_25 rfl (lv_at hl_406 5 rfl) ?_
    refine lv_iconst (v := 4) hx hb dX6_load_26 (by decide) ?_
    refine lv_iload_n hx hb dX6_load_27 rfl (lv_at hl_406 2 rfl) ?_
    refine lv_imul hx hb dX6_load_28 ?_
    refine lv_topi (fun y_408 ey_408 => ?_)
    obtain rfl : y_408 = (nI (4 * i_383)) := ey_408.trans (pk_mul _ _)
    refine lv_iadd hx hb dX6_load_29 ?_
    refine lv_iload hx hb dX6_load_30 (lv_at hl_406 0 rfl) ?_
    refine lv_iadd hx hb dX6_load_32 ?_
    refine gVi hF hl_406 hV hP_403 hD_403 hS_403 hA [2, 3] [0, 1] (wc := [(h2, .inr (6, [.ref a2, .int q.1])), (a2, .inl (E.2.1, n2, .inl q.2))]) (wr := [(h, .inr (7, [.ref qb, .ref qs])), (qb, .inl (E.2.1, 16, .inl z_383))]) rfl rfl rfl (by decide) 0 6 rfl rfl rfl (k_X5_closedAt E l h2 a2 n2 q ((start + (nI (4 * i_383))) + 0) (by omega)) (cwV 1 hts gX6_load_X5_closedAt rfl rfl rfl (by decide +kernel) ⟨Nat.le_of_ble_eq_true rfl, Nat.le_of_ble_eq_true rfl⟩) rfl rfl rfl (Nat.le_of_ble_eq_true rfl) dX6_load_33 ⟨Nat.le_of_ble_eq_true rfl, Nat.le_of_ble_eq_true rfl⟩ (fun r_409 _ H_410 locs_410 hu_409 hP_410 hD_410 hS_410 => ?_)
    have er_409 : r_409 = F_X5_closedAt n2 q ((start + (nI (4 * i_383))) + 0) := hu_409
    clear hu_409
    replace hP_410 : va_P E.1 vwCl [(h, .inr (7, [.ref qb, .ref qs])), (qb, .inl (E.2.1, 16, .inl z_383)), (h2, .inr (6, [.ref a2, .int q.1])), (a2, .inl (E.2.1, n2, .inl q.2))] H_410 := hP_410
    replace hD_410 : va_D A [(h, .inr (7, [.ref qb, .ref qs])), (qb, .inl (E.2.1, 16, .inl z_383)), (h2, .inr (6, [.ref a2, .int q.1])), (a2, .inl (E.2.1, n2, .inl q.2))] := hD_410
    clear hP_403 hD_403 hS_403
    refine lv_ior hx hb dX6_load_36 ?_
    refine lv_istore (lv' := [(4, .int ((v_404 <<< (8 &&& 31)) ||| r_409)), (5, .int 0), (3, .int (nI i_383)), (0, .ref h), (1, .ref h2), (2, .int start)]) hx hb dX6_load_37 hl_406 (by decide) rfl (fun ls_411 hl_411 => ?_)
    clear hl_406
    refine lv_iinc (v := (-1)) (lv' := [(5, .int (-1)), (4, .int ((v_404 <<< (8 &&& 31)) ||| r_409)), (3, .int (nI i_383)), (0, .ref h), (1, .ref h2), (2, .int start)]) hx hb dX6_load_39 hl_411 (k := 1) rfl (by decide) (by decide) rfl (fun ls_412 hl_412 => ?_)
    clear hl_411
    refine lv_goto (tgt := 14) hx hb dX6_load_42 (by decide) ?_
    refine lv_iload hx hb dX6_load_14 (lv_at hl_412 0 rfl) ?_
    refine lv_if_lt (tgt := 45) hx hb dX6_load_16 (by decide) (fun c_413 => ?_) (fun c_413 => absurd (by decide) c_413)
    refine lv_aload_n hx hb dX6_load_45 rfl (lv_at hl_412 3 rfl) ?_
    refine va_get (D := E.1) (ci := 7) (v := .ref qb) (C := RX6) (T := TX6) (N := 2) hx hb hts in_X6 hown hK hP_410 0 rfl rfl 0 (by decide) w_0 (fun _ h9 => h9) rfl dX6_load_46 ?_
    refine lv_iload_n hx hb dX6_load_49 rfl (lv_at hl_412 2 rfl) ?_
    refine lv_iload hx hb dX6_load_50 (lv_at hl_412 1 rfl) ?_
    refine g_iast (e0 := i_383) hx hb hK hP_410 hD_410 hS_410 1 0 rfl rfl (by omega) (by omega) dX6_load_52 (fun H_414 locs_414 hP_414 hD_414 hS_414 => ?_)
    replace hP_414 : va_P E.1 vwCl [(h, .inr (7, [.ref qb, .ref qs])), (qb, .inl (E.2.1, 16, .inl (upd z_383 i_383 ((v_404 <<< (8 &&& 31)) ||| r_409)))), (h2, .inr (6, [.ref a2, .int q.1])), (a2, .inl (E.2.1, n2, .inl q.2))] H_414 := hP_414
    replace hD_414 : va_D A [(h, .inr (7, [.ref qb, .ref qs])), (qb, .inl (E.2.1, 16, .inl (upd z_383 i_383 ((v_404 <<< (8 &&& 31)) ||| r_409)))), (h2, .inr (6, [.ref a2, .int q.1])), (a2, .inl (E.2.1, n2, .inl q.2))] := hD_414
    clear hP_410 hD_410 hS_410
    refine lv_iinc (v := (nI (i_383 + 1))) (lv' := [(3, .int (nI (i_383 + 1))), (5, .int (-1)), (4, .int ((v_404 <<< (8 &&& 31)) ||| r_409)), (0, .ref h), (1, .ref h2), (2, .int start)]) hx hb dX6_load_53 hl_412 (k := 2) rfl (nI_add _ 1) (by decide) rfl (fun ls_415 hl_415 => ?_)
    clear hl_412
    refine lv_goto (tgt := 2) hx hb dX6_load_56 (by decide) ?_
    exact ih_383 ((upd z_383 i_383 ((v_404 <<< (8 &&& 31)) ||| r_409)) : Nat → Int32) _ _ _ (((show (B_X6_load_2 n2 q start) i_383 z_383 = _ from (gLet_eq er_390 (gLet_eq er_396 (gLet_eq er_402 (gLet_eq ev_404 (gLet_eq er_409 rfl)))))).symm.trans (congrArg ((B_X6_load_2 n2 q start) i_383) hz_383)).trans (itr_s _ _ _).symm) ⟨lv_sub hl_415 [0, 3, 4, 5] rfl, (hP_414.sub [0, 1, 2, 3] rfl), (hD_414.sub [0, 1, 2, 3] (by decide) rfl), hS_414⟩
  · intro z_416 H_416 locs_416 ls_416 hz_416 hI_416
    obtain ⟨hl_416, hP_416, hD_416, hS_416⟩ := hI_416
    replace hl_416 : lv_has ls_416 6 [(3, .int (nI 16)), (0, .ref h), (1, .ref h2), (2, .int start)] := hl_416
    replace hP_416 : va_P E.1 vwCl [(h, .inr (7, [.ref qb, .ref qs])), (qb, .inl (E.2.1, 16, .inl z_416)), (h2, .inr (6, [.ref a2, .int q.1])), (a2, .inl (E.2.1, n2, .inl q.2))] H_416 := hP_416
    replace hD_416 : va_D A [(h, .inr (7, [.ref qb, .ref qs])), (qb, .inl (E.2.1, 16, .inl z_416)), (h2, .inr (6, [.ref a2, .int q.1])), (a2, .inl (E.2.1, n2, .inl q.2))] := hD_416
    clear hl_279 hP hD hS
    refine lv_iload_n hx hb dX6_load_2 rfl (lv_at hl_416 0 rfl) ?_
    refine lv_bipush (v := 16) hx hb dX6_load_3 (by decide) ?_
    refine lv_icmp_ge (tgt := 59) hx hb dX6_load_5 (by decide) (fun c_417 => ?_) (fun c_417 => (by have c_417 := (not_congr (nI_leI (a := 16) (b := 16) (by omega) (by omega))).mp c_417; exfalso; omega))
    replace c_417 : 16 ≤ 16 := (nI_leI (a := 16) (b := 16) (by omega) (by omega)).mp c_417
    have hpost : (z_416 : Nat → Int32) = F_X6_load n2 bk q start := (show F_X6_load n2 bk q start = (z_416 : Nat → Int32) from (gLet_eq hz_416 rfl)).symm
    have hP9 := hP_416.sub (ws' := [(h, .inr (7, [.ref qb, .ref qs])), (qb, .inl (E.2.1, 16, .inl z_416)), (h2, .inr (6, [.ref a2, .int q.1])), (a2, .inl (E.2.1, n2, .inl q.2))]) [0, 1, 2, 3] rfl
    have hD9 := hD_416.sub (ws' := [(h, .inr (7, [.ref qb, .ref qs])), (qb, .inl (E.2.1, 16, .inl z_416)), (h2, .inr (6, [.ref a2, .int q.1])), (a2, .inl (E.2.1, n2, .inl q.2))]) [0, 1, 2, 3] (by decide) rfl
    exact W.vret hx hb hr (fun t ht hW => ⟨⟨z_416, rfl, hpost, by rw [ht]; exact hP9, hD9⟩, hS_416.F ht⟩) hS_416.2.2 dX6_load_59
set_option maxHeartbeats 4000000 in
set_option maxRecDepth 100000 in
theorem k_X6_mix (E : gE) (l : Launch) (h qb qs : Nat) (bk : Nat → Int32) (st : Nat → Int32) : gMv E l yX6_mix wsX6_mix ({ frames := 1, cells := 0, slots := 0, locals := 23 }) 0 0 [.ref h] [(h, .inr (7, [.ref qb, .ref qs])), (qb, .inl (E.2.1, 16, .inl bk)), (qs, .inl (E.2.1, 4, .inl st))] (fun (uu : Nat → Int32) => uu = F_X6_mix bk st) (fun (uu : Nat → Int32) => [(h, .inr (7, [.ref qb, .ref qs])), (qb, .inl (E.2.1, 16, .inl bk)), (qs, .inl (E.2.1, 4, .inl uu))]) := by
  intro sz
  refine Met.ofW (cc := cX6_mix) (maxL := 9) (ret := none) (by decide) rfl ?_
  intro p e s m args below meth c s₁ B hml hv
  obtain ⟨rfl, hsz, hP, hV, hD0⟩ := hv
  have hx := B.exec
  have hb := B.bytes
  have hr := B.returns
  have hts := atoms_spec (ws := wsX6_mix) B.pre
  have hown : s.vm.findClass RX6 = some m.cls := findClass_of_methodNamed B.named
  have hlocks := B.notSynchronized
  subst hsz
  have hD := hD0.self (sz := s.heap.size)
  clear hD0
  generalize hAe : va_A [(h, .inr (7, [.ref qb, .ref qs])), (qb, .inl (E.2.1, 16, .inl bk)), (qs, .inl (E.2.1, 4, .inl st))] s.heap.size = A at hD hV ⊢
  have hA : ∀ q : Nat, s.heap.size ≤ q → A q := fun q h => by rw [← hAe]; exact Or.inr h
  have hS : va_S A s.heap s.heap [] := va_S.rf
  have hK := hV.1
  have hF : CallFix p m c cX6_mix 9 s _ wsX6_mix RX6 := ⟨hx, hb, hml, hown, hts⟩
  have hl := lv_entry [.ref h] (n := 9) (Nat.le_of_ble_eq_true rfl)
  rw [lg_entry_eq]
  generalize (lg_sl [.ref h] ++ List.replicate (9 - (lg_sl [.ref h]).length) Slot.unset).toArray = ls at hl ⊢
  have hl : lv_has ls 9 [(0, .ref h)] := hl
  have in_X6 : ∀ w ∈ wsX60, w ∈ wsX6_mix := by decide +kernel
  have w_0 := hts (.fieldLink RX6 13 "CryptRows$Small" "state" "[I") (by decide +kernel)
  have w_1 := hts (.fieldLink RX6 44 "CryptRows$Small" "SINES" "[I") (by decide +kernel)
  have w_2 := hts (.fieldLink RX6 7 "CryptRows$Small" "block" "[I") (by decide +kernel)
  have w_3 := hts (.fieldLink RX6 55 "CryptRows$Small" "TURNS" "[I") (by decide +kernel)
  refine lv_aload_n hx hb dX6_mix_0 rfl (lv_at hl 0 rfl) ?_
  refine va_get (D := E.1) (ci := 7) (v := .ref qs) (C := RX6) (T := TX6) (N := 2) hx hb hts in_X6 hown hK hP 0 rfl rfl 1 (by decide) w_0 (fun _ h9 => h9) rfl dX6_mix_1 ?_
  refine lv_iconst (v := 0) hx hb dX6_mix_4 (by decide) ?_
  refine g_iald (e0 := 0) hx hb hK hP 2 0 rfl rfl (by omega) (by omega) dX6_mix_5 ?_
  refine lv_istore_n (lv' := [(1, .int (st 0)), (0, .ref h)]) hx hb dX6_mix_6 rfl hl (by decide) rfl (fun ls_199 hl_199 => ?_)
  clear hl
  refine lv_aload_n hx hb dX6_mix_7 rfl (lv_at hl_199 1 rfl) ?_
  refine va_get (D := E.1) (ci := 7) (v := .ref qs) (C := RX6) (T := TX6) (N := 2) hx hb hts in_X6 hown hK hP 0 rfl rfl 1 (by decide) w_0 (fun _ h9 => h9) rfl dX6_mix_8 ?_
  refine lv_iconst (v := 1) hx hb dX6_mix_11 (by decide) ?_
  refine g_iald (e0 := 1) hx hb hK hP 2 0 rfl rfl (by omega) (by omega) dX6_mix_12 ?_
  refine lv_istore_n (lv' := [(2, .int (st 1)), (1, .int (st 0)), (0, .ref h)]) hx hb dX6_mix_13 rfl hl_199 (by decide) rfl (fun ls_200 hl_200 => ?_)
  clear hl_199
  refine lv_aload_n hx hb dX6_mix_14 rfl (lv_at hl_200 2 rfl) ?_
  refine va_get (D := E.1) (ci := 7) (v := .ref qs) (C := RX6) (T := TX6) (N := 2) hx hb hts in_X6 hown hK hP 0 rfl rfl 1 (by decide) w_0 (fun _ h9 => h9) rfl dX6_mix_15 ?_
  refine lv_iconst (v := 2) hx hb dX6_mix_18 (by decide) ?_
  refine g_iald (e0 := 2) hx hb hK hP 2 0 rfl rfl (by omega) (by omega) dX6_mix_19 ?_
  refine lv_istore_n (lv' := [(3, .int (st 2)), (2, .int (st 1)), (1, .int (st 0)), (0, .ref h)]) hx hb dX6_mix_20 rfl hl_200 (by decide) rfl (fun ls_201 hl_201 => ?_)
  clear hl_200
  refine lv_aload_n hx hb dX6_mix_21 rfl (lv_at hl_201 3 rfl) ?_
  refine va_get (D := E.1) (ci := 7) (v := .ref qs) (C := RX6) (T := TX6) (N := 2) hx hb hts in_X6 hown hK hP 0 rfl rfl 1 (by decide) w_0 (fun _ h9 => h9) rfl dX6_mix_22 ?_
  refine lv_iconst (v := 3) hx hb dX6_mix_25 (by decide) ?_
  refine g_iald (e0 := 3) hx hb hK hP 2 0 rfl rfl (by omega) (by omega) dX6_mix_26 ?_
  refine lv_istore (lv' := [(4, .int (st 3)), (3, .int (st 2)), (2, .int (st 1)), (1, .int (st 0)), (0, .ref h)]) hx hb dX6_mix_27 hl_201 (by decide) rfl (fun ls_202 hl_202 => ?_)
  clear hl_201
  refine lv_iconst (v := 0) hx hb dX6_mix_29 (by decide) ?_
  refine lv_istore (lv' := [(5, .int 0), (4, .int (st 3)), (3, .int (st 2)), (2, .int (st 1)), (1, .int (st 0)), (0, .ref h)]) hx hb dX6_mix_30 hl_202 (by decide) rfl (fun ls_203 hl_203 => ?_)
  clear hl_202
  refine g_up (N := 64) (B_X6_mix_32 bk) (((st 0), (st 1), (st 2), (st 3)) : Int32 × Int32 × Int32 × Int32) (Inv := fun i_0 z_270 H_0 locs_0 ls_0 => lv_has ls_0 9 [(5, .int (nI i_0)), (4, .int z_270.2.2.2), (3, .int z_270.2.2.1), (2, .int z_270.2.1), (1, .int z_270.1), (0, .ref h)] ∧ va_P E.1 vwCl [(h, .inr (7, [.ref qb, .ref qs])), (qb, .inl (E.2.1, 16, .inl bk)), (qs, .inl (E.2.1, 4, .inl st))] H_0 ∧ va_D A [(h, .inr (7, [.ref qb, .ref qs])), (qb, .inl (E.2.1, 16, .inl bk)), (qs, .inl (E.2.1, 4, .inl st))] ∧ va_S A s.heap H_0 locs_0) (G := fun H_0 locs_0 ls_0 => W _ _ _ _ _ _ _ _ _ _ H_0 locs_0 _ _ _ (F0 _ 32 ls_0 [])) ?_ ?_ ⟨lv_sub hl_203 [0, 1, 2, 3, 4, 5] rfl, hP, hD, hS⟩
  · intro j_271 i_271 z_271 H_271 locs_271 ls_271 hij_271 hz_271 hI_271 ih_271
    obtain ⟨hl_271, hP_271, hD_271, hS_271⟩ := hI_271
    replace hl_271 : lv_has ls_271 9 [(5, .int (nI i_271)), (4, .int z_271.2.2.2), (3, .int z_271.2.2.1), (2, .int z_271.2.1), (1, .int z_271.1), (0, .ref h)] := hl_271
    replace hP_271 : va_P E.1 vwCl [(h, .inr (7, [.ref qb, .ref qs])), (qb, .inl (E.2.1, 16, .inl bk)), (qs, .inl (E.2.1, 4, .inl st))] H_271 := hP_271
    replace hD_271 : va_D A [(h, .inr (7, [.ref qb, .ref qs])), (qb, .inl (E.2.1, 16, .inl bk)), (qs, .inl (E.2.1, 4, .inl st))] := hD_271
    clear hl_203 hP hD hS
    refine lv_iload hx hb dX6_mix_32 (lv_at hl_271 0 rfl) ?_
    refine lv_bipush (v := 64) hx hb dX6_mix_34 (by decide) ?_
    refine lv_icmp_ge (tgt := 124) hx hb dX6_mix_36 (by decide) (fun c_272 => (by have c_272 := (nI_leI (a := 64) (b := i_271) (by omega) (by omega)).mp c_272; exfalso; omega)) (fun c_272 => ?_)
    replace c_272 : ¬ 64 ≤ i_271 := (not_congr (nI_leI (a := 64) (b := i_271) (by omega) (by omega))).mp c_272
    refine lv_iload hx hb dX6_mix_39 (lv_at hl_271 0 rfl) ?_
    refine lv_iconst (v := 4) hx hb dX6_mix_41 (by decide) ?_
    refine lv_ishr hx hb dX6_mix_42 ?_
    refine lv_topi (fun y_273 ey_273 => ?_)
    obtain rfl : y_273 = (nI (i_271 / 16)) := ey_273.trans (pk_shrN (n := i_271) (by omega) _ 4 (by decide))
    refine lv_istore (lv' := [(6, .int (nI (i_271 / 16))), (5, .int (nI i_271)), (4, .int z_271.2.2.2), (3, .int z_271.2.2.1), (2, .int z_271.2.1), (1, .int z_271.1), (0, .ref h)]) hx hb dX6_mix_43 hl_271 (by decide) rfl (fun ls_274 hl_274 => ?_)
    clear hl_271
    refine lv_iload_n hx hb dX6_mix_45 rfl (lv_at hl_274 5 rfl) ?_
    refine va_gets (v := .ref (E.2.2.2 1)) hx hb (hV.2.2 1 (by decide)).1 hS_271 hown w_1 (fun _ h9 => h9) dX6_mix_46 ?_
    refine lv_iload hx hb dX6_mix_49 (lv_at hl_274 1 rfl) ?_
    refine va_ti (v := .int (gTf 1 i_271)) hx hb (hV.2.2 1 (by decide)).2 hS_271 (vp_in_nI (n := i_271) (N := 64) (by omega) (by omega)) (g_tv (by omega)) dX6_mix_51 ?_
    refine lv_iadd hx hb dX6_mix_52 ?_
    refine lv_aload_n hx hb dX6_mix_53 rfl (lv_at hl_274 6 rfl) ?_
    refine va_get (D := E.1) (ci := 7) (v := .ref qb) (C := RX6) (T := TX6) (N := 2) hx hb hts in_X6 hown hK hP_271 0 rfl rfl 0 (by decide) w_2 (fun _ h9 => h9) rfl dX6_mix_54 ?_
    refine lv_iload hx hb dX6_mix_57 (lv_at hl_274 0 rfl) ?_
    refine lv_iload hx hb dX6_mix_59 (lv_at hl_274 1 rfl) ?_
    refine gSi hF hl_274 hV hP_271 hD_271 hS_271 hA [] [0, 1, 2] (wc := []) (wr := [(h, .inr (7, [.ref qb, .ref qs])), (qb, .inl (E.2.1, 16, .inl bk)), (qs, .inl (E.2.1, 4, .inl st))]) rfl rfl rfl (by decide) (k_X6_pick E l (nI (i_271 / 16)) (nI i_271)) (va_cwS 2 hts gX6_mix_X6_pick rfl rfl rfl (by decide +kernel) ⟨Nat.le_of_ble_eq_true rfl, Nat.le_of_ble_eq_true rfl⟩) rfl rfl (Nat.le_of_ble_eq_true rfl) dX6_mix_61 ⟨Nat.le_of_ble_eq_true rfl, Nat.le_of_ble_eq_true rfl⟩ (fun r_275 _ H_276 locs_276 hu_275 hP_276 hD_276 hS_276 => ?_)
    have er_275 : r_275 = F_X6_pick (nI (i_271 / 16)) (nI i_271) := hu_275
    clear hu_275
    replace hP_276 : va_P E.1 vwCl [(h, .inr (7, [.ref qb, .ref qs])), (qb, .inl (E.2.1, 16, .inl bk)), (qs, .inl (E.2.1, 4, .inl st))] H_276 := hP_276
    replace hD_276 : va_D A [(h, .inr (7, [.ref qb, .ref qs])), (qb, .inl (E.2.1, 16, .inl bk)), (qs, .inl (E.2.1, 4, .inl st))] := hD_276
    clear hP_271 hD_271 hS_271
    refine va_iald hx hb hK hP_276 1 0 rfl rfl (by rw [er_275]; exact L_pick _ _) dX6_mix_64 ?_
    refine lv_iadd hx hb dX6_mix_65 ?_
    refine lv_iload hx hb dX6_mix_66 (lv_at hl_274 0 rfl) ?_
    refine lv_iload_n hx hb dX6_mix_68 rfl (lv_at hl_274 4 rfl) ?_
    refine lv_iload_n hx hb dX6_mix_69 rfl (lv_at hl_274 3 rfl) ?_
    refine lv_iload hx hb dX6_mix_70 (lv_at hl_274 2 rfl) ?_
    refine gSi hF hl_274 hV hP_276 hD_276 hS_276 hA [] [0, 1, 2] (wc := []) (wr := [(h, .inr (7, [.ref qb, .ref qs])), (qb, .inl (E.2.1, 16, .inl bk)), (qs, .inl (E.2.1, 4, .inl st))]) rfl rfl rfl (by decide) (k_X6_blend E l (nI (i_271 / 16)) z_271.2.1 z_271.2.2.1 z_271.2.2.2) (va_cwS 4 hts gX6_mix_X6_blend rfl rfl rfl (by decide +kernel) ⟨Nat.le_of_ble_eq_true rfl, Nat.le_of_ble_eq_true rfl⟩) rfl rfl (Nat.le_of_ble_eq_true rfl) dX6_mix_72 ⟨Nat.le_of_ble_eq_true rfl, Nat.le_of_ble_eq_true rfl⟩ (fun r_277 _ H_278 locs_278 hu_277 hP_278 hD_278 hS_278 => ?_)
    have er_277 : r_277 = F_X6_blend (nI (i_271 / 16)) z_271.2.1 z_271.2.2.1 z_271.2.2.2 := hu_277
    clear hu_277
    replace hP_278 : va_P E.1 vwCl [(h, .inr (7, [.ref qb, .ref qs])), (qb, .inl (E.2.1, 16, .inl bk)), (qs, .inl (E.2.1, 4, .inl st))] H_278 := hP_278
    replace hD_278 : va_D A [(h, .inr (7, [.ref qb, .ref qs])), (qb, .inl (E.2.1, 16, .inl bk)), (qs, .inl (E.2.1, 4, .inl st))] := hD_278
    clear hP_276 hD_276 hS_276
    refine lv_iadd hx hb dX6_mix_75 ?_
    refine lv_topi (fun v_279 ev_279 => ?_)
    refine lv_istore (lv' := [(7, .int v_279), (6, .int (nI (i_271 / 16))), (5, .int (nI i_271)), (4, .int z_271.2.2.2), (3, .int z_271.2.2.1), (2, .int z_271.2.1), (1, .int z_271.1), (0, .ref h)]) hx hb dX6_mix_76 hl_274 (by decide) rfl (fun ls_280 hl_280 => ?_)
    clear hl_274
    refine va_gets (v := .ref (E.2.2.2 2)) hx hb (hV.2.2 2 (by decide)).1 hS_278 hown w_3 (fun _ h9 => h9) dX6_mix_78 ?_
    refine lv_iconst (v := 4) hx hb dX6_mix_81 (by decide) ?_
    refine lv_iload hx hb dX6_mix_82 (lv_at hl_280 1 rfl) ?_
    refine lv_imul hx hb dX6_mix_84 ?_
    refine lv_topi (fun y_281 ey_281 => ?_)
    obtain rfl : y_281 = (nI (4 * (i_271 / 16))) := ey_281.trans (pk_mul _ _)
    refine lv_iload hx hb dX6_mix_85 (lv_at hl_280 2 rfl) ?_
    refine lv_iconst (v := 3) hx hb dX6_mix_87 (by decide) ?_
    refine lv_iand hx hb dX6_mix_88 ?_
    refine lv_topi (fun y_282 ey_282 => ?_)
    obtain rfl : y_282 = (nI (i_271 % 4)) := ey_282.trans (pk_andN (n := i_271) (by omega) 2 (by decide))
    refine lv_iadd hx hb dX6_mix_89 ?_
    refine lv_topi (fun y_283 ey_283 => ?_)
    obtain rfl : y_283 = (nI ((4 * (i_271 / 16)) + (i_271 % 4))) := ey_283.trans (nI_add _ _)
    refine va_ti (v := .int (gTf 2 ((4 * (i_271 / 16)) + (i_271 % 4)))) hx hb (hV.2.2 2 (by decide)).2 hS_278 (vp_in_nI (n := (4 * (i_271 / 16)) + (i_271 % 4)) (N := 16) (by omega) (by omega)) (g_tv (by omega)) dX6_mix_90 ?_
    refine lv_istore (lv' := [(8, .int (gTf 2 ((4 * (i_271 / 16)) + (i_271 % 4)))), (7, .int v_279), (6, .int (nI (i_271 / 16))), (5, .int (nI i_271)), (4, .int z_271.2.2.2), (3, .int z_271.2.2.1), (2, .int z_271.2.1), (1, .int z_271.1), (0, .ref h)]) hx hb dX6_mix_91 hl_280 (by decide) rfl (fun ls_284 hl_284 => ?_)
    clear hl_280
    refine lv_iload hx hb dX6_mix_93 (lv_at hl_284 4 rfl) ?_
    refine lv_istore_n (lv' := [(1, .int z_271.2.2.2), (8, .int (gTf 2 ((4 * (i_271 / 16)) + (i_271 % 4)))), (7, .int v_279), (6, .int (nI (i_271 / 16))), (5, .int (nI i_271)), (4, .int z_271.2.2.2), (3, .int z_271.2.2.1), (2, .int z_271.2.1), (0, .ref h)]) hx hb dX6_mix_95 rfl hl_284 (by decide) rfl (fun ls_285 hl_285 => ?_)
    clear hl_284
    refine lv_iload_n hx hb dX6_mix_96 rfl (lv_at hl_285 6 rfl) ?_
    refine lv_istore (lv' := [(4, .int z_271.2.2.1), (1, .int z_271.2.2.2), (8, .int (gTf 2 ((4 * (i_271 / 16)) + (i_271 % 4)))), (7, .int v_279), (6, .int (nI (i_271 / 16))), (5, .int (nI i_271)), (3, .int z_271.2.2.1), (2, .int z_271.2.1), (0, .ref h)]) hx hb dX6_mix_97 hl_285 (by decide) rfl (fun ls_286 hl_286 => ?_)
    clear hl_285
    refine lv_iload_n hx hb dX6_mix_99 rfl (lv_at hl_286 7 rfl) ?_
    refine lv_istore_n (lv' := [(3, .int z_271.2.1), (4, .int z_271.2.2.1), (1, .int z_271.2.2.2), (8, .int (gTf 2 ((4 * (i_271 / 16)) + (i_271 % 4)))), (7, .int v_279), (6, .int (nI (i_271 / 16))), (5, .int (nI i_271)), (2, .int z_271.2.1), (0, .ref h)]) hx hb dX6_mix_100 rfl hl_286 (by decide) rfl (fun ls_287 hl_287 => ?_)
    clear hl_286
    refine lv_iload_n hx hb dX6_mix_101 rfl (lv_at hl_287 7 rfl) ?_
    refine lv_iload hx hb dX6_mix_102 (lv_at hl_287 4 rfl) ?_
    refine lv_iload hx hb dX6_mix_104 (lv_at hl_287 3 rfl) ?_
    refine lv_ishl hx hb dX6_mix_106 ?_
    refine lv_topi (fun v_288 ev_288 => ?_)
    refine lv_iload hx hb dX6_mix_107 (lv_at hl_287 4 rfl) ?_
    refine lv_bipush (v := 32) hx hb dX6_mix_109 (by decide) ?_
    refine lv_iload hx hb dX6_mix_111 (lv_at hl_287 3 rfl) ?_
    refine lv_isub hx hb dX6_mix_113 ?_
    refine lv_iushr (v := g_us v_279 (32 - (gTf 2 ((4 * (i_271 / 16)) + (i_271 % 4))))) hx hb dX6_mix_114 rfl ?_
    refine lv_topi (fun v_289 ev_289 => ?_)
    refine lv_ior hx hb dX6_mix_115 ?_
    refine lv_iadd hx hb dX6_mix_116 ?_
    refine lv_istore_n (lv' := [(2, .int (z_271.2.1 + (v_288 ||| v_289))), (3, .int z_271.2.1), (4, .int z_271.2.2.1), (1, .int z_271.2.2.2), (8, .int (gTf 2 ((4 * (i_271 / 16)) + (i_271 % 4)))), (7, .int v_279), (6, .int (nI (i_271 / 16))), (5, .int (nI i_271)), (0, .ref h)]) hx hb dX6_mix_117 rfl hl_287 (by decide) rfl (fun ls_290 hl_290 => ?_)
    clear hl_287
    refine lv_iinc (v := (nI (i_271 + 1))) (lv' := [(5, .int (nI (i_271 + 1))), (2, .int (z_271.2.1 + (v_288 ||| v_289))), (3, .int z_271.2.1), (4, .int z_271.2.2.1), (1, .int z_271.2.2.2), (8, .int (gTf 2 ((4 * (i_271 / 16)) + (i_271 % 4)))), (7, .int v_279), (6, .int (nI (i_271 / 16))), (0, .ref h)]) hx hb dX6_mix_118 hl_290 (k := 7) rfl (nI_add _ 1) (by decide) rfl (fun ls_291 hl_291 => ?_)
    clear hl_290
    refine lv_goto (tgt := 32) hx hb dX6_mix_121 (by decide) ?_
    exact ih_271 ((z_271.2.2.2, (z_271.2.1 + (v_288 ||| v_289)), z_271.2.1, z_271.2.2.1) : Int32 × Int32 × Int32 × Int32) _ _ _ (((show (B_X6_mix_32 bk) i_271 z_271 = _ from (gLet_eq er_275 (gLet_eq er_277 (gLet_eq ev_279 (gLet_eq ev_288 (gLet_eq ev_289 rfl)))))).symm.trans (congrArg ((B_X6_mix_32 bk) i_271) hz_271)).trans (itr_s _ _ _).symm) ⟨lv_sub hl_291 [0, 3, 2, 1, 4, 8] rfl, (hP_278.sub [0, 1, 2] rfl), (hD_278.sub [0, 1, 2] (by decide) rfl), hS_278⟩
  · intro z_292 H_292 locs_292 ls_292 hz_292 hI_292
    obtain ⟨hl_292, hP_292, hD_292, hS_292⟩ := hI_292
    replace hl_292 : lv_has ls_292 9 [(5, .int (nI 64)), (4, .int z_292.2.2.2), (3, .int z_292.2.2.1), (2, .int z_292.2.1), (1, .int z_292.1), (0, .ref h)] := hl_292
    replace hP_292 : va_P E.1 vwCl [(h, .inr (7, [.ref qb, .ref qs])), (qb, .inl (E.2.1, 16, .inl bk)), (qs, .inl (E.2.1, 4, .inl st))] H_292 := hP_292
    replace hD_292 : va_D A [(h, .inr (7, [.ref qb, .ref qs])), (qb, .inl (E.2.1, 16, .inl bk)), (qs, .inl (E.2.1, 4, .inl st))] := hD_292
    clear hl_203 hP hD hS
    refine lv_iload hx hb dX6_mix_32 (lv_at hl_292 0 rfl) ?_
    refine lv_bipush (v := 64) hx hb dX6_mix_34 (by decide) ?_
    refine lv_icmp_ge (tgt := 124) hx hb dX6_mix_36 (by decide) (fun c_293 => ?_) (fun c_293 => (by have c_293 := (not_congr (nI_leI (a := 64) (b := 64) (by omega) (by omega))).mp c_293; exfalso; omega))
    replace c_293 : 64 ≤ 64 := (nI_leI (a := 64) (b := 64) (by omega) (by omega)).mp c_293
    refine lv_aload_n hx hb dX6_mix_124 rfl (lv_at hl_292 5 rfl) ?_
    refine va_get (D := E.1) (ci := 7) (v := .ref qs) (C := RX6) (T := TX6) (N := 2) hx hb hts in_X6 hown hK hP_292 0 rfl rfl 1 (by decide) w_0 (fun _ h9 => h9) rfl dX6_mix_125 ?_
    refine lv_iconst (v := 0) hx hb dX6_mix_128 (by decide) ?_
    refine lv_dup2_11 hx hb dX6_mix_129 rfl rfl ?_
    refine g_iald (e0 := 0) hx hb hK hP_292 2 0 rfl rfl (by omega) (by omega) dX6_mix_130 ?_
    refine lv_iload_n hx hb dX6_mix_131 rfl (lv_at hl_292 4 rfl) ?_
    refine lv_iadd hx hb dX6_mix_132 ?_
    refine g_iast (e0 := 0) hx hb hK hP_292 hD_292 hS_292 2 0 rfl rfl (by omega) (by omega) dX6_mix_133 (fun H_294 locs_294 hP_294 hD_294 hS_294 => ?_)
    replace hP_294 : va_P E.1 vwCl [(h, .inr (7, [.ref qb, .ref qs])), (qb, .inl (E.2.1, 16, .inl bk)), (qs, .inl (E.2.1, 4, .inl (upd st 0 ((st 0) + z_292.1))))] H_294 := hP_294
    replace hD_294 : va_D A [(h, .inr (7, [.ref qb, .ref qs])), (qb, .inl (E.2.1, 16, .inl bk)), (qs, .inl (E.2.1, 4, .inl (upd st 0 ((st 0) + z_292.1))))] := hD_294
    clear hP_292 hD_292 hS_292
    refine lv_aload_n hx hb dX6_mix_134 rfl (lv_at hl_292 5 rfl) ?_
    refine va_get (D := E.1) (ci := 7) (v := .ref qs) (C := RX6) (T := TX6) (N := 2) hx hb hts in_X6 hown hK hP_294 0 rfl rfl 1 (by decide) w_0 (fun _ h9 => h9) rfl dX6_mix_135 ?_
    refine lv_iconst (v := 1) hx hb dX6_mix_138 (by decide) ?_
    refine lv_dup2_11 hx hb dX6_mix_139 rfl rfl ?_
    refine g_iald (e0 := 1) hx hb hK hP_294 2 0 rfl rfl (by omega) (by omega) dX6_mix_140 ?_
    refine lv_iload_n hx hb dX6_mix_141 rfl (lv_at hl_292 3 rfl) ?_
    refine lv_iadd hx hb dX6_mix_142 ?_
    refine g_iast (e0 := 1) hx hb hK hP_294 hD_294 hS_294 2 0 rfl rfl (by omega) (by omega) dX6_mix_143 (fun H_295 locs_295 hP_295 hD_295 hS_295 => ?_)
    replace hP_295 : va_P E.1 vwCl [(h, .inr (7, [.ref qb, .ref qs])), (qb, .inl (E.2.1, 16, .inl bk)), (qs, .inl (E.2.1, 4, .inl (upd (upd st 0 ((st 0) + z_292.1)) 1 (((upd st 0 ((st 0) + z_292.1)) 1) + z_292.2.1))))] H_295 := hP_295
    replace hD_295 : va_D A [(h, .inr (7, [.ref qb, .ref qs])), (qb, .inl (E.2.1, 16, .inl bk)), (qs, .inl (E.2.1, 4, .inl (upd (upd st 0 ((st 0) + z_292.1)) 1 (((upd st 0 ((st 0) + z_292.1)) 1) + z_292.2.1))))] := hD_295
    clear hP_294 hD_294 hS_294
    refine lv_aload_n hx hb dX6_mix_144 rfl (lv_at hl_292 5 rfl) ?_
    refine va_get (D := E.1) (ci := 7) (v := .ref qs) (C := RX6) (T := TX6) (N := 2) hx hb hts in_X6 hown hK hP_295 0 rfl rfl 1 (by decide) w_0 (fun _ h9 => h9) rfl dX6_mix_145 ?_
    refine lv_iconst (v := 2) hx hb dX6_mix_148 (by decide) ?_
    refine lv_dup2_11 hx hb dX6_mix_149 rfl rfl ?_
    refine g_iald (e0 := 2) hx hb hK hP_295 2 0 rfl rfl (by omega) (by omega) dX6_mix_150 ?_
    refine lv_iload_n hx hb dX6_mix_151 rfl (lv_at hl_292 2 rfl) ?_
    refine lv_iadd hx hb dX6_mix_152 ?_
    refine lv_topi (fun v_296 ev_296 => ?_)
    refine g_iast (e0 := 2) hx hb hK hP_295 hD_295 hS_295 2 0 rfl rfl (by omega) (by omega) dX6_mix_153 (fun H_297 locs_297 hP_297 hD_297 hS_297 => ?_)
    replace hP_297 : va_P E.1 vwCl [(h, .inr (7, [.ref qb, .ref qs])), (qb, .inl (E.2.1, 16, .inl bk)), (qs, .inl (E.2.1, 4, .inl (upd (upd (upd st 0 ((st 0) + z_292.1)) 1 (((upd st 0 ((st 0) + z_292.1)) 1) + z_292.2.1)) 2 v_296)))] H_297 := hP_297
    replace hD_297 : va_D A [(h, .inr (7, [.ref qb, .ref qs])), (qb, .inl (E.2.1, 16, .inl bk)), (qs, .inl (E.2.1, 4, .inl (upd (upd (upd st 0 ((st 0) + z_292.1)) 1 (((upd st 0 ((st 0) + z_292.1)) 1) + z_292.2.1)) 2 v_296)))] := hD_297
    clear hP_295 hD_295 hS_295
    refine lv_aload_n hx hb dX6_mix_154 rfl (lv_at hl_292 5 rfl) ?_
    refine va_get (D := E.1) (ci := 7) (v := .ref qs) (C := RX6) (T := TX6) (N := 2) hx hb hts in_X6 hown hK hP_297 0 rfl rfl 1 (by decide) w_0 (fun _ h9 => h9) rfl dX6_mix_155 ?_
    refine lv_iconst (v := 3) hx hb dX6_mix_158 (by decide) ?_
    refine lv_dup2_11 hx hb dX6_mix_159 rfl rfl ?_
    refine g_iald (e0 := 3) hx hb hK hP_297 2 0 rfl rfl (by omega) (by omega) dX6_mix_160 ?_
    refine lv_iload hx hb dX6_mix_161 (lv_at hl_292 1 rfl) ?_
    refine lv_iadd hx hb dX6_mix_163 ?_
    refine lv_topi (fun v_298 ev_298 => ?_)
    refine g_iast (e0 := 3) hx hb hK hP_297 hD_297 hS_297 2 0 rfl rfl (by omega) (by omega) dX6_mix_164 (fun H_299 locs_299 hP_299 hD_299 hS_299 => ?_)
    replace hP_299 : va_P E.1 vwCl [(h, .inr (7, [.ref qb, .ref qs])), (qb, .inl (E.2.1, 16, .inl bk)), (qs, .inl (E.2.1, 4, .inl (upd (upd (upd (upd st 0 ((st 0) + z_292.1)) 1 (((upd st 0 ((st 0) + z_292.1)) 1) + z_292.2.1)) 2 v_296) 3 v_298)))] H_299 := hP_299
    replace hD_299 : va_D A [(h, .inr (7, [.ref qb, .ref qs])), (qb, .inl (E.2.1, 16, .inl bk)), (qs, .inl (E.2.1, 4, .inl (upd (upd (upd (upd st 0 ((st 0) + z_292.1)) 1 (((upd st 0 ((st 0) + z_292.1)) 1) + z_292.2.1)) 2 v_296) 3 v_298)))] := hD_299
    clear hP_297 hD_297 hS_297
    have hpost : ((upd (upd (upd (upd st 0 ((st 0) + z_292.1)) 1 (((upd st 0 ((st 0) + z_292.1)) 1) + z_292.2.1)) 2 v_296) 3 v_298) : Nat → Int32) = F_X6_mix bk st := (show F_X6_mix bk st = ((upd (upd (upd (upd st 0 ((st 0) + z_292.1)) 1 (((upd st 0 ((st 0) + z_292.1)) 1) + z_292.2.1)) 2 v_296) 3 v_298) : Nat → Int32) from (gLet_eq hz_292 (gLet_eq ev_296 (gLet_eq ev_298 rfl)))).symm
    have hP9 := hP_299.sub (ws' := [(h, .inr (7, [.ref qb, .ref qs])), (qb, .inl (E.2.1, 16, .inl bk)), (qs, .inl (E.2.1, 4, .inl (upd (upd (upd (upd st 0 ((st 0) + z_292.1)) 1 (((upd st 0 ((st 0) + z_292.1)) 1) + z_292.2.1)) 2 v_296) 3 v_298)))]) [0, 1, 2] rfl
    have hD9 := hD_299.sub (ws' := [(h, .inr (7, [.ref qb, .ref qs])), (qb, .inl (E.2.1, 16, .inl bk)), (qs, .inl (E.2.1, 4, .inl (upd (upd (upd (upd st 0 ((st 0) + z_292.1)) 1 (((upd st 0 ((st 0) + z_292.1)) 1) + z_292.2.1)) 2 v_296) 3 v_298)))]) [0, 1, 2] (by decide) rfl
    exact W.vret hx hb hr (fun t ht hW => ⟨⟨(upd (upd (upd (upd st 0 ((st 0) + z_292.1)) 1 (((upd st 0 ((st 0) + z_292.1)) 1) + z_292.2.1)) 2 v_296) 3 v_298), rfl, hpost, by rw [ht]; exact hP9, hD9⟩, hS_299.F ht⟩) hS_299.2.2 dX6_mix_165
set_option maxHeartbeats 4000000 in
set_option maxRecDepth 100000 in
theorem k_X6_sum (E : gE) (l : Launch) (h h2 h3 qb qs a2 a3 : Nat) (n2 : Nat) (n3 : Nat) (bk : Nat → Int32) (st : Nat → Int32) (q : gRow) (d : gRow) (hn2 : n2 < 2147483648) (hn3 : n3 < 2147483648) : gMv E l yX6_sum wsX6_sum ({ frames := 2, cells := 0, slots := 0, locals := 51 }) 0 0 [.ref h, .ref h2, .ref h3] [(h, .inr (7, [.ref qb, .ref qs])), (qb, .inl (E.2.1, 16, .inl bk)), (qs, .inl (E.2.1, 4, .inl st)), (h2, .inr (6, [.ref a2, .int q.1])), (a2, .inl (E.2.1, n2, .inl q.2)), (h3, .inr (6, [.ref a3, .int d.1])), (a3, .inl (E.2.1, n3, .inl d.2))] (fun (uu : (Nat → Int32) × (Nat → Int32) × gRow) => uu = F_X6_sum n2 n3 bk st q d) (fun (uu : (Nat → Int32) × (Nat → Int32) × gRow) => [(h, .inr (7, [.ref qb, .ref qs])), (qb, .inl (E.2.1, 16, .inl uu.1)), (qs, .inl (E.2.1, 4, .inl uu.2.1)), (h2, .inr (6, [.ref a2, .int q.1])), (a2, .inl (E.2.1, n2, .inl q.2)), (h3, .inr (6, [.ref a3, .int uu.2.2.1])), (a3, .inl (E.2.1, n3, .inl uu.2.2.2))]) := by
  intro sz
  refine Met.ofW (cc := cX6_sum) (maxL := 5) (ret := none) (by decide) rfl ?_
  intro p e s m args below meth c s₁ B hml hv
  obtain ⟨rfl, hsz, hP, hV, hD0⟩ := hv
  have hx := B.exec
  have hb := B.bytes
  have hr := B.returns
  have hts := atoms_spec (ws := wsX6_sum) B.pre
  have hown : s.vm.findClass RX6 = some m.cls := findClass_of_methodNamed B.named
  have hlocks := B.notSynchronized
  subst hsz
  have hD := hD0.self (sz := s.heap.size)
  clear hD0
  generalize hAe : va_A [(h, .inr (7, [.ref qb, .ref qs])), (qb, .inl (E.2.1, 16, .inl bk)), (qs, .inl (E.2.1, 4, .inl st)), (h2, .inr (6, [.ref a2, .int q.1])), (a2, .inl (E.2.1, n2, .inl q.2)), (h3, .inr (6, [.ref a3, .int d.1])), (a3, .inl (E.2.1, n3, .inl d.2))] s.heap.size = A at hD hV ⊢
  have hA : ∀ q : Nat, s.heap.size ≤ q → A q := fun q h => by rw [← hAe]; exact Or.inr h
  have hS : va_S A s.heap s.heap [] := va_S.rf
  have hK := hV.1
  have hF : CallFix p m c cX6_sum 5 s _ wsX6_sum RX6 := ⟨hx, hb, hml, hown, hts⟩
  have hl := lv_entry [.ref h, .ref h2, .ref h3] (n := 5) (Nat.le_of_ble_eq_true rfl)
  rw [lg_entry_eq]
  generalize (lg_sl [.ref h, .ref h2, .ref h3] ++ List.replicate (5 - (lg_sl [.ref h, .ref h2, .ref h3]).length) Slot.unset).toArray = ls at hl ⊢
  have hl : lv_has ls 5 [(0, .ref h), (1, .ref h2), (2, .ref h3)] := hl
  have in_X6 : ∀ w ∈ wsX60, w ∈ wsX6_sum := by decide +kernel
  have w_0 := hts (.fieldLink RX6 13 "CryptRows$Small" "state" "[I") (by decide +kernel)
  have w_1 := hts (.constant RX6 16 1732584193) (by decide +kernel)
  have w_2 := hts (.constant RX6 17 (-271733879)) (by decide +kernel)
  have w_3 := hts (.constant RX6 18 (-1732584194)) (by decide +kernel)
  have w_4 := hts (.constant RX6 19 271733878) (by decide +kernel)
  have w_5 := hts (.fieldLink RX6 7 "CryptRows$Small" "block" "[I") (by decide +kernel)
  refine lv_aload_n hx hb dX6_sum_0 rfl (lv_at hl 0 rfl) ?_
  refine va_get (D := E.1) (ci := 7) (v := .ref qs) (C := RX6) (T := TX6) (N := 2) hx hb hts in_X6 hown hK hP 0 rfl rfl 1 (by decide) w_0 (fun _ h9 => h9) rfl dX6_sum_1 ?_
  refine lv_iconst (v := 0) hx hb dX6_sum_4 (by decide) ?_
  refine lv_ldc (v := 1732584193) hx hb hown w_1 dX6_sum_5 ?_
  refine g_iast (e0 := 0) hx hb hK hP hD hS 2 0 rfl rfl (by omega) (by omega) dX6_sum_7 (fun H_191 locs_191 hP_191 hD_191 hS_191 => ?_)
  replace hP_191 : va_P E.1 vwCl [(h, .inr (7, [.ref qb, .ref qs])), (qb, .inl (E.2.1, 16, .inl bk)), (qs, .inl (E.2.1, 4, .inl (upd st 0 1732584193))), (h2, .inr (6, [.ref a2, .int q.1])), (a2, .inl (E.2.1, n2, .inl q.2)), (h3, .inr (6, [.ref a3, .int d.1])), (a3, .inl (E.2.1, n3, .inl d.2))] H_191 := hP_191
  replace hD_191 : va_D A [(h, .inr (7, [.ref qb, .ref qs])), (qb, .inl (E.2.1, 16, .inl bk)), (qs, .inl (E.2.1, 4, .inl (upd st 0 1732584193))), (h2, .inr (6, [.ref a2, .int q.1])), (a2, .inl (E.2.1, n2, .inl q.2)), (h3, .inr (6, [.ref a3, .int d.1])), (a3, .inl (E.2.1, n3, .inl d.2))] := hD_191
  clear hP hD hS
  refine lv_aload_n hx hb dX6_sum_8 rfl (lv_at hl 0 rfl) ?_
  refine va_get (D := E.1) (ci := 7) (v := .ref qs) (C := RX6) (T := TX6) (N := 2) hx hb hts in_X6 hown hK hP_191 0 rfl rfl 1 (by decide) w_0 (fun _ h9 => h9) rfl dX6_sum_9 ?_
  refine lv_iconst (v := 1) hx hb dX6_sum_12 (by decide) ?_
  refine lv_ldc (v := (-271733879)) hx hb hown w_2 dX6_sum_13 ?_
  refine g_iast (e0 := 1) hx hb hK hP_191 hD_191 hS_191 2 0 rfl rfl (by omega) (by omega) dX6_sum_15 (fun H_192 locs_192 hP_192 hD_192 hS_192 => ?_)
  replace hP_192 : va_P E.1 vwCl [(h, .inr (7, [.ref qb, .ref qs])), (qb, .inl (E.2.1, 16, .inl bk)), (qs, .inl (E.2.1, 4, .inl (upd (upd st 0 1732584193) 1 (-271733879)))), (h2, .inr (6, [.ref a2, .int q.1])), (a2, .inl (E.2.1, n2, .inl q.2)), (h3, .inr (6, [.ref a3, .int d.1])), (a3, .inl (E.2.1, n3, .inl d.2))] H_192 := hP_192
  replace hD_192 : va_D A [(h, .inr (7, [.ref qb, .ref qs])), (qb, .inl (E.2.1, 16, .inl bk)), (qs, .inl (E.2.1, 4, .inl (upd (upd st 0 1732584193) 1 (-271733879)))), (h2, .inr (6, [.ref a2, .int q.1])), (a2, .inl (E.2.1, n2, .inl q.2)), (h3, .inr (6, [.ref a3, .int d.1])), (a3, .inl (E.2.1, n3, .inl d.2))] := hD_192
  clear hP_191 hD_191 hS_191
  refine lv_aload_n hx hb dX6_sum_16 rfl (lv_at hl 0 rfl) ?_
  refine va_get (D := E.1) (ci := 7) (v := .ref qs) (C := RX6) (T := TX6) (N := 2) hx hb hts in_X6 hown hK hP_192 0 rfl rfl 1 (by decide) w_0 (fun _ h9 => h9) rfl dX6_sum_17 ?_
  refine lv_iconst (v := 2) hx hb dX6_sum_20 (by decide) ?_
  refine lv_ldc (v := (-1732584194)) hx hb hown w_3 dX6_sum_21 ?_
  refine g_iast (e0 := 2) hx hb hK hP_192 hD_192 hS_192 2 0 rfl rfl (by omega) (by omega) dX6_sum_23 (fun H_193 locs_193 hP_193 hD_193 hS_193 => ?_)
  replace hP_193 : va_P E.1 vwCl [(h, .inr (7, [.ref qb, .ref qs])), (qb, .inl (E.2.1, 16, .inl bk)), (qs, .inl (E.2.1, 4, .inl (upd (upd (upd st 0 1732584193) 1 (-271733879)) 2 (-1732584194)))), (h2, .inr (6, [.ref a2, .int q.1])), (a2, .inl (E.2.1, n2, .inl q.2)), (h3, .inr (6, [.ref a3, .int d.1])), (a3, .inl (E.2.1, n3, .inl d.2))] H_193 := hP_193
  replace hD_193 : va_D A [(h, .inr (7, [.ref qb, .ref qs])), (qb, .inl (E.2.1, 16, .inl bk)), (qs, .inl (E.2.1, 4, .inl (upd (upd (upd st 0 1732584193) 1 (-271733879)) 2 (-1732584194)))), (h2, .inr (6, [.ref a2, .int q.1])), (a2, .inl (E.2.1, n2, .inl q.2)), (h3, .inr (6, [.ref a3, .int d.1])), (a3, .inl (E.2.1, n3, .inl d.2))] := hD_193
  clear hP_192 hD_192 hS_192
  refine lv_aload_n hx hb dX6_sum_24 rfl (lv_at hl 0 rfl) ?_
  refine va_get (D := E.1) (ci := 7) (v := .ref qs) (C := RX6) (T := TX6) (N := 2) hx hb hts in_X6 hown hK hP_193 0 rfl rfl 1 (by decide) w_0 (fun _ h9 => h9) rfl dX6_sum_25 ?_
  refine lv_iconst (v := 3) hx hb dX6_sum_28 (by decide) ?_
  refine lv_ldc (v := 271733878) hx hb hown w_4 dX6_sum_29 ?_
  refine g_iast (e0 := 3) hx hb hK hP_193 hD_193 hS_193 2 0 rfl rfl (by omega) (by omega) dX6_sum_31 (fun H_194 locs_194 hP_194 hD_194 hS_194 => ?_)
  replace hP_194 : va_P E.1 vwCl [(h, .inr (7, [.ref qb, .ref qs])), (qb, .inl (E.2.1, 16, .inl bk)), (qs, .inl (E.2.1, 4, .inl (upd (upd (upd (upd st 0 1732584193) 1 (-271733879)) 2 (-1732584194)) 3 271733878))), (h2, .inr (6, [.ref a2, .int q.1])), (a2, .inl (E.2.1, n2, .inl q.2)), (h3, .inr (6, [.ref a3, .int d.1])), (a3, .inl (E.2.1, n3, .inl d.2))] H_194 := hP_194
  replace hD_194 : va_D A [(h, .inr (7, [.ref qb, .ref qs])), (qb, .inl (E.2.1, 16, .inl bk)), (qs, .inl (E.2.1, 4, .inl (upd (upd (upd (upd st 0 1732584193) 1 (-271733879)) 2 (-1732584194)) 3 271733878))), (h2, .inr (6, [.ref a2, .int q.1])), (a2, .inl (E.2.1, n2, .inl q.2)), (h3, .inr (6, [.ref a3, .int d.1])), (a3, .inl (E.2.1, n3, .inl d.2))] := hD_194
  clear hP_193 hD_193 hS_193
  refine lv_aload_n hx hb dX6_sum_32 rfl (lv_at hl 1 rfl) ?_
  refine gVi hF hl hV hP_194 hD_194 hS_194 hA [3] [0, 1, 2, 4, 5, 6] (wc := [(h2, .inr (6, [.ref a2, .int q.1]))]) (wr := [(h, .inr (7, [.ref qb, .ref qs])), (qb, .inl (E.2.1, 16, .inl bk)), (qs, .inl (E.2.1, 4, .inl (upd (upd (upd (upd st 0 1732584193) 1 (-271733879)) 2 (-1732584194)) 3 271733878))), (a2, .inl (E.2.1, n2, .inl q.2)), (h3, .inr (6, [.ref a3, .int d.1])), (a3, .inl (E.2.1, n3, .inl d.2))]) rfl rfl rfl (by decide) 0 6 rfl rfl rfl (k_X5_count E l h2 a2 q) (cwV 0 hts gX6_sum_X5_count rfl rfl rfl (by decide +kernel) ⟨Nat.le_of_ble_eq_true rfl, Nat.le_of_ble_eq_true rfl⟩) rfl rfl rfl (Nat.le_of_ble_eq_true rfl) dX6_sum_33 ⟨Nat.le_of_ble_eq_true rfl, Nat.le_of_ble_eq_true rfl⟩ (fun r_195 _ H_196 locs_196 hu_195 hP_196 hD_196 hS_196 => ?_)
  have er_195 : r_195 = F_X5_count q := hu_195
  clear hu_195
  replace hP_196 : va_P E.1 vwCl [(h, .inr (7, [.ref qb, .ref qs])), (qb, .inl (E.2.1, 16, .inl bk)), (qs, .inl (E.2.1, 4, .inl (upd (upd (upd (upd st 0 1732584193) 1 (-271733879)) 2 (-1732584194)) 3 271733878))), (a2, .inl (E.2.1, n2, .inl q.2)), (h3, .inr (6, [.ref a3, .int d.1])), (a3, .inl (E.2.1, n3, .inl d.2)), (h2, .inr (6, [.ref a2, .int q.1]))] H_196 := hP_196
  replace hD_196 : va_D A [(h, .inr (7, [.ref qb, .ref qs])), (qb, .inl (E.2.1, 16, .inl bk)), (qs, .inl (E.2.1, 4, .inl (upd (upd (upd (upd st 0 1732584193) 1 (-271733879)) 2 (-1732584194)) 3 271733878))), (a2, .inl (E.2.1, n2, .inl q.2)), (h3, .inr (6, [.ref a3, .int d.1])), (a3, .inl (E.2.1, n3, .inl d.2)), (h2, .inr (6, [.ref a2, .int q.1]))] := hD_196
  clear hP_194 hD_194 hS_194
  refine lv_bipush (v := 8) hx hb dX6_sum_36 (by decide) ?_
  refine lv_iadd hx hb dX6_sum_38 ?_
  refine lv_bipush (v := 64) hx hb dX6_sum_39 (by decide) ?_
  refine lv_idiv hx hb dX6_sum_41 (by decide) ?_
  refine lv_iconst (v := 1) hx hb dX6_sum_42 (by decide) ?_
  refine lv_iadd hx hb dX6_sum_43 ?_
  refine lv_istore_n (lv' := [(3, .int (((r_195 + 8) / 64) + 1)), (0, .ref h), (1, .ref h2), (2, .ref h3)]) hx hb dX6_sum_44 rfl hl (by decide) rfl (fun ls_197 hl_197 => ?_)
  clear hl
  refine lv_iconst (v := 0) hx hb dX6_sum_45 (by decide) ?_
  refine lv_istore (lv' := [(4, .int 0), (3, .int (((r_195 + 8) / 64) + 1)), (0, .ref h), (1, .ref h2), (2, .ref h3)]) hx hb dX6_sum_46 hl_197 (by decide) rfl (fun ls_198 hl_198 => ?_)
  clear hl_197
  have hcl_247 := g_clamp_lt (((r_195 + 8) / 64) + 1)
  refine g_up (N := ((((r_195 + 8) / 64) + 1).toNatClampNeg)) (B_X6_sum_48 n2 q r_195) ((bk, (upd (upd (upd (upd st 0 1732584193) 1 (-271733879)) 2 (-1732584194)) 3 271733878)) : (Nat → Int32) × (Nat → Int32)) (Inv := fun i_0 z_248 H_0 locs_0 ls_0 => lv_has ls_0 5 [(4, .int (nI i_0)), (3, .int (((r_195 + 8) / 64) + 1)), (0, .ref h), (1, .ref h2), (2, .ref h3)] ∧ va_P E.1 vwCl [(h, .inr (7, [.ref qb, .ref qs])), (qb, .inl (E.2.1, 16, .inl z_248.1)), (qs, .inl (E.2.1, 4, .inl z_248.2)), (a2, .inl (E.2.1, n2, .inl q.2)), (h3, .inr (6, [.ref a3, .int d.1])), (a3, .inl (E.2.1, n3, .inl d.2)), (h2, .inr (6, [.ref a2, .int q.1]))] H_0 ∧ va_D A [(h, .inr (7, [.ref qb, .ref qs])), (qb, .inl (E.2.1, 16, .inl z_248.1)), (qs, .inl (E.2.1, 4, .inl z_248.2)), (a2, .inl (E.2.1, n2, .inl q.2)), (h3, .inr (6, [.ref a3, .int d.1])), (a3, .inl (E.2.1, n3, .inl d.2)), (h2, .inr (6, [.ref a2, .int q.1]))] ∧ va_S A s.heap H_0 locs_0) (G := fun H_0 locs_0 ls_0 => W _ _ _ _ _ _ _ _ _ _ H_0 locs_0 _ _ _ (F0 _ 48 ls_0 [])) ?_ ?_ ⟨lv_sub hl_198 [0, 1, 2, 3, 4] rfl, hP_196, hD_196, hS_196⟩
  · intro j_249 i_249 z_249 H_249 locs_249 ls_249 hij_249 hz_249 hI_249 ih_249
    obtain ⟨hl_249, hP_249, hD_249, hS_249⟩ := hI_249
    replace hl_249 : lv_has ls_249 5 [(4, .int (nI i_249)), (3, .int (((r_195 + 8) / 64) + 1)), (0, .ref h), (1, .ref h2), (2, .ref h3)] := hl_249
    replace hP_249 : va_P E.1 vwCl [(h, .inr (7, [.ref qb, .ref qs])), (qb, .inl (E.2.1, 16, .inl z_249.1)), (qs, .inl (E.2.1, 4, .inl z_249.2)), (a2, .inl (E.2.1, n2, .inl q.2)), (h3, .inr (6, [.ref a3, .int d.1])), (a3, .inl (E.2.1, n3, .inl d.2)), (h2, .inr (6, [.ref a2, .int q.1]))] H_249 := hP_249
    replace hD_249 : va_D A [(h, .inr (7, [.ref qb, .ref qs])), (qb, .inl (E.2.1, 16, .inl z_249.1)), (qs, .inl (E.2.1, 4, .inl z_249.2)), (a2, .inl (E.2.1, n2, .inl q.2)), (h3, .inr (6, [.ref a3, .int d.1])), (a3, .inl (E.2.1, n3, .inl d.2)), (h2, .inr (6, [.ref a2, .int q.1]))] := hD_249
    clear hl_198 hP_196 hD_196 hS_196
    refine lv_iload hx hb dX6_sum_48 (lv_at hl_249 0 rfl) ?_
    refine lv_iload_n hx hb dX6_sum_50 rfl (lv_at hl_249 1 rfl) ?_
    refine lv_icmp_ge (tgt := 96) hx hb dX6_sum_51 (by decide) (fun c_250 => (by have c_250 := (g_rle (by omega)).mp c_250; exfalso; omega)) (fun c_250 => ?_)
    replace c_250 : ¬ (((r_195 + 8) / 64) + 1).toNatClampNeg ≤ i_249 := (not_congr (g_rle (by omega))).mp c_250
    refine lv_aload_n hx hb dX6_sum_54 rfl (lv_at hl_249 2 rfl) ?_
    refine lv_aload_n hx hb dX6_sum_55 rfl (lv_at hl_249 3 rfl) ?_
    refine lv_bipush (v := 64) hx hb dX6_sum_56 (by decide) ?_
    refine lv_iload hx hb dX6_sum_58 (lv_at hl_249 0 rfl) ?_
    refine lv_imul hx hb dX6_sum_60 ?_
    refine lv_topi (fun y_251 ey_251 => ?_)
    obtain rfl : y_251 = (nI (64 * i_249)) := ey_251.trans (pk_mul _ _)
    refine gVv hF hl_249 hV hP_249 hD_249 hS_249 hA [0, 1, 6, 3] [2, 4, 5] (wc := [(h, .inr (7, [.ref qb, .ref qs])), (qb, .inl (E.2.1, 16, .inl z_249.1)), (h2, .inr (6, [.ref a2, .int q.1])), (a2, .inl (E.2.1, n2, .inl q.2))]) (wr := [(qs, .inl (E.2.1, 4, .inl z_249.2)), (h3, .inr (6, [.ref a3, .int d.1])), (a3, .inl (E.2.1, n3, .inl d.2))]) rfl rfl rfl (by decide) 0 7 rfl rfl rfl (k_X6_load E l h h2 qb qs a2 n2 z_249.1 q (nI (64 * i_249)) (by omega)) (cwV 2 hts gX6_sum_X6_load rfl rfl rfl (by decide +kernel) ⟨Nat.le_of_ble_eq_true rfl, Nat.le_of_ble_eq_true rfl⟩) rfl rfl rfl (Nat.le_of_ble_eq_true rfl) dX6_sum_61 ⟨Nat.le_of_ble_eq_true rfl, Nat.le_of_ble_eq_true rfl⟩ (fun u_252 H_253 locs_253 hu_252 hP_253 hD_253 hS_253 => ?_)
    replace hu_252 : u_252 = F_X6_load n2 z_249.1 q (nI (64 * i_249)) := hu_252
    replace hP_253 : va_P E.1 vwCl [(qs, .inl (E.2.1, 4, .inl z_249.2)), (h3, .inr (6, [.ref a3, .int d.1])), (a3, .inl (E.2.1, n3, .inl d.2)), (h, .inr (7, [.ref qb, .ref qs])), (qb, .inl (E.2.1, 16, .inl u_252)), (h2, .inr (6, [.ref a2, .int q.1])), (a2, .inl (E.2.1, n2, .inl q.2))] H_253 := hP_253
    replace hD_253 : va_D A [(qs, .inl (E.2.1, 4, .inl z_249.2)), (h3, .inr (6, [.ref a3, .int d.1])), (a3, .inl (E.2.1, n3, .inl d.2)), (h, .inr (7, [.ref qb, .ref qs])), (qb, .inl (E.2.1, 16, .inl u_252)), (h2, .inr (6, [.ref a2, .int q.1])), (a2, .inl (E.2.1, n2, .inl q.2))] := hD_253
    clear hP_249 hD_249 hS_249
    refine lv_iload hx hb dX6_sum_64 (lv_at hl_249 0 rfl) ?_
    refine lv_iload_n hx hb dX6_sum_66 rfl (lv_at hl_249 1 rfl) ?_
    refine lv_iconst (v := 1) hx hb dX6_sum_67 (by decide) ?_
    refine lv_isub hx hb dX6_sum_68 ?_
    refine lv_icmp_ne (tgt := 86) hx hb dX6_sum_69 (by decide) (fun c_254 => ?_) (fun c_254 => ?_)
    · replace c_254 : ¬ ((nI i_249) = ((((r_195 + 8) / 64) + 1) - 1)) := c_254
      refine lv_aload_n hx hb dX6_sum_86 rfl (lv_at hl_249 2 rfl) ?_
      refine gVv hF hl_249 hV hP_253 hD_253 hS_253 hA [3, 4, 0] [1, 2, 5, 6] (wc := [(h, .inr (7, [.ref qb, .ref qs])), (qb, .inl (E.2.1, 16, .inl u_252)), (qs, .inl (E.2.1, 4, .inl z_249.2))]) (wr := [(h3, .inr (6, [.ref a3, .int d.1])), (a3, .inl (E.2.1, n3, .inl d.2)), (h2, .inr (6, [.ref a2, .int q.1])), (a2, .inl (E.2.1, n2, .inl q.2))]) rfl rfl rfl (by decide) 0 7 rfl rfl rfl (k_X6_mix E l h qb qs u_252 z_249.2) (cwV 0 hts gX6_sum_X6_mix rfl rfl rfl (by decide +kernel) ⟨Nat.le_of_ble_eq_true rfl, Nat.le_of_ble_eq_true rfl⟩) rfl rfl rfl (Nat.le_of_ble_eq_true rfl) dX6_sum_87 ⟨Nat.le_of_ble_eq_true rfl, Nat.le_of_ble_eq_true rfl⟩ (fun u_255 H_256 locs_256 hu_255 hP_256 hD_256 hS_256 => ?_)
      replace hu_255 : u_255 = F_X6_mix u_252 z_249.2 := hu_255
      replace hP_256 : va_P E.1 vwCl [(h3, .inr (6, [.ref a3, .int d.1])), (a3, .inl (E.2.1, n3, .inl d.2)), (h2, .inr (6, [.ref a2, .int q.1])), (a2, .inl (E.2.1, n2, .inl q.2)), (h, .inr (7, [.ref qb, .ref qs])), (qb, .inl (E.2.1, 16, .inl u_252)), (qs, .inl (E.2.1, 4, .inl u_255))] H_256 := hP_256
      replace hD_256 : va_D A [(h3, .inr (6, [.ref a3, .int d.1])), (a3, .inl (E.2.1, n3, .inl d.2)), (h2, .inr (6, [.ref a2, .int q.1])), (a2, .inl (E.2.1, n2, .inl q.2)), (h, .inr (7, [.ref qb, .ref qs])), (qb, .inl (E.2.1, 16, .inl u_252)), (qs, .inl (E.2.1, 4, .inl u_255))] := hD_256
      clear hP_253 hD_253 hS_253
      refine lv_iinc (v := (nI (i_249 + 1))) (lv' := [(4, .int (nI (i_249 + 1))), (3, .int (((r_195 + 8) / 64) + 1)), (0, .ref h), (1, .ref h2), (2, .ref h3)]) hx hb dX6_sum_90 hl_249 (k := 0) rfl (nI_add _ 1) (by decide) rfl (fun ls_257 hl_257 => ?_)
      clear hl_249
      refine lv_goto (tgt := 48) hx hb dX6_sum_93 (by decide) ?_
      exact ih_249 ((u_252, u_255) : (Nat → Int32) × (Nat → Int32)) _ _ _ (((show (B_X6_sum_48 n2 q r_195) i_249 z_249 = _ from (gLet_eq hu_252 ((if_neg c_254).trans (gLet_eq hu_255 rfl)))).symm.trans (congrArg ((B_X6_sum_48 n2 q r_195) i_249) hz_249)).trans (itr_s _ _ _).symm) ⟨lv_sub hl_257 [0, 1, 2, 3, 4] rfl, (hP_256.sub [4, 5, 6, 3, 0, 1, 2] rfl), (hD_256.sub [4, 5, 6, 3, 0, 1, 2] (by decide) rfl), hS_256⟩
    · replace c_254 : (nI i_249) = ((((r_195 + 8) / 64) + 1) - 1) := c_254
      refine lv_aload_n hx hb dX6_sum_72 rfl (lv_at hl_249 2 rfl) ?_
      refine va_get (D := E.1) (ci := 7) (v := .ref qb) (C := RX6) (T := TX6) (N := 2) hx hb hts in_X6 hown hK hP_253 3 rfl rfl 0 (by decide) w_5 (fun _ h9 => h9) rfl dX6_sum_73 ?_
      refine lv_bipush (v := 14) hx hb dX6_sum_76 (by decide) ?_
      refine lv_bipush (v := 8) hx hb dX6_sum_78 (by decide) ?_
      refine lv_aload_n hx hb dX6_sum_80 rfl (lv_at hl_249 3 rfl) ?_
      refine gVi hF hl_249 hV hP_253 hD_253 hS_253 hA [5] [0, 1, 2, 3, 4, 6] (wc := [(h2, .inr (6, [.ref a2, .int q.1]))]) (wr := [(qs, .inl (E.2.1, 4, .inl z_249.2)), (h3, .inr (6, [.ref a3, .int d.1])), (a3, .inl (E.2.1, n3, .inl d.2)), (h, .inr (7, [.ref qb, .ref qs])), (qb, .inl (E.2.1, 16, .inl u_252)), (a2, .inl (E.2.1, n2, .inl q.2))]) rfl rfl rfl (by decide) 0 6 rfl rfl rfl (k_X5_count E l h2 a2 q) (cwV 0 hts gX6_sum_X5_count rfl rfl rfl (by decide +kernel) ⟨Nat.le_of_ble_eq_true rfl, Nat.le_of_ble_eq_true rfl⟩) rfl rfl rfl (Nat.le_of_ble_eq_true rfl) dX6_sum_81 ⟨Nat.le_of_ble_eq_true rfl, Nat.le_of_ble_eq_true rfl⟩ (fun r_258 _ H_259 locs_259 hu_258 hP_259 hD_259 hS_259 => ?_)
      have er_258 : r_258 = F_X5_count q := hu_258
      clear hu_258
      replace hP_259 : va_P E.1 vwCl [(qs, .inl (E.2.1, 4, .inl z_249.2)), (h3, .inr (6, [.ref a3, .int d.1])), (a3, .inl (E.2.1, n3, .inl d.2)), (h, .inr (7, [.ref qb, .ref qs])), (qb, .inl (E.2.1, 16, .inl u_252)), (a2, .inl (E.2.1, n2, .inl q.2)), (h2, .inr (6, [.ref a2, .int q.1]))] H_259 := hP_259
      replace hD_259 : va_D A [(qs, .inl (E.2.1, 4, .inl z_249.2)), (h3, .inr (6, [.ref a3, .int d.1])), (a3, .inl (E.2.1, n3, .inl d.2)), (h, .inr (7, [.ref qb, .ref qs])), (qb, .inl (E.2.1, 16, .inl u_252)), (a2, .inl (E.2.1, n2, .inl q.2)), (h2, .inr (6, [.ref a2, .int q.1]))] := hD_259
      clear hP_253 hD_253 hS_253
      refine lv_imul hx hb dX6_sum_84 ?_
      refine g_iast (e0 := 14) hx hb hK hP_259 hD_259 hS_259 4 0 rfl rfl (by omega) (by omega) dX6_sum_85 (fun H_260 locs_260 hP_260 hD_260 hS_260 => ?_)
      replace hP_260 : va_P E.1 vwCl [(qs, .inl (E.2.1, 4, .inl z_249.2)), (h3, .inr (6, [.ref a3, .int d.1])), (a3, .inl (E.2.1, n3, .inl d.2)), (h, .inr (7, [.ref qb, .ref qs])), (qb, .inl (E.2.1, 16, .inl (upd u_252 14 (8 * r_258)))), (a2, .inl (E.2.1, n2, .inl q.2)), (h2, .inr (6, [.ref a2, .int q.1]))] H_260 := hP_260
      replace hD_260 : va_D A [(qs, .inl (E.2.1, 4, .inl z_249.2)), (h3, .inr (6, [.ref a3, .int d.1])), (a3, .inl (E.2.1, n3, .inl d.2)), (h, .inr (7, [.ref qb, .ref qs])), (qb, .inl (E.2.1, 16, .inl (upd u_252 14 (8 * r_258)))), (a2, .inl (E.2.1, n2, .inl q.2)), (h2, .inr (6, [.ref a2, .int q.1]))] := hD_260
      clear hP_259 hD_259 hS_259
      refine lv_aload_n hx hb dX6_sum_86 rfl (lv_at hl_249 2 rfl) ?_
      refine gVv hF hl_249 hV hP_260 hD_260 hS_260 hA [3, 4, 0] [1, 2, 5, 6] (wc := [(h, .inr (7, [.ref qb, .ref qs])), (qb, .inl (E.2.1, 16, .inl (upd u_252 14 (8 * r_258)))), (qs, .inl (E.2.1, 4, .inl z_249.2))]) (wr := [(h3, .inr (6, [.ref a3, .int d.1])), (a3, .inl (E.2.1, n3, .inl d.2)), (a2, .inl (E.2.1, n2, .inl q.2)), (h2, .inr (6, [.ref a2, .int q.1]))]) rfl rfl rfl (by decide) 0 7 rfl rfl rfl (k_X6_mix E l h qb qs (upd u_252 14 (8 * r_258)) z_249.2) (cwV 0 hts gX6_sum_X6_mix rfl rfl rfl (by decide +kernel) ⟨Nat.le_of_ble_eq_true rfl, Nat.le_of_ble_eq_true rfl⟩) rfl rfl rfl (Nat.le_of_ble_eq_true rfl) dX6_sum_87 ⟨Nat.le_of_ble_eq_true rfl, Nat.le_of_ble_eq_true rfl⟩ (fun u_261 H_262 locs_262 hu_261 hP_262 hD_262 hS_262 => ?_)
      replace hu_261 : u_261 = F_X6_mix (upd u_252 14 (8 * r_258)) z_249.2 := hu_261
      replace hP_262 : va_P E.1 vwCl [(h3, .inr (6, [.ref a3, .int d.1])), (a3, .inl (E.2.1, n3, .inl d.2)), (a2, .inl (E.2.1, n2, .inl q.2)), (h2, .inr (6, [.ref a2, .int q.1])), (h, .inr (7, [.ref qb, .ref qs])), (qb, .inl (E.2.1, 16, .inl (upd u_252 14 (8 * r_258)))), (qs, .inl (E.2.1, 4, .inl u_261))] H_262 := hP_262
      replace hD_262 : va_D A [(h3, .inr (6, [.ref a3, .int d.1])), (a3, .inl (E.2.1, n3, .inl d.2)), (a2, .inl (E.2.1, n2, .inl q.2)), (h2, .inr (6, [.ref a2, .int q.1])), (h, .inr (7, [.ref qb, .ref qs])), (qb, .inl (E.2.1, 16, .inl (upd u_252 14 (8 * r_258)))), (qs, .inl (E.2.1, 4, .inl u_261))] := hD_262
      clear hP_260 hD_260 hS_260
      refine lv_iinc (v := (nI (i_249 + 1))) (lv' := [(4, .int (nI (i_249 + 1))), (3, .int (((r_195 + 8) / 64) + 1)), (0, .ref h), (1, .ref h2), (2, .ref h3)]) hx hb dX6_sum_90 hl_249 (k := 0) rfl (nI_add _ 1) (by decide) rfl (fun ls_263 hl_263 => ?_)
      clear hl_249
      refine lv_goto (tgt := 48) hx hb dX6_sum_93 (by decide) ?_
      exact ih_249 (((upd u_252 14 (8 * r_258)), u_261) : (Nat → Int32) × (Nat → Int32)) _ _ _ (((show (B_X6_sum_48 n2 q r_195) i_249 z_249 = _ from (gLet_eq hu_252 ((if_pos c_254).trans (gLet_eq er_258 (gLet_eq hu_261 rfl))))).symm.trans (congrArg ((B_X6_sum_48 n2 q r_195) i_249) hz_249)).trans (itr_s _ _ _).symm) ⟨lv_sub hl_263 [0, 1, 2, 3, 4] rfl, (hP_262.sub [4, 5, 6, 2, 0, 1, 3] rfl), (hD_262.sub [4, 5, 6, 2, 0, 1, 3] (by decide) rfl), hS_262⟩
  · intro z_264 H_264 locs_264 ls_264 hz_264 hI_264
    obtain ⟨hl_264, hP_264, hD_264, hS_264⟩ := hI_264
    replace hl_264 : lv_has ls_264 5 [(4, .int (nI (((((r_195 + 8) / 64) + 1).toNatClampNeg)))), (3, .int (((r_195 + 8) / 64) + 1)), (0, .ref h), (1, .ref h2), (2, .ref h3)] := hl_264
    replace hP_264 : va_P E.1 vwCl [(h, .inr (7, [.ref qb, .ref qs])), (qb, .inl (E.2.1, 16, .inl z_264.1)), (qs, .inl (E.2.1, 4, .inl z_264.2)), (a2, .inl (E.2.1, n2, .inl q.2)), (h3, .inr (6, [.ref a3, .int d.1])), (a3, .inl (E.2.1, n3, .inl d.2)), (h2, .inr (6, [.ref a2, .int q.1]))] H_264 := hP_264
    replace hD_264 : va_D A [(h, .inr (7, [.ref qb, .ref qs])), (qb, .inl (E.2.1, 16, .inl z_264.1)), (qs, .inl (E.2.1, 4, .inl z_264.2)), (a2, .inl (E.2.1, n2, .inl q.2)), (h3, .inr (6, [.ref a3, .int d.1])), (a3, .inl (E.2.1, n3, .inl d.2)), (h2, .inr (6, [.ref a2, .int q.1]))] := hD_264
    clear hl_198 hP_196 hD_196 hS_196
    refine lv_iload hx hb dX6_sum_48 (lv_at hl_264 0 rfl) ?_
    refine lv_iload_n hx hb dX6_sum_50 rfl (lv_at hl_264 1 rfl) ?_
    refine lv_icmp_ge (tgt := 96) hx hb dX6_sum_51 (by decide) (fun c_265 => ?_) (fun c_265 => (by have c_265 := (not_congr (g_rle (by omega))).mp c_265; exfalso; omega))
    replace c_265 : (((r_195 + 8) / 64) + 1).toNatClampNeg ≤ ((((r_195 + 8) / 64) + 1).toNatClampNeg) := (g_rle (by omega)).mp c_265
    refine lv_aload_n hx hb dX6_sum_96 rfl (lv_at hl_264 4 rfl) ?_
    refine gVv hF hl_264 hV hP_264 hD_264 hS_264 hA [4] [0, 1, 2, 3, 5, 6] (wc := [(h3, .inr (6, [.ref a3, .int d.1]))]) (wr := [(h, .inr (7, [.ref qb, .ref qs])), (qb, .inl (E.2.1, 16, .inl z_264.1)), (qs, .inl (E.2.1, 4, .inl z_264.2)), (a2, .inl (E.2.1, n2, .inl q.2)), (a3, .inl (E.2.1, n3, .inl d.2)), (h2, .inr (6, [.ref a2, .int q.1]))]) rfl rfl rfl (by decide) 0 6 rfl rfl rfl (k_X5_clear E l h3 a3 d) (cwV 0 hts gX6_sum_X5_clear rfl rfl rfl (by decide +kernel) ⟨Nat.le_of_ble_eq_true rfl, Nat.le_of_ble_eq_true rfl⟩) rfl rfl rfl (Nat.le_of_ble_eq_true rfl) dX6_sum_97 ⟨Nat.le_of_ble_eq_true rfl, Nat.le_of_ble_eq_true rfl⟩ (fun u_266 H_267 locs_267 hu_266 hP_267 hD_267 hS_267 => ?_)
    replace hu_266 : u_266 = F_X5_clear d := hu_266
    replace hP_267 : va_P E.1 vwCl [(h, .inr (7, [.ref qb, .ref qs])), (qb, .inl (E.2.1, 16, .inl z_264.1)), (qs, .inl (E.2.1, 4, .inl z_264.2)), (a2, .inl (E.2.1, n2, .inl q.2)), (a3, .inl (E.2.1, n3, .inl d.2)), (h2, .inr (6, [.ref a2, .int q.1])), (h3, .inr (6, [.ref a3, .int u_266.1]))] H_267 := hP_267
    replace hD_267 : va_D A [(h, .inr (7, [.ref qb, .ref qs])), (qb, .inl (E.2.1, 16, .inl z_264.1)), (qs, .inl (E.2.1, 4, .inl z_264.2)), (a2, .inl (E.2.1, n2, .inl q.2)), (a3, .inl (E.2.1, n3, .inl d.2)), (h2, .inr (6, [.ref a2, .int q.1])), (h3, .inr (6, [.ref a3, .int u_266.1]))] := hD_267
    clear hP_264 hD_264 hS_264
    refine lv_iconst (v := 0) hx hb dX6_sum_100 (by decide) ?_
    refine lv_istore (lv' := [(4, .int 0), (3, .int (((r_195 + 8) / 64) + 1)), (0, .ref h), (1, .ref h2), (2, .ref h3)]) hx hb dX6_sum_101 hl_264 (by decide) rfl (fun ls_268 hl_268 => ?_)
    clear hl_264
    refine lv_iload hx hb dX6_sum_103 (lv_at hl_268 0 rfl) ?_
    refine lv_iconst (v := 4) hx hb dX6_sum_105 (by decide) ?_
    refine lv_icmp_ge (tgt := 127) hx hb dX6_sum_106 (by decide) (fun c_269 => absurd c_269 (by decide)) (fun c_269 => ?_)
    refine lv_aload_n hx hb dX6_sum_109 rfl (lv_at hl_268 4 rfl) ?_
    refine lv_aload_n hx hb dX6_sum_110 rfl (lv_at hl_268 2 rfl) ?_
    refine va_get (D := E.1) (ci := 7) (v := .ref qs) (C := RX6) (T := TX6) (N := 2) hx hb hts in_X6 hown hK hP_267 0 rfl rfl 1 (by decide) w_0 (fun _ h9 => h9) rfl dX6_sum_111 ?_
    refine lv_iload hx hb dX6_sum_114 (lv_at hl_268 0 rfl) ?_
    refine g_iald (e0 := 0) hx hb hK hP_267 2 0 rfl rfl (by omega) (by omega) dX6_sum_116 ?_
    refine lv_iconst (v := 4) hx hb dX6_sum_117 (by decide) ?_
    refine gVv hF hl_268 hV hP_267 hD_267 hS_267 hA [6, 4] [0, 1, 2, 3, 5] (wc := [(h3, .inr (6, [.ref a3, .int u_266.1])), (a3, .inl (E.2.1, n3, .inl d.2))]) (wr := [(h, .inr (7, [.ref qb, .ref qs])), (qb, .inl (E.2.1, 16, .inl z_264.1)), (qs, .inl (E.2.1, 4, .inl z_264.2)), (a2, .inl (E.2.1, n2, .inl q.2)), (h2, .inr (6, [.ref a2, .int q.1]))]) rfl rfl rfl (by decide) 0 6 rfl rfl rfl (k_X5_addNumber E l h3 a3 n3 (u_266.1, d.2) (z_264.2 0) 4 (by omega)) (cwV 2 hts gX6_sum_X5_addNumber rfl rfl rfl (by decide +kernel) ⟨Nat.le_of_ble_eq_true rfl, Nat.le_of_ble_eq_true rfl⟩) rfl rfl rfl (Nat.le_of_ble_eq_true rfl) dX6_sum_118 ⟨Nat.le_of_ble_eq_true rfl, Nat.le_of_ble_eq_true rfl⟩ (fun u_270 H_271 locs_271 hu_270 hP_271 hD_271 hS_271 => ?_)
    replace hu_270 : u_270 = F_X5_addNumber n3 (u_266.1, d.2) (z_264.2 0) 4 := hu_270
    replace hP_271 : va_P E.1 vwCl [(h, .inr (7, [.ref qb, .ref qs])), (qb, .inl (E.2.1, 16, .inl z_264.1)), (qs, .inl (E.2.1, 4, .inl z_264.2)), (a2, .inl (E.2.1, n2, .inl q.2)), (h2, .inr (6, [.ref a2, .int q.1])), (h3, .inr (6, [.ref a3, .int u_270.1])), (a3, .inl (E.2.1, n3, .inl u_270.2))] H_271 := hP_271
    replace hD_271 : va_D A [(h, .inr (7, [.ref qb, .ref qs])), (qb, .inl (E.2.1, 16, .inl z_264.1)), (qs, .inl (E.2.1, 4, .inl z_264.2)), (a2, .inl (E.2.1, n2, .inl q.2)), (h2, .inr (6, [.ref a2, .int q.1])), (h3, .inr (6, [.ref a3, .int u_270.1])), (a3, .inl (E.2.1, n3, .inl u_270.2))] := hD_271
    clear hP_267 hD_267 hS_267
    refine lv_iinc (v := 1) (lv' := [(4, .int 1), (3, .int (((r_195 + 8) / 64) + 1)), (0, .ref h), (1, .ref h2), (2, .ref h3)]) hx hb dX6_sum_121 hl_268 (k := 0) rfl (by decide) (by decide) rfl (fun ls_272 hl_272 => ?_)
    clear hl_268
    refine lv_goto (tgt := 103) hx hb dX6_sum_124 (by decide) ?_
    refine lv_iload hx hb dX6_sum_103 (lv_at hl_272 0 rfl) ?_
    refine lv_iconst (v := 4) hx hb dX6_sum_105 (by decide) ?_
    refine lv_icmp_ge (tgt := 127) hx hb dX6_sum_106 (by decide) (fun c_273 => absurd c_273 (by decide)) (fun c_273 => ?_)
    refine lv_aload_n hx hb dX6_sum_109 rfl (lv_at hl_272 4 rfl) ?_
    refine lv_aload_n hx hb dX6_sum_110 rfl (lv_at hl_272 2 rfl) ?_
    refine va_get (D := E.1) (ci := 7) (v := .ref qs) (C := RX6) (T := TX6) (N := 2) hx hb hts in_X6 hown hK hP_271 0 rfl rfl 1 (by decide) w_0 (fun _ h9 => h9) rfl dX6_sum_111 ?_
    refine lv_iload hx hb dX6_sum_114 (lv_at hl_272 0 rfl) ?_
    refine g_iald (e0 := 1) hx hb hK hP_271 2 0 rfl rfl (by omega) (by omega) dX6_sum_116 ?_
    refine lv_iconst (v := 4) hx hb dX6_sum_117 (by decide) ?_
    refine gVv hF hl_272 hV hP_271 hD_271 hS_271 hA [5, 6] [0, 1, 2, 3, 4] (wc := [(h3, .inr (6, [.ref a3, .int u_270.1])), (a3, .inl (E.2.1, n3, .inl u_270.2))]) (wr := [(h, .inr (7, [.ref qb, .ref qs])), (qb, .inl (E.2.1, 16, .inl z_264.1)), (qs, .inl (E.2.1, 4, .inl z_264.2)), (a2, .inl (E.2.1, n2, .inl q.2)), (h2, .inr (6, [.ref a2, .int q.1]))]) rfl rfl rfl (by decide) 0 6 rfl rfl rfl (k_X5_addNumber E l h3 a3 n3 u_270 (z_264.2 1) 4 (by omega)) (cwV 2 hts gX6_sum_X5_addNumber rfl rfl rfl (by decide +kernel) ⟨Nat.le_of_ble_eq_true rfl, Nat.le_of_ble_eq_true rfl⟩) rfl rfl rfl (Nat.le_of_ble_eq_true rfl) dX6_sum_118 ⟨Nat.le_of_ble_eq_true rfl, Nat.le_of_ble_eq_true rfl⟩ (fun u_274 H_275 locs_275 hu_274 hP_275 hD_275 hS_275 => ?_)
    replace hu_274 : u_274 = F_X5_addNumber n3 u_270 (z_264.2 1) 4 := hu_274
    replace hP_275 : va_P E.1 vwCl [(h, .inr (7, [.ref qb, .ref qs])), (qb, .inl (E.2.1, 16, .inl z_264.1)), (qs, .inl (E.2.1, 4, .inl z_264.2)), (a2, .inl (E.2.1, n2, .inl q.2)), (h2, .inr (6, [.ref a2, .int q.1])), (h3, .inr (6, [.ref a3, .int u_274.1])), (a3, .inl (E.2.1, n3, .inl u_274.2))] H_275 := hP_275
    replace hD_275 : va_D A [(h, .inr (7, [.ref qb, .ref qs])), (qb, .inl (E.2.1, 16, .inl z_264.1)), (qs, .inl (E.2.1, 4, .inl z_264.2)), (a2, .inl (E.2.1, n2, .inl q.2)), (h2, .inr (6, [.ref a2, .int q.1])), (h3, .inr (6, [.ref a3, .int u_274.1])), (a3, .inl (E.2.1, n3, .inl u_274.2))] := hD_275
    clear hP_271 hD_271 hS_271
    refine lv_iinc (v := 2) (lv' := [(4, .int 2), (3, .int (((r_195 + 8) / 64) + 1)), (0, .ref h), (1, .ref h2), (2, .ref h3)]) hx hb dX6_sum_121 hl_272 (k := 0) rfl (by decide) (by decide) rfl (fun ls_276 hl_276 => ?_)
    clear hl_272
    refine lv_goto (tgt := 103) hx hb dX6_sum_124 (by decide) ?_
    refine lv_iload hx hb dX6_sum_103 (lv_at hl_276 0 rfl) ?_
    refine lv_iconst (v := 4) hx hb dX6_sum_105 (by decide) ?_
    refine lv_icmp_ge (tgt := 127) hx hb dX6_sum_106 (by decide) (fun c_277 => absurd c_277 (by decide)) (fun c_277 => ?_)
    refine lv_aload_n hx hb dX6_sum_109 rfl (lv_at hl_276 4 rfl) ?_
    refine lv_aload_n hx hb dX6_sum_110 rfl (lv_at hl_276 2 rfl) ?_
    refine va_get (D := E.1) (ci := 7) (v := .ref qs) (C := RX6) (T := TX6) (N := 2) hx hb hts in_X6 hown hK hP_275 0 rfl rfl 1 (by decide) w_0 (fun _ h9 => h9) rfl dX6_sum_111 ?_
    refine lv_iload hx hb dX6_sum_114 (lv_at hl_276 0 rfl) ?_
    refine g_iald (e0 := 2) hx hb hK hP_275 2 0 rfl rfl (by omega) (by omega) dX6_sum_116 ?_
    refine lv_iconst (v := 4) hx hb dX6_sum_117 (by decide) ?_
    refine gVv hF hl_276 hV hP_275 hD_275 hS_275 hA [5, 6] [0, 1, 2, 3, 4] (wc := [(h3, .inr (6, [.ref a3, .int u_274.1])), (a3, .inl (E.2.1, n3, .inl u_274.2))]) (wr := [(h, .inr (7, [.ref qb, .ref qs])), (qb, .inl (E.2.1, 16, .inl z_264.1)), (qs, .inl (E.2.1, 4, .inl z_264.2)), (a2, .inl (E.2.1, n2, .inl q.2)), (h2, .inr (6, [.ref a2, .int q.1]))]) rfl rfl rfl (by decide) 0 6 rfl rfl rfl (k_X5_addNumber E l h3 a3 n3 u_274 (z_264.2 2) 4 (by omega)) (cwV 2 hts gX6_sum_X5_addNumber rfl rfl rfl (by decide +kernel) ⟨Nat.le_of_ble_eq_true rfl, Nat.le_of_ble_eq_true rfl⟩) rfl rfl rfl (Nat.le_of_ble_eq_true rfl) dX6_sum_118 ⟨Nat.le_of_ble_eq_true rfl, Nat.le_of_ble_eq_true rfl⟩ (fun u_278 H_279 locs_279 hu_278 hP_279 hD_279 hS_279 => ?_)
    replace hu_278 : u_278 = F_X5_addNumber n3 u_274 (z_264.2 2) 4 := hu_278
    replace hP_279 : va_P E.1 vwCl [(h, .inr (7, [.ref qb, .ref qs])), (qb, .inl (E.2.1, 16, .inl z_264.1)), (qs, .inl (E.2.1, 4, .inl z_264.2)), (a2, .inl (E.2.1, n2, .inl q.2)), (h2, .inr (6, [.ref a2, .int q.1])), (h3, .inr (6, [.ref a3, .int u_278.1])), (a3, .inl (E.2.1, n3, .inl u_278.2))] H_279 := hP_279
    replace hD_279 : va_D A [(h, .inr (7, [.ref qb, .ref qs])), (qb, .inl (E.2.1, 16, .inl z_264.1)), (qs, .inl (E.2.1, 4, .inl z_264.2)), (a2, .inl (E.2.1, n2, .inl q.2)), (h2, .inr (6, [.ref a2, .int q.1])), (h3, .inr (6, [.ref a3, .int u_278.1])), (a3, .inl (E.2.1, n3, .inl u_278.2))] := hD_279
    clear hP_275 hD_275 hS_275
    refine lv_iinc (v := 3) (lv' := [(4, .int 3), (3, .int (((r_195 + 8) / 64) + 1)), (0, .ref h), (1, .ref h2), (2, .ref h3)]) hx hb dX6_sum_121 hl_276 (k := 0) rfl (by decide) (by decide) rfl (fun ls_280 hl_280 => ?_)
    clear hl_276
    refine lv_goto (tgt := 103) hx hb dX6_sum_124 (by decide) ?_
    refine lv_iload hx hb dX6_sum_103 (lv_at hl_280 0 rfl) ?_
    refine lv_iconst (v := 4) hx hb dX6_sum_105 (by decide) ?_
    refine lv_icmp_ge (tgt := 127) hx hb dX6_sum_106 (by decide) (fun c_281 => absurd c_281 (by decide)) (fun c_281 => ?_)
    refine lv_aload_n hx hb dX6_sum_109 rfl (lv_at hl_280 4 rfl) ?_
    refine lv_aload_n hx hb dX6_sum_110 rfl (lv_at hl_280 2 rfl) ?_
    refine va_get (D := E.1) (ci := 7) (v := .ref qs) (C := RX6) (T := TX6) (N := 2) hx hb hts in_X6 hown hK hP_279 0 rfl rfl 1 (by decide) w_0 (fun _ h9 => h9) rfl dX6_sum_111 ?_
    refine lv_iload hx hb dX6_sum_114 (lv_at hl_280 0 rfl) ?_
    refine g_iald (e0 := 3) hx hb hK hP_279 2 0 rfl rfl (by omega) (by omega) dX6_sum_116 ?_
    refine lv_iconst (v := 4) hx hb dX6_sum_117 (by decide) ?_
    refine gVv hF hl_280 hV hP_279 hD_279 hS_279 hA [5, 6] [0, 1, 2, 3, 4] (wc := [(h3, .inr (6, [.ref a3, .int u_278.1])), (a3, .inl (E.2.1, n3, .inl u_278.2))]) (wr := [(h, .inr (7, [.ref qb, .ref qs])), (qb, .inl (E.2.1, 16, .inl z_264.1)), (qs, .inl (E.2.1, 4, .inl z_264.2)), (a2, .inl (E.2.1, n2, .inl q.2)), (h2, .inr (6, [.ref a2, .int q.1]))]) rfl rfl rfl (by decide) 0 6 rfl rfl rfl (k_X5_addNumber E l h3 a3 n3 u_278 (z_264.2 3) 4 (by omega)) (cwV 2 hts gX6_sum_X5_addNumber rfl rfl rfl (by decide +kernel) ⟨Nat.le_of_ble_eq_true rfl, Nat.le_of_ble_eq_true rfl⟩) rfl rfl rfl (Nat.le_of_ble_eq_true rfl) dX6_sum_118 ⟨Nat.le_of_ble_eq_true rfl, Nat.le_of_ble_eq_true rfl⟩ (fun u_282 H_283 locs_283 hu_282 hP_283 hD_283 hS_283 => ?_)
    replace hu_282 : u_282 = F_X5_addNumber n3 u_278 (z_264.2 3) 4 := hu_282
    replace hP_283 : va_P E.1 vwCl [(h, .inr (7, [.ref qb, .ref qs])), (qb, .inl (E.2.1, 16, .inl z_264.1)), (qs, .inl (E.2.1, 4, .inl z_264.2)), (a2, .inl (E.2.1, n2, .inl q.2)), (h2, .inr (6, [.ref a2, .int q.1])), (h3, .inr (6, [.ref a3, .int u_282.1])), (a3, .inl (E.2.1, n3, .inl u_282.2))] H_283 := hP_283
    replace hD_283 : va_D A [(h, .inr (7, [.ref qb, .ref qs])), (qb, .inl (E.2.1, 16, .inl z_264.1)), (qs, .inl (E.2.1, 4, .inl z_264.2)), (a2, .inl (E.2.1, n2, .inl q.2)), (h2, .inr (6, [.ref a2, .int q.1])), (h3, .inr (6, [.ref a3, .int u_282.1])), (a3, .inl (E.2.1, n3, .inl u_282.2))] := hD_283
    clear hP_279 hD_279 hS_279
    refine lv_iinc (v := 4) (lv' := [(4, .int 4), (3, .int (((r_195 + 8) / 64) + 1)), (0, .ref h), (1, .ref h2), (2, .ref h3)]) hx hb dX6_sum_121 hl_280 (k := 0) rfl (by decide) (by decide) rfl (fun ls_284 hl_284 => ?_)
    clear hl_280
    refine lv_goto (tgt := 103) hx hb dX6_sum_124 (by decide) ?_
    refine lv_iload hx hb dX6_sum_103 (lv_at hl_284 0 rfl) ?_
    refine lv_iconst (v := 4) hx hb dX6_sum_105 (by decide) ?_
    refine lv_icmp_ge (tgt := 127) hx hb dX6_sum_106 (by decide) (fun c_285 => ?_) (fun c_285 => absurd (by decide) c_285)
    have hpost : ((z_264.1, z_264.2, u_282) : (Nat → Int32) × (Nat → Int32) × gRow) = F_X6_sum n2 n3 bk st q d := (show F_X6_sum n2 n3 bk st q d = ((z_264.1, z_264.2, u_282) : (Nat → Int32) × (Nat → Int32) × gRow) from (gLet_eq er_195 (gLet_eq hz_264 (gLet_eq hu_266 (gLet_eq hu_270 (gLet_eq hu_274 (gLet_eq hu_278 (gLet_eq hu_282 rfl)))))))).symm
    have hP9 := hP_283.sub (ws' := [(h, .inr (7, [.ref qb, .ref qs])), (qb, .inl (E.2.1, 16, .inl z_264.1)), (qs, .inl (E.2.1, 4, .inl z_264.2)), (h2, .inr (6, [.ref a2, .int q.1])), (a2, .inl (E.2.1, n2, .inl q.2)), (h3, .inr (6, [.ref a3, .int u_282.1])), (a3, .inl (E.2.1, n3, .inl u_282.2))]) [0, 1, 2, 4, 3, 5, 6] rfl
    have hD9 := hD_283.sub (ws' := [(h, .inr (7, [.ref qb, .ref qs])), (qb, .inl (E.2.1, 16, .inl z_264.1)), (qs, .inl (E.2.1, 4, .inl z_264.2)), (h2, .inr (6, [.ref a2, .int q.1])), (a2, .inl (E.2.1, n2, .inl q.2)), (h3, .inr (6, [.ref a3, .int u_282.1])), (a3, .inl (E.2.1, n3, .inl u_282.2))]) [0, 1, 2, 4, 3, 5, 6] (by decide) rfl
    exact W.vret hx hb hr (fun t ht hW => ⟨⟨(z_264.1, z_264.2, u_282), rfl, hpost, by rw [ht]; exact hP9, hD9⟩, hS_283.F ht⟩) hS_283.2.2 dX6_sum_127
set_option maxHeartbeats 4000000 in
set_option maxRecDepth 100000 in
theorem k_X6_sum_same (E : gE) (l : Launch) (h h2 qb qs a2 : Nat) (n2 : Nat) (bk : Nat → Int32) (st : Nat → Int32) (q : gRow) (hn2 : n2 < 2147483648) : gMv E l yX6_sum wsX6_sum ({ frames := 2, cells := 0, slots := 0, locals := 51 }) 0 0 [.ref h, .ref h2, .ref h2] [(h, .inr (7, [.ref qb, .ref qs])), (qb, .inl (E.2.1, 16, .inl bk)), (qs, .inl (E.2.1, 4, .inl st)), (h2, .inr (6, [.ref a2, .int q.1])), (a2, .inl (E.2.1, n2, .inl q.2))] (fun (uu : (Nat → Int32) × (Nat → Int32) × gRow) => uu = F_X6_sum_same n2 bk st q) (fun (uu : (Nat → Int32) × (Nat → Int32) × gRow) => [(h, .inr (7, [.ref qb, .ref qs])), (qb, .inl (E.2.1, 16, .inl uu.1)), (qs, .inl (E.2.1, 4, .inl uu.2.1)), (h2, .inr (6, [.ref a2, .int uu.2.2.1])), (a2, .inl (E.2.1, n2, .inl uu.2.2.2))]) := by
  intro sz
  refine Met.ofW (cc := cX6_sum) (maxL := 5) (ret := none) (by decide) rfl ?_
  intro p e s m args below meth c s₁ B hml hv
  obtain ⟨rfl, hsz, hP, hV, hD0⟩ := hv
  have hx := B.exec
  have hb := B.bytes
  have hr := B.returns
  have hts := atoms_spec (ws := wsX6_sum) B.pre
  have hown : s.vm.findClass RX6 = some m.cls := findClass_of_methodNamed B.named
  have hlocks := B.notSynchronized
  subst hsz
  have hD := hD0.self (sz := s.heap.size)
  clear hD0
  generalize hAe : va_A [(h, .inr (7, [.ref qb, .ref qs])), (qb, .inl (E.2.1, 16, .inl bk)), (qs, .inl (E.2.1, 4, .inl st)), (h2, .inr (6, [.ref a2, .int q.1])), (a2, .inl (E.2.1, n2, .inl q.2))] s.heap.size = A at hD hV ⊢
  have hA : ∀ q : Nat, s.heap.size ≤ q → A q := fun q h => by rw [← hAe]; exact Or.inr h
  have hS : va_S A s.heap s.heap [] := va_S.rf
  have hK := hV.1
  have hF : CallFix p m c cX6_sum 5 s _ wsX6_sum RX6 := ⟨hx, hb, hml, hown, hts⟩
  have hl := lv_entry [.ref h, .ref h2, .ref h2] (n := 5) (Nat.le_of_ble_eq_true rfl)
  rw [lg_entry_eq]
  generalize (lg_sl [.ref h, .ref h2, .ref h2] ++ List.replicate (5 - (lg_sl [.ref h, .ref h2, .ref h2]).length) Slot.unset).toArray = ls at hl ⊢
  have hl : lv_has ls 5 [(0, .ref h), (1, .ref h2), (2, .ref h2)] := hl
  have in_X6 : ∀ w ∈ wsX60, w ∈ wsX6_sum := by decide +kernel
  have w_0 := hts (.fieldLink RX6 13 "CryptRows$Small" "state" "[I") (by decide +kernel)
  have w_1 := hts (.constant RX6 16 1732584193) (by decide +kernel)
  have w_2 := hts (.constant RX6 17 (-271733879)) (by decide +kernel)
  have w_3 := hts (.constant RX6 18 (-1732584194)) (by decide +kernel)
  have w_4 := hts (.constant RX6 19 271733878) (by decide +kernel)
  have w_5 := hts (.fieldLink RX6 7 "CryptRows$Small" "block" "[I") (by decide +kernel)
  refine lv_aload_n hx hb dX6_sum_0 rfl (lv_at hl 0 rfl) ?_
  refine va_get (D := E.1) (ci := 7) (v := .ref qs) (C := RX6) (T := TX6) (N := 2) hx hb hts in_X6 hown hK hP 0 rfl rfl 1 (by decide) w_0 (fun _ h9 => h9) rfl dX6_sum_1 ?_
  refine lv_iconst (v := 0) hx hb dX6_sum_4 (by decide) ?_
  refine lv_ldc (v := 1732584193) hx hb hown w_1 dX6_sum_5 ?_
  refine g_iast (e0 := 0) hx hb hK hP hD hS 2 0 rfl rfl (by omega) (by omega) dX6_sum_7 (fun H_191 locs_191 hP_191 hD_191 hS_191 => ?_)
  replace hP_191 : va_P E.1 vwCl [(h, .inr (7, [.ref qb, .ref qs])), (qb, .inl (E.2.1, 16, .inl bk)), (qs, .inl (E.2.1, 4, .inl (upd st 0 1732584193))), (h2, .inr (6, [.ref a2, .int q.1])), (a2, .inl (E.2.1, n2, .inl q.2))] H_191 := hP_191
  replace hD_191 : va_D A [(h, .inr (7, [.ref qb, .ref qs])), (qb, .inl (E.2.1, 16, .inl bk)), (qs, .inl (E.2.1, 4, .inl (upd st 0 1732584193))), (h2, .inr (6, [.ref a2, .int q.1])), (a2, .inl (E.2.1, n2, .inl q.2))] := hD_191
  clear hP hD hS
  refine lv_aload_n hx hb dX6_sum_8 rfl (lv_at hl 0 rfl) ?_
  refine va_get (D := E.1) (ci := 7) (v := .ref qs) (C := RX6) (T := TX6) (N := 2) hx hb hts in_X6 hown hK hP_191 0 rfl rfl 1 (by decide) w_0 (fun _ h9 => h9) rfl dX6_sum_9 ?_
  refine lv_iconst (v := 1) hx hb dX6_sum_12 (by decide) ?_
  refine lv_ldc (v := (-271733879)) hx hb hown w_2 dX6_sum_13 ?_
  refine g_iast (e0 := 1) hx hb hK hP_191 hD_191 hS_191 2 0 rfl rfl (by omega) (by omega) dX6_sum_15 (fun H_192 locs_192 hP_192 hD_192 hS_192 => ?_)
  replace hP_192 : va_P E.1 vwCl [(h, .inr (7, [.ref qb, .ref qs])), (qb, .inl (E.2.1, 16, .inl bk)), (qs, .inl (E.2.1, 4, .inl (upd (upd st 0 1732584193) 1 (-271733879)))), (h2, .inr (6, [.ref a2, .int q.1])), (a2, .inl (E.2.1, n2, .inl q.2))] H_192 := hP_192
  replace hD_192 : va_D A [(h, .inr (7, [.ref qb, .ref qs])), (qb, .inl (E.2.1, 16, .inl bk)), (qs, .inl (E.2.1, 4, .inl (upd (upd st 0 1732584193) 1 (-271733879)))), (h2, .inr (6, [.ref a2, .int q.1])), (a2, .inl (E.2.1, n2, .inl q.2))] := hD_192
  clear hP_191 hD_191 hS_191
  refine lv_aload_n hx hb dX6_sum_16 rfl (lv_at hl 0 rfl) ?_
  refine va_get (D := E.1) (ci := 7) (v := .ref qs) (C := RX6) (T := TX6) (N := 2) hx hb hts in_X6 hown hK hP_192 0 rfl rfl 1 (by decide) w_0 (fun _ h9 => h9) rfl dX6_sum_17 ?_
  refine lv_iconst (v := 2) hx hb dX6_sum_20 (by decide) ?_
  refine lv_ldc (v := (-1732584194)) hx hb hown w_3 dX6_sum_21 ?_
  refine g_iast (e0 := 2) hx hb hK hP_192 hD_192 hS_192 2 0 rfl rfl (by omega) (by omega) dX6_sum_23 (fun H_193 locs_193 hP_193 hD_193 hS_193 => ?_)
  replace hP_193 : va_P E.1 vwCl [(h, .inr (7, [.ref qb, .ref qs])), (qb, .inl (E.2.1, 16, .inl bk)), (qs, .inl (E.2.1, 4, .inl (upd (upd (upd st 0 1732584193) 1 (-271733879)) 2 (-1732584194)))), (h2, .inr (6, [.ref a2, .int q.1])), (a2, .inl (E.2.1, n2, .inl q.2))] H_193 := hP_193
  replace hD_193 : va_D A [(h, .inr (7, [.ref qb, .ref qs])), (qb, .inl (E.2.1, 16, .inl bk)), (qs, .inl (E.2.1, 4, .inl (upd (upd (upd st 0 1732584193) 1 (-271733879)) 2 (-1732584194)))), (h2, .inr (6, [.ref a2, .int q.1])), (a2, .inl (E.2.1, n2, .inl q.2))] := hD_193
  clear hP_192 hD_192 hS_192
  refine lv_aload_n hx hb dX6_sum_24 rfl (lv_at hl 0 rfl) ?_
  refine va_get (D := E.1) (ci := 7) (v := .ref qs) (C := RX6) (T := TX6) (N := 2) hx hb hts in_X6 hown hK hP_193 0 rfl rfl 1 (by decide) w_0 (fun _ h9 => h9) rfl dX6_sum_25 ?_
  refine lv_iconst (v := 3) hx hb dX6_sum_28 (by decide) ?_
  refine lv_ldc (v := 271733878) hx hb hown w_4 dX6_sum_29 ?_
  refine g_iast (e0 := 3) hx hb hK hP_193 hD_193 hS_193 2 0 rfl rfl (by omega) (by omega) dX6_sum_31 (fun H_194 locs_194 hP_194 hD_194 hS_194 => ?_)
  replace hP_194 : va_P E.1 vwCl [(h, .inr (7, [.ref qb, .ref qs])), (qb, .inl (E.2.1, 16, .inl bk)), (qs, .inl (E.2.1, 4, .inl (upd (upd (upd (upd st 0 1732584193) 1 (-271733879)) 2 (-1732584194)) 3 271733878))), (h2, .inr (6, [.ref a2, .int q.1])), (a2, .inl (E.2.1, n2, .inl q.2))] H_194 := hP_194
  replace hD_194 : va_D A [(h, .inr (7, [.ref qb, .ref qs])), (qb, .inl (E.2.1, 16, .inl bk)), (qs, .inl (E.2.1, 4, .inl (upd (upd (upd (upd st 0 1732584193) 1 (-271733879)) 2 (-1732584194)) 3 271733878))), (h2, .inr (6, [.ref a2, .int q.1])), (a2, .inl (E.2.1, n2, .inl q.2))] := hD_194
  clear hP_193 hD_193 hS_193
  refine lv_aload_n hx hb dX6_sum_32 rfl (lv_at hl 1 rfl) ?_
  refine gVi hF hl hV hP_194 hD_194 hS_194 hA [3] [0, 1, 2, 4] (wc := [(h2, .inr (6, [.ref a2, .int q.1]))]) (wr := [(h, .inr (7, [.ref qb, .ref qs])), (qb, .inl (E.2.1, 16, .inl bk)), (qs, .inl (E.2.1, 4, .inl (upd (upd (upd (upd st 0 1732584193) 1 (-271733879)) 2 (-1732584194)) 3 271733878))), (a2, .inl (E.2.1, n2, .inl q.2))]) rfl rfl rfl (by decide) 0 6 rfl rfl rfl (k_X5_count E l h2 a2 q) (cwV 0 hts gX6_sum_X5_count rfl rfl rfl (by decide +kernel) ⟨Nat.le_of_ble_eq_true rfl, Nat.le_of_ble_eq_true rfl⟩) rfl rfl rfl (Nat.le_of_ble_eq_true rfl) dX6_sum_33 ⟨Nat.le_of_ble_eq_true rfl, Nat.le_of_ble_eq_true rfl⟩ (fun r_195 _ H_196 locs_196 hu_195 hP_196 hD_196 hS_196 => ?_)
  have er_195 : r_195 = F_X5_count q := hu_195
  clear hu_195
  replace hP_196 : va_P E.1 vwCl [(h, .inr (7, [.ref qb, .ref qs])), (qb, .inl (E.2.1, 16, .inl bk)), (qs, .inl (E.2.1, 4, .inl (upd (upd (upd (upd st 0 1732584193) 1 (-271733879)) 2 (-1732584194)) 3 271733878))), (a2, .inl (E.2.1, n2, .inl q.2)), (h2, .inr (6, [.ref a2, .int q.1]))] H_196 := hP_196
  replace hD_196 : va_D A [(h, .inr (7, [.ref qb, .ref qs])), (qb, .inl (E.2.1, 16, .inl bk)), (qs, .inl (E.2.1, 4, .inl (upd (upd (upd (upd st 0 1732584193) 1 (-271733879)) 2 (-1732584194)) 3 271733878))), (a2, .inl (E.2.1, n2, .inl q.2)), (h2, .inr (6, [.ref a2, .int q.1]))] := hD_196
  clear hP_194 hD_194 hS_194
  refine lv_bipush (v := 8) hx hb dX6_sum_36 (by decide) ?_
  refine lv_iadd hx hb dX6_sum_38 ?_
  refine lv_bipush (v := 64) hx hb dX6_sum_39 (by decide) ?_
  refine lv_idiv hx hb dX6_sum_41 (by decide) ?_
  refine lv_iconst (v := 1) hx hb dX6_sum_42 (by decide) ?_
  refine lv_iadd hx hb dX6_sum_43 ?_
  refine lv_istore_n (lv' := [(3, .int (((r_195 + 8) / 64) + 1)), (0, .ref h), (1, .ref h2), (2, .ref h2)]) hx hb dX6_sum_44 rfl hl (by decide) rfl (fun ls_197 hl_197 => ?_)
  clear hl
  refine lv_iconst (v := 0) hx hb dX6_sum_45 (by decide) ?_
  refine lv_istore (lv' := [(4, .int 0), (3, .int (((r_195 + 8) / 64) + 1)), (0, .ref h), (1, .ref h2), (2, .ref h2)]) hx hb dX6_sum_46 hl_197 (by decide) rfl (fun ls_198 hl_198 => ?_)
  clear hl_197
  have hcl_247 := g_clamp_lt (((r_195 + 8) / 64) + 1)
  refine g_up (N := ((((r_195 + 8) / 64) + 1).toNatClampNeg)) (B_X6_sum_same_48 n2 q r_195) ((bk, (upd (upd (upd (upd st 0 1732584193) 1 (-271733879)) 2 (-1732584194)) 3 271733878)) : (Nat → Int32) × (Nat → Int32)) (Inv := fun i_0 z_248 H_0 locs_0 ls_0 => lv_has ls_0 5 [(4, .int (nI i_0)), (3, .int (((r_195 + 8) / 64) + 1)), (0, .ref h), (1, .ref h2), (2, .ref h2)] ∧ va_P E.1 vwCl [(h, .inr (7, [.ref qb, .ref qs])), (qb, .inl (E.2.1, 16, .inl z_248.1)), (qs, .inl (E.2.1, 4, .inl z_248.2)), (a2, .inl (E.2.1, n2, .inl q.2)), (h2, .inr (6, [.ref a2, .int q.1]))] H_0 ∧ va_D A [(h, .inr (7, [.ref qb, .ref qs])), (qb, .inl (E.2.1, 16, .inl z_248.1)), (qs, .inl (E.2.1, 4, .inl z_248.2)), (a2, .inl (E.2.1, n2, .inl q.2)), (h2, .inr (6, [.ref a2, .int q.1]))] ∧ va_S A s.heap H_0 locs_0) (G := fun H_0 locs_0 ls_0 => W _ _ _ _ _ _ _ _ _ _ H_0 locs_0 _ _ _ (F0 _ 48 ls_0 [])) ?_ ?_ ⟨lv_sub hl_198 [0, 1, 2, 3, 4] rfl, hP_196, hD_196, hS_196⟩
  · intro j_249 i_249 z_249 H_249 locs_249 ls_249 hij_249 hz_249 hI_249 ih_249
    obtain ⟨hl_249, hP_249, hD_249, hS_249⟩ := hI_249
    replace hl_249 : lv_has ls_249 5 [(4, .int (nI i_249)), (3, .int (((r_195 + 8) / 64) + 1)), (0, .ref h), (1, .ref h2), (2, .ref h2)] := hl_249
    replace hP_249 : va_P E.1 vwCl [(h, .inr (7, [.ref qb, .ref qs])), (qb, .inl (E.2.1, 16, .inl z_249.1)), (qs, .inl (E.2.1, 4, .inl z_249.2)), (a2, .inl (E.2.1, n2, .inl q.2)), (h2, .inr (6, [.ref a2, .int q.1]))] H_249 := hP_249
    replace hD_249 : va_D A [(h, .inr (7, [.ref qb, .ref qs])), (qb, .inl (E.2.1, 16, .inl z_249.1)), (qs, .inl (E.2.1, 4, .inl z_249.2)), (a2, .inl (E.2.1, n2, .inl q.2)), (h2, .inr (6, [.ref a2, .int q.1]))] := hD_249
    clear hl_198 hP_196 hD_196 hS_196
    refine lv_iload hx hb dX6_sum_48 (lv_at hl_249 0 rfl) ?_
    refine lv_iload_n hx hb dX6_sum_50 rfl (lv_at hl_249 1 rfl) ?_
    refine lv_icmp_ge (tgt := 96) hx hb dX6_sum_51 (by decide) (fun c_250 => (by have c_250 := (g_rle (by omega)).mp c_250; exfalso; omega)) (fun c_250 => ?_)
    replace c_250 : ¬ (((r_195 + 8) / 64) + 1).toNatClampNeg ≤ i_249 := (not_congr (g_rle (by omega))).mp c_250
    refine lv_aload_n hx hb dX6_sum_54 rfl (lv_at hl_249 2 rfl) ?_
    refine lv_aload_n hx hb dX6_sum_55 rfl (lv_at hl_249 3 rfl) ?_
    refine lv_bipush (v := 64) hx hb dX6_sum_56 (by decide) ?_
    refine lv_iload hx hb dX6_sum_58 (lv_at hl_249 0 rfl) ?_
    refine lv_imul hx hb dX6_sum_60 ?_
    refine lv_topi (fun y_251 ey_251 => ?_)
    obtain rfl : y_251 = (nI (64 * i_249)) := ey_251.trans (pk_mul _ _)
    refine gVv hF hl_249 hV hP_249 hD_249 hS_249 hA [0, 1, 4, 3] [2] (wc := [(h, .inr (7, [.ref qb, .ref qs])), (qb, .inl (E.2.1, 16, .inl z_249.1)), (h2, .inr (6, [.ref a2, .int q.1])), (a2, .inl (E.2.1, n2, .inl q.2))]) (wr := [(qs, .inl (E.2.1, 4, .inl z_249.2))]) rfl rfl rfl (by decide) 0 7 rfl rfl rfl (k_X6_load E l h h2 qb qs a2 n2 z_249.1 q (nI (64 * i_249)) (by omega)) (cwV 2 hts gX6_sum_X6_load rfl rfl rfl (by decide +kernel) ⟨Nat.le_of_ble_eq_true rfl, Nat.le_of_ble_eq_true rfl⟩) rfl rfl rfl (Nat.le_of_ble_eq_true rfl) dX6_sum_61 ⟨Nat.le_of_ble_eq_true rfl, Nat.le_of_ble_eq_true rfl⟩ (fun u_252 H_253 locs_253 hu_252 hP_253 hD_253 hS_253 => ?_)
    replace hu_252 : u_252 = F_X6_load n2 z_249.1 q (nI (64 * i_249)) := hu_252
    replace hP_253 : va_P E.1 vwCl [(qs, .inl (E.2.1, 4, .inl z_249.2)), (h, .inr (7, [.ref qb, .ref qs])), (qb, .inl (E.2.1, 16, .inl u_252)), (h2, .inr (6, [.ref a2, .int q.1])), (a2, .inl (E.2.1, n2, .inl q.2))] H_253 := hP_253
    replace hD_253 : va_D A [(qs, .inl (E.2.1, 4, .inl z_249.2)), (h, .inr (7, [.ref qb, .ref qs])), (qb, .inl (E.2.1, 16, .inl u_252)), (h2, .inr (6, [.ref a2, .int q.1])), (a2, .inl (E.2.1, n2, .inl q.2))] := hD_253
    clear hP_249 hD_249 hS_249
    refine lv_iload hx hb dX6_sum_64 (lv_at hl_249 0 rfl) ?_
    refine lv_iload_n hx hb dX6_sum_66 rfl (lv_at hl_249 1 rfl) ?_
    refine lv_iconst (v := 1) hx hb dX6_sum_67 (by decide) ?_
    refine lv_isub hx hb dX6_sum_68 ?_
    refine lv_icmp_ne (tgt := 86) hx hb dX6_sum_69 (by decide) (fun c_254 => ?_) (fun c_254 => ?_)
    · replace c_254 : ¬ ((nI i_249) = ((((r_195 + 8) / 64) + 1) - 1)) := c_254
      refine lv_aload_n hx hb dX6_sum_86 rfl (lv_at hl_249 2 rfl) ?_
      refine gVv hF hl_249 hV hP_253 hD_253 hS_253 hA [1, 2, 0] [3, 4] (wc := [(h, .inr (7, [.ref qb, .ref qs])), (qb, .inl (E.2.1, 16, .inl u_252)), (qs, .inl (E.2.1, 4, .inl z_249.2))]) (wr := [(h2, .inr (6, [.ref a2, .int q.1])), (a2, .inl (E.2.1, n2, .inl q.2))]) rfl rfl rfl (by decide) 0 7 rfl rfl rfl (k_X6_mix E l h qb qs u_252 z_249.2) (cwV 0 hts gX6_sum_X6_mix rfl rfl rfl (by decide +kernel) ⟨Nat.le_of_ble_eq_true rfl, Nat.le_of_ble_eq_true rfl⟩) rfl rfl rfl (Nat.le_of_ble_eq_true rfl) dX6_sum_87 ⟨Nat.le_of_ble_eq_true rfl, Nat.le_of_ble_eq_true rfl⟩ (fun u_255 H_256 locs_256 hu_255 hP_256 hD_256 hS_256 => ?_)
      replace hu_255 : u_255 = F_X6_mix u_252 z_249.2 := hu_255
      replace hP_256 : va_P E.1 vwCl [(h2, .inr (6, [.ref a2, .int q.1])), (a2, .inl (E.2.1, n2, .inl q.2)), (h, .inr (7, [.ref qb, .ref qs])), (qb, .inl (E.2.1, 16, .inl u_252)), (qs, .inl (E.2.1, 4, .inl u_255))] H_256 := hP_256
      replace hD_256 : va_D A [(h2, .inr (6, [.ref a2, .int q.1])), (a2, .inl (E.2.1, n2, .inl q.2)), (h, .inr (7, [.ref qb, .ref qs])), (qb, .inl (E.2.1, 16, .inl u_252)), (qs, .inl (E.2.1, 4, .inl u_255))] := hD_256
      clear hP_253 hD_253 hS_253
      refine lv_iinc (v := (nI (i_249 + 1))) (lv' := [(4, .int (nI (i_249 + 1))), (3, .int (((r_195 + 8) / 64) + 1)), (0, .ref h), (1, .ref h2), (2, .ref h2)]) hx hb dX6_sum_90 hl_249 (k := 0) rfl (nI_add _ 1) (by decide) rfl (fun ls_257 hl_257 => ?_)
      clear hl_249
      refine lv_goto (tgt := 48) hx hb dX6_sum_93 (by decide) ?_
      exact ih_249 ((u_252, u_255) : (Nat → Int32) × (Nat → Int32)) _ _ _ (((show (B_X6_sum_same_48 n2 q r_195) i_249 z_249 = _ from (gLet_eq hu_252 ((if_neg c_254).trans (gLet_eq hu_255 rfl)))).symm.trans (congrArg ((B_X6_sum_same_48 n2 q r_195) i_249) hz_249)).trans (itr_s _ _ _).symm) ⟨lv_sub hl_257 [0, 1, 2, 3, 4] rfl, (hP_256.sub [2, 3, 4, 1, 0] rfl), (hD_256.sub [2, 3, 4, 1, 0] (by decide) rfl), hS_256⟩
    · replace c_254 : (nI i_249) = ((((r_195 + 8) / 64) + 1) - 1) := c_254
      refine lv_aload_n hx hb dX6_sum_72 rfl (lv_at hl_249 2 rfl) ?_
      refine va_get (D := E.1) (ci := 7) (v := .ref qb) (C := RX6) (T := TX6) (N := 2) hx hb hts in_X6 hown hK hP_253 1 rfl rfl 0 (by decide) w_5 (fun _ h9 => h9) rfl dX6_sum_73 ?_
      refine lv_bipush (v := 14) hx hb dX6_sum_76 (by decide) ?_
      refine lv_bipush (v := 8) hx hb dX6_sum_78 (by decide) ?_
      refine lv_aload_n hx hb dX6_sum_80 rfl (lv_at hl_249 3 rfl) ?_
      refine gVi hF hl_249 hV hP_253 hD_253 hS_253 hA [3] [0, 1, 2, 4] (wc := [(h2, .inr (6, [.ref a2, .int q.1]))]) (wr := [(qs, .inl (E.2.1, 4, .inl z_249.2)), (h, .inr (7, [.ref qb, .ref qs])), (qb, .inl (E.2.1, 16, .inl u_252)), (a2, .inl (E.2.1, n2, .inl q.2))]) rfl rfl rfl (by decide) 0 6 rfl rfl rfl (k_X5_count E l h2 a2 q) (cwV 0 hts gX6_sum_X5_count rfl rfl rfl (by decide +kernel) ⟨Nat.le_of_ble_eq_true rfl, Nat.le_of_ble_eq_true rfl⟩) rfl rfl rfl (Nat.le_of_ble_eq_true rfl) dX6_sum_81 ⟨Nat.le_of_ble_eq_true rfl, Nat.le_of_ble_eq_true rfl⟩ (fun r_258 _ H_259 locs_259 hu_258 hP_259 hD_259 hS_259 => ?_)
      have er_258 : r_258 = F_X5_count q := hu_258
      clear hu_258
      replace hP_259 : va_P E.1 vwCl [(qs, .inl (E.2.1, 4, .inl z_249.2)), (h, .inr (7, [.ref qb, .ref qs])), (qb, .inl (E.2.1, 16, .inl u_252)), (a2, .inl (E.2.1, n2, .inl q.2)), (h2, .inr (6, [.ref a2, .int q.1]))] H_259 := hP_259
      replace hD_259 : va_D A [(qs, .inl (E.2.1, 4, .inl z_249.2)), (h, .inr (7, [.ref qb, .ref qs])), (qb, .inl (E.2.1, 16, .inl u_252)), (a2, .inl (E.2.1, n2, .inl q.2)), (h2, .inr (6, [.ref a2, .int q.1]))] := hD_259
      clear hP_253 hD_253 hS_253
      refine lv_imul hx hb dX6_sum_84 ?_
      refine g_iast (e0 := 14) hx hb hK hP_259 hD_259 hS_259 2 0 rfl rfl (by omega) (by omega) dX6_sum_85 (fun H_260 locs_260 hP_260 hD_260 hS_260 => ?_)
      replace hP_260 : va_P E.1 vwCl [(qs, .inl (E.2.1, 4, .inl z_249.2)), (h, .inr (7, [.ref qb, .ref qs])), (qb, .inl (E.2.1, 16, .inl (upd u_252 14 (8 * r_258)))), (a2, .inl (E.2.1, n2, .inl q.2)), (h2, .inr (6, [.ref a2, .int q.1]))] H_260 := hP_260
      replace hD_260 : va_D A [(qs, .inl (E.2.1, 4, .inl z_249.2)), (h, .inr (7, [.ref qb, .ref qs])), (qb, .inl (E.2.1, 16, .inl (upd u_252 14 (8 * r_258)))), (a2, .inl (E.2.1, n2, .inl q.2)), (h2, .inr (6, [.ref a2, .int q.1]))] := hD_260
      clear hP_259 hD_259 hS_259
      refine lv_aload_n hx hb dX6_sum_86 rfl (lv_at hl_249 2 rfl) ?_
      refine gVv hF hl_249 hV hP_260 hD_260 hS_260 hA [1, 2, 0] [3, 4] (wc := [(h, .inr (7, [.ref qb, .ref qs])), (qb, .inl (E.2.1, 16, .inl (upd u_252 14 (8 * r_258)))), (qs, .inl (E.2.1, 4, .inl z_249.2))]) (wr := [(a2, .inl (E.2.1, n2, .inl q.2)), (h2, .inr (6, [.ref a2, .int q.1]))]) rfl rfl rfl (by decide) 0 7 rfl rfl rfl (k_X6_mix E l h qb qs (upd u_252 14 (8 * r_258)) z_249.2) (cwV 0 hts gX6_sum_X6_mix rfl rfl rfl (by decide +kernel) ⟨Nat.le_of_ble_eq_true rfl, Nat.le_of_ble_eq_true rfl⟩) rfl rfl rfl (Nat.le_of_ble_eq_true rfl) dX6_sum_87 ⟨Nat.le_of_ble_eq_true rfl, Nat.le_of_ble_eq_true rfl⟩ (fun u_261 H_262 locs_262 hu_261 hP_262 hD_262 hS_262 => ?_)
      replace hu_261 : u_261 = F_X6_mix (upd u_252 14 (8 * r_258)) z_249.2 := hu_261
      replace hP_262 : va_P E.1 vwCl [(a2, .inl (E.2.1, n2, .inl q.2)), (h2, .inr (6, [.ref a2, .int q.1])), (h, .inr (7, [.ref qb, .ref qs])), (qb, .inl (E.2.1, 16, .inl (upd u_252 14 (8 * r_258)))), (qs, .inl (E.2.1, 4, .inl u_261))] H_262 := hP_262
      replace hD_262 : va_D A [(a2, .inl (E.2.1, n2, .inl q.2)), (h2, .inr (6, [.ref a2, .int q.1])), (h, .inr (7, [.ref qb, .ref qs])), (qb, .inl (E.2.1, 16, .inl (upd u_252 14 (8 * r_258)))), (qs, .inl (E.2.1, 4, .inl u_261))] := hD_262
      clear hP_260 hD_260 hS_260
      refine lv_iinc (v := (nI (i_249 + 1))) (lv' := [(4, .int (nI (i_249 + 1))), (3, .int (((r_195 + 8) / 64) + 1)), (0, .ref h), (1, .ref h2), (2, .ref h2)]) hx hb dX6_sum_90 hl_249 (k := 0) rfl (nI_add _ 1) (by decide) rfl (fun ls_263 hl_263 => ?_)
      clear hl_249
      refine lv_goto (tgt := 48) hx hb dX6_sum_93 (by decide) ?_
      exact ih_249 (((upd u_252 14 (8 * r_258)), u_261) : (Nat → Int32) × (Nat → Int32)) _ _ _ (((show (B_X6_sum_same_48 n2 q r_195) i_249 z_249 = _ from (gLet_eq hu_252 ((if_pos c_254).trans (gLet_eq er_258 (gLet_eq hu_261 rfl))))).symm.trans (congrArg ((B_X6_sum_same_48 n2 q r_195) i_249) hz_249)).trans (itr_s _ _ _).symm) ⟨lv_sub hl_263 [0, 1, 2, 3, 4] rfl, (hP_262.sub [2, 3, 4, 0, 1] rfl), (hD_262.sub [2, 3, 4, 0, 1] (by decide) rfl), hS_262⟩
  · intro z_264 H_264 locs_264 ls_264 hz_264 hI_264
    obtain ⟨hl_264, hP_264, hD_264, hS_264⟩ := hI_264
    replace hl_264 : lv_has ls_264 5 [(4, .int (nI (((((r_195 + 8) / 64) + 1).toNatClampNeg)))), (3, .int (((r_195 + 8) / 64) + 1)), (0, .ref h), (1, .ref h2), (2, .ref h2)] := hl_264
    replace hP_264 : va_P E.1 vwCl [(h, .inr (7, [.ref qb, .ref qs])), (qb, .inl (E.2.1, 16, .inl z_264.1)), (qs, .inl (E.2.1, 4, .inl z_264.2)), (a2, .inl (E.2.1, n2, .inl q.2)), (h2, .inr (6, [.ref a2, .int q.1]))] H_264 := hP_264
    replace hD_264 : va_D A [(h, .inr (7, [.ref qb, .ref qs])), (qb, .inl (E.2.1, 16, .inl z_264.1)), (qs, .inl (E.2.1, 4, .inl z_264.2)), (a2, .inl (E.2.1, n2, .inl q.2)), (h2, .inr (6, [.ref a2, .int q.1]))] := hD_264
    clear hl_198 hP_196 hD_196 hS_196
    refine lv_iload hx hb dX6_sum_48 (lv_at hl_264 0 rfl) ?_
    refine lv_iload_n hx hb dX6_sum_50 rfl (lv_at hl_264 1 rfl) ?_
    refine lv_icmp_ge (tgt := 96) hx hb dX6_sum_51 (by decide) (fun c_265 => ?_) (fun c_265 => (by have c_265 := (not_congr (g_rle (by omega))).mp c_265; exfalso; omega))
    replace c_265 : (((r_195 + 8) / 64) + 1).toNatClampNeg ≤ ((((r_195 + 8) / 64) + 1).toNatClampNeg) := (g_rle (by omega)).mp c_265
    refine lv_aload_n hx hb dX6_sum_96 rfl (lv_at hl_264 4 rfl) ?_
    refine gVv hF hl_264 hV hP_264 hD_264 hS_264 hA [4] [0, 1, 2, 3] (wc := [(h2, .inr (6, [.ref a2, .int q.1]))]) (wr := [(h, .inr (7, [.ref qb, .ref qs])), (qb, .inl (E.2.1, 16, .inl z_264.1)), (qs, .inl (E.2.1, 4, .inl z_264.2)), (a2, .inl (E.2.1, n2, .inl q.2))]) rfl rfl rfl (by decide) 0 6 rfl rfl rfl (k_X5_clear E l h2 a2 q) (cwV 0 hts gX6_sum_X5_clear rfl rfl rfl (by decide +kernel) ⟨Nat.le_of_ble_eq_true rfl, Nat.le_of_ble_eq_true rfl⟩) rfl rfl rfl (Nat.le_of_ble_eq_true rfl) dX6_sum_97 ⟨Nat.le_of_ble_eq_true rfl, Nat.le_of_ble_eq_true rfl⟩ (fun u_266 H_267 locs_267 hu_266 hP_267 hD_267 hS_267 => ?_)
    replace hu_266 : u_266 = F_X5_clear q := hu_266
    replace hP_267 : va_P E.1 vwCl [(h, .inr (7, [.ref qb, .ref qs])), (qb, .inl (E.2.1, 16, .inl z_264.1)), (qs, .inl (E.2.1, 4, .inl z_264.2)), (a2, .inl (E.2.1, n2, .inl q.2)), (h2, .inr (6, [.ref a2, .int u_266.1]))] H_267 := hP_267
    replace hD_267 : va_D A [(h, .inr (7, [.ref qb, .ref qs])), (qb, .inl (E.2.1, 16, .inl z_264.1)), (qs, .inl (E.2.1, 4, .inl z_264.2)), (a2, .inl (E.2.1, n2, .inl q.2)), (h2, .inr (6, [.ref a2, .int u_266.1]))] := hD_267
    clear hP_264 hD_264 hS_264
    refine lv_iconst (v := 0) hx hb dX6_sum_100 (by decide) ?_
    refine lv_istore (lv' := [(4, .int 0), (3, .int (((r_195 + 8) / 64) + 1)), (0, .ref h), (1, .ref h2), (2, .ref h2)]) hx hb dX6_sum_101 hl_264 (by decide) rfl (fun ls_268 hl_268 => ?_)
    clear hl_264
    refine lv_iload hx hb dX6_sum_103 (lv_at hl_268 0 rfl) ?_
    refine lv_iconst (v := 4) hx hb dX6_sum_105 (by decide) ?_
    refine lv_icmp_ge (tgt := 127) hx hb dX6_sum_106 (by decide) (fun c_269 => absurd c_269 (by decide)) (fun c_269 => ?_)
    refine lv_aload_n hx hb dX6_sum_109 rfl (lv_at hl_268 4 rfl) ?_
    refine lv_aload_n hx hb dX6_sum_110 rfl (lv_at hl_268 2 rfl) ?_
    refine va_get (D := E.1) (ci := 7) (v := .ref qs) (C := RX6) (T := TX6) (N := 2) hx hb hts in_X6 hown hK hP_267 0 rfl rfl 1 (by decide) w_0 (fun _ h9 => h9) rfl dX6_sum_111 ?_
    refine lv_iload hx hb dX6_sum_114 (lv_at hl_268 0 rfl) ?_
    refine g_iald (e0 := 0) hx hb hK hP_267 2 0 rfl rfl (by omega) (by omega) dX6_sum_116 ?_
    refine lv_iconst (v := 4) hx hb dX6_sum_117 (by decide) ?_
    refine gVv hF hl_268 hV hP_267 hD_267 hS_267 hA [4, 3] [0, 1, 2] (wc := [(h2, .inr (6, [.ref a2, .int u_266.1])), (a2, .inl (E.2.1, n2, .inl q.2))]) (wr := [(h, .inr (7, [.ref qb, .ref qs])), (qb, .inl (E.2.1, 16, .inl z_264.1)), (qs, .inl (E.2.1, 4, .inl z_264.2))]) rfl rfl rfl (by decide) 0 6 rfl rfl rfl (k_X5_addNumber E l h2 a2 n2 (u_266.1, q.2) (z_264.2 0) 4 (by omega)) (cwV 2 hts gX6_sum_X5_addNumber rfl rfl rfl (by decide +kernel) ⟨Nat.le_of_ble_eq_true rfl, Nat.le_of_ble_eq_true rfl⟩) rfl rfl rfl (Nat.le_of_ble_eq_true rfl) dX6_sum_118 ⟨Nat.le_of_ble_eq_true rfl, Nat.le_of_ble_eq_true rfl⟩ (fun u_270 H_271 locs_271 hu_270 hP_271 hD_271 hS_271 => ?_)
    replace hu_270 : u_270 = F_X5_addNumber n2 (u_266.1, q.2) (z_264.2 0) 4 := hu_270
    replace hP_271 : va_P E.1 vwCl [(h, .inr (7, [.ref qb, .ref qs])), (qb, .inl (E.2.1, 16, .inl z_264.1)), (qs, .inl (E.2.1, 4, .inl z_264.2)), (h2, .inr (6, [.ref a2, .int u_270.1])), (a2, .inl (E.2.1, n2, .inl u_270.2))] H_271 := hP_271
    replace hD_271 : va_D A [(h, .inr (7, [.ref qb, .ref qs])), (qb, .inl (E.2.1, 16, .inl z_264.1)), (qs, .inl (E.2.1, 4, .inl z_264.2)), (h2, .inr (6, [.ref a2, .int u_270.1])), (a2, .inl (E.2.1, n2, .inl u_270.2))] := hD_271
    clear hP_267 hD_267 hS_267
    refine lv_iinc (v := 1) (lv' := [(4, .int 1), (3, .int (((r_195 + 8) / 64) + 1)), (0, .ref h), (1, .ref h2), (2, .ref h2)]) hx hb dX6_sum_121 hl_268 (k := 0) rfl (by decide) (by decide) rfl (fun ls_272 hl_272 => ?_)
    clear hl_268
    refine lv_goto (tgt := 103) hx hb dX6_sum_124 (by decide) ?_
    refine lv_iload hx hb dX6_sum_103 (lv_at hl_272 0 rfl) ?_
    refine lv_iconst (v := 4) hx hb dX6_sum_105 (by decide) ?_
    refine lv_icmp_ge (tgt := 127) hx hb dX6_sum_106 (by decide) (fun c_273 => absurd c_273 (by decide)) (fun c_273 => ?_)
    refine lv_aload_n hx hb dX6_sum_109 rfl (lv_at hl_272 4 rfl) ?_
    refine lv_aload_n hx hb dX6_sum_110 rfl (lv_at hl_272 2 rfl) ?_
    refine va_get (D := E.1) (ci := 7) (v := .ref qs) (C := RX6) (T := TX6) (N := 2) hx hb hts in_X6 hown hK hP_271 0 rfl rfl 1 (by decide) w_0 (fun _ h9 => h9) rfl dX6_sum_111 ?_
    refine lv_iload hx hb dX6_sum_114 (lv_at hl_272 0 rfl) ?_
    refine g_iald (e0 := 1) hx hb hK hP_271 2 0 rfl rfl (by omega) (by omega) dX6_sum_116 ?_
    refine lv_iconst (v := 4) hx hb dX6_sum_117 (by decide) ?_
    refine gVv hF hl_272 hV hP_271 hD_271 hS_271 hA [3, 4] [0, 1, 2] (wc := [(h2, .inr (6, [.ref a2, .int u_270.1])), (a2, .inl (E.2.1, n2, .inl u_270.2))]) (wr := [(h, .inr (7, [.ref qb, .ref qs])), (qb, .inl (E.2.1, 16, .inl z_264.1)), (qs, .inl (E.2.1, 4, .inl z_264.2))]) rfl rfl rfl (by decide) 0 6 rfl rfl rfl (k_X5_addNumber E l h2 a2 n2 u_270 (z_264.2 1) 4 (by omega)) (cwV 2 hts gX6_sum_X5_addNumber rfl rfl rfl (by decide +kernel) ⟨Nat.le_of_ble_eq_true rfl, Nat.le_of_ble_eq_true rfl⟩) rfl rfl rfl (Nat.le_of_ble_eq_true rfl) dX6_sum_118 ⟨Nat.le_of_ble_eq_true rfl, Nat.le_of_ble_eq_true rfl⟩ (fun u_274 H_275 locs_275 hu_274 hP_275 hD_275 hS_275 => ?_)
    replace hu_274 : u_274 = F_X5_addNumber n2 u_270 (z_264.2 1) 4 := hu_274
    replace hP_275 : va_P E.1 vwCl [(h, .inr (7, [.ref qb, .ref qs])), (qb, .inl (E.2.1, 16, .inl z_264.1)), (qs, .inl (E.2.1, 4, .inl z_264.2)), (h2, .inr (6, [.ref a2, .int u_274.1])), (a2, .inl (E.2.1, n2, .inl u_274.2))] H_275 := hP_275
    replace hD_275 : va_D A [(h, .inr (7, [.ref qb, .ref qs])), (qb, .inl (E.2.1, 16, .inl z_264.1)), (qs, .inl (E.2.1, 4, .inl z_264.2)), (h2, .inr (6, [.ref a2, .int u_274.1])), (a2, .inl (E.2.1, n2, .inl u_274.2))] := hD_275
    clear hP_271 hD_271 hS_271
    refine lv_iinc (v := 2) (lv' := [(4, .int 2), (3, .int (((r_195 + 8) / 64) + 1)), (0, .ref h), (1, .ref h2), (2, .ref h2)]) hx hb dX6_sum_121 hl_272 (k := 0) rfl (by decide) (by decide) rfl (fun ls_276 hl_276 => ?_)
    clear hl_272
    refine lv_goto (tgt := 103) hx hb dX6_sum_124 (by decide) ?_
    refine lv_iload hx hb dX6_sum_103 (lv_at hl_276 0 rfl) ?_
    refine lv_iconst (v := 4) hx hb dX6_sum_105 (by decide) ?_
    refine lv_icmp_ge (tgt := 127) hx hb dX6_sum_106 (by decide) (fun c_277 => absurd c_277 (by decide)) (fun c_277 => ?_)
    refine lv_aload_n hx hb dX6_sum_109 rfl (lv_at hl_276 4 rfl) ?_
    refine lv_aload_n hx hb dX6_sum_110 rfl (lv_at hl_276 2 rfl) ?_
    refine va_get (D := E.1) (ci := 7) (v := .ref qs) (C := RX6) (T := TX6) (N := 2) hx hb hts in_X6 hown hK hP_275 0 rfl rfl 1 (by decide) w_0 (fun _ h9 => h9) rfl dX6_sum_111 ?_
    refine lv_iload hx hb dX6_sum_114 (lv_at hl_276 0 rfl) ?_
    refine g_iald (e0 := 2) hx hb hK hP_275 2 0 rfl rfl (by omega) (by omega) dX6_sum_116 ?_
    refine lv_iconst (v := 4) hx hb dX6_sum_117 (by decide) ?_
    refine gVv hF hl_276 hV hP_275 hD_275 hS_275 hA [3, 4] [0, 1, 2] (wc := [(h2, .inr (6, [.ref a2, .int u_274.1])), (a2, .inl (E.2.1, n2, .inl u_274.2))]) (wr := [(h, .inr (7, [.ref qb, .ref qs])), (qb, .inl (E.2.1, 16, .inl z_264.1)), (qs, .inl (E.2.1, 4, .inl z_264.2))]) rfl rfl rfl (by decide) 0 6 rfl rfl rfl (k_X5_addNumber E l h2 a2 n2 u_274 (z_264.2 2) 4 (by omega)) (cwV 2 hts gX6_sum_X5_addNumber rfl rfl rfl (by decide +kernel) ⟨Nat.le_of_ble_eq_true rfl, Nat.le_of_ble_eq_true rfl⟩) rfl rfl rfl (Nat.le_of_ble_eq_true rfl) dX6_sum_118 ⟨Nat.le_of_ble_eq_true rfl, Nat.le_of_ble_eq_true rfl⟩ (fun u_278 H_279 locs_279 hu_278 hP_279 hD_279 hS_279 => ?_)
    replace hu_278 : u_278 = F_X5_addNumber n2 u_274 (z_264.2 2) 4 := hu_278
    replace hP_279 : va_P E.1 vwCl [(h, .inr (7, [.ref qb, .ref qs])), (qb, .inl (E.2.1, 16, .inl z_264.1)), (qs, .inl (E.2.1, 4, .inl z_264.2)), (h2, .inr (6, [.ref a2, .int u_278.1])), (a2, .inl (E.2.1, n2, .inl u_278.2))] H_279 := hP_279
    replace hD_279 : va_D A [(h, .inr (7, [.ref qb, .ref qs])), (qb, .inl (E.2.1, 16, .inl z_264.1)), (qs, .inl (E.2.1, 4, .inl z_264.2)), (h2, .inr (6, [.ref a2, .int u_278.1])), (a2, .inl (E.2.1, n2, .inl u_278.2))] := hD_279
    clear hP_275 hD_275 hS_275
    refine lv_iinc (v := 3) (lv' := [(4, .int 3), (3, .int (((r_195 + 8) / 64) + 1)), (0, .ref h), (1, .ref h2), (2, .ref h2)]) hx hb dX6_sum_121 hl_276 (k := 0) rfl (by decide) (by decide) rfl (fun ls_280 hl_280 => ?_)
    clear hl_276
    refine lv_goto (tgt := 103) hx hb dX6_sum_124 (by decide) ?_
    refine lv_iload hx hb dX6_sum_103 (lv_at hl_280 0 rfl) ?_
    refine lv_iconst (v := 4) hx hb dX6_sum_105 (by decide) ?_
    refine lv_icmp_ge (tgt := 127) hx hb dX6_sum_106 (by decide) (fun c_281 => absurd c_281 (by decide)) (fun c_281 => ?_)
    refine lv_aload_n hx hb dX6_sum_109 rfl (lv_at hl_280 4 rfl) ?_
    refine lv_aload_n hx hb dX6_sum_110 rfl (lv_at hl_280 2 rfl) ?_
    refine va_get (D := E.1) (ci := 7) (v := .ref qs) (C := RX6) (T := TX6) (N := 2) hx hb hts in_X6 hown hK hP_279 0 rfl rfl 1 (by decide) w_0 (fun _ h9 => h9) rfl dX6_sum_111 ?_
    refine lv_iload hx hb dX6_sum_114 (lv_at hl_280 0 rfl) ?_
    refine g_iald (e0 := 3) hx hb hK hP_279 2 0 rfl rfl (by omega) (by omega) dX6_sum_116 ?_
    refine lv_iconst (v := 4) hx hb dX6_sum_117 (by decide) ?_
    refine gVv hF hl_280 hV hP_279 hD_279 hS_279 hA [3, 4] [0, 1, 2] (wc := [(h2, .inr (6, [.ref a2, .int u_278.1])), (a2, .inl (E.2.1, n2, .inl u_278.2))]) (wr := [(h, .inr (7, [.ref qb, .ref qs])), (qb, .inl (E.2.1, 16, .inl z_264.1)), (qs, .inl (E.2.1, 4, .inl z_264.2))]) rfl rfl rfl (by decide) 0 6 rfl rfl rfl (k_X5_addNumber E l h2 a2 n2 u_278 (z_264.2 3) 4 (by omega)) (cwV 2 hts gX6_sum_X5_addNumber rfl rfl rfl (by decide +kernel) ⟨Nat.le_of_ble_eq_true rfl, Nat.le_of_ble_eq_true rfl⟩) rfl rfl rfl (Nat.le_of_ble_eq_true rfl) dX6_sum_118 ⟨Nat.le_of_ble_eq_true rfl, Nat.le_of_ble_eq_true rfl⟩ (fun u_282 H_283 locs_283 hu_282 hP_283 hD_283 hS_283 => ?_)
    replace hu_282 : u_282 = F_X5_addNumber n2 u_278 (z_264.2 3) 4 := hu_282
    replace hP_283 : va_P E.1 vwCl [(h, .inr (7, [.ref qb, .ref qs])), (qb, .inl (E.2.1, 16, .inl z_264.1)), (qs, .inl (E.2.1, 4, .inl z_264.2)), (h2, .inr (6, [.ref a2, .int u_282.1])), (a2, .inl (E.2.1, n2, .inl u_282.2))] H_283 := hP_283
    replace hD_283 : va_D A [(h, .inr (7, [.ref qb, .ref qs])), (qb, .inl (E.2.1, 16, .inl z_264.1)), (qs, .inl (E.2.1, 4, .inl z_264.2)), (h2, .inr (6, [.ref a2, .int u_282.1])), (a2, .inl (E.2.1, n2, .inl u_282.2))] := hD_283
    clear hP_279 hD_279 hS_279
    refine lv_iinc (v := 4) (lv' := [(4, .int 4), (3, .int (((r_195 + 8) / 64) + 1)), (0, .ref h), (1, .ref h2), (2, .ref h2)]) hx hb dX6_sum_121 hl_280 (k := 0) rfl (by decide) (by decide) rfl (fun ls_284 hl_284 => ?_)
    clear hl_280
    refine lv_goto (tgt := 103) hx hb dX6_sum_124 (by decide) ?_
    refine lv_iload hx hb dX6_sum_103 (lv_at hl_284 0 rfl) ?_
    refine lv_iconst (v := 4) hx hb dX6_sum_105 (by decide) ?_
    refine lv_icmp_ge (tgt := 127) hx hb dX6_sum_106 (by decide) (fun c_285 => ?_) (fun c_285 => absurd (by decide) c_285)
    have hpost : ((z_264.1, z_264.2, u_282) : (Nat → Int32) × (Nat → Int32) × gRow) = F_X6_sum_same n2 bk st q := (show F_X6_sum_same n2 bk st q = ((z_264.1, z_264.2, u_282) : (Nat → Int32) × (Nat → Int32) × gRow) from (gLet_eq er_195 (gLet_eq hz_264 (gLet_eq hu_266 (gLet_eq hu_270 (gLet_eq hu_274 (gLet_eq hu_278 (gLet_eq hu_282 rfl)))))))).symm
    have hP9 := hP_283.sub (ws' := [(h, .inr (7, [.ref qb, .ref qs])), (qb, .inl (E.2.1, 16, .inl z_264.1)), (qs, .inl (E.2.1, 4, .inl z_264.2)), (h2, .inr (6, [.ref a2, .int u_282.1])), (a2, .inl (E.2.1, n2, .inl u_282.2))]) [0, 1, 2, 3, 4] rfl
    have hD9 := hD_283.sub (ws' := [(h, .inr (7, [.ref qb, .ref qs])), (qb, .inl (E.2.1, 16, .inl z_264.1)), (qs, .inl (E.2.1, 4, .inl z_264.2)), (h2, .inr (6, [.ref a2, .int u_282.1])), (a2, .inl (E.2.1, n2, .inl u_282.2))]) [0, 1, 2, 3, 4] (by decide) rfl
    exact W.vret hx hb hr (fun t ht hW => ⟨⟨(z_264.1, z_264.2, u_282), rfl, hpost, by rw [ht]; exact hP9, hD9⟩, hS_283.F ht⟩) hS_283.2.2 dX6_sum_127
