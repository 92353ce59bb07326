set_option maxHeartbeats 4000000 in
set_option maxRecDepth 100000 in
theorem k_X2_turned (E : gE) (l : Launch) (v : Int32) (bv : Int32) : gMi E l yX2_turned wsX2_turned ({ frames := 0, cells := 0, slots := 0, locals := 0 }) 0 0 [.int v, .int bv] [] (fun (rr : Int32) (_ : Unit) => rr = F_X2_turned v bv) (fun (_ : Unit) => []) := by
  intro sz
  refine Met.ofW (cc := cX2_turned) (maxL := 2) (ret := (some .int)) (by decide) rfl ?_
  intro p e s m args below meth c s₁ B hml hv
  obtain ⟨rfl, hsz, hP, hV, hD0⟩ := hv
  have hx := B.exec
  have hb := B.bytes
  have hr := B.returns
  have hts := atoms_spec (ws := wsX2_turned) B.pre
  have hown : s.vm.findClass RX2 = some m.cls := findClass_of_methodNamed B.named
  have hlocks := B.notSynchronized
  subst hsz
  have hD := hD0.self (sz := s.heap.size)
  clear hD0
  generalize hAe : va_A [] s.heap.size = A at hD hV ⊢
  have hA : ∀ q : Nat, s.heap.size ≤ q → A q := fun q h => by rw [← hAe]; exact Or.inr h
  have hS : va_S A s.heap s.heap [] := va_S.rf
  have hK := hV.1
  have hF : CallFix p m c cX2_turned 2 s _ wsX2_turned RX2 := ⟨hx, hb, hml, hown, hts⟩
  have hl := lv_entry [.int v, .int bv] (n := 2) (Nat.le_of_ble_eq_true rfl)
  rw [lg_entry_eq]
  generalize (lg_sl [.int v, .int bv] ++ List.replicate (2 - (lg_sl [.int v, .int bv]).length) Slot.unset).toArray = ls at hl ⊢
  have hl : lv_has ls 2 [(0, .int v), (1, .int bv)] := hl
  refine lv_iload_n hx hb dX2_turned_0 rfl (lv_at hl 0 rfl) ?_
  refine lv_iload_n hx hb dX2_turned_1 rfl (lv_at hl 1 rfl) ?_
  refine lv_iushr (v := g_us v bv) hx hb dX2_turned_2 rfl ?_
  refine lv_iload_n hx hb dX2_turned_3 rfl (lv_at hl 0 rfl) ?_
  refine lv_bipush (v := 32) hx hb dX2_turned_4 (by decide) ?_
  refine lv_iload_n hx hb dX2_turned_6 rfl (lv_at hl 1 rfl) ?_
  refine lv_isub hx hb dX2_turned_7 ?_
  refine lv_ishl hx hb dX2_turned_8 ?_
  refine lv_ior hx hb dX2_turned_9 ?_
  have hpost : (((g_us v bv) ||| (v <<< ((32 - bv) &&& 31))) : Int32) = F_X2_turned v bv := (show F_X2_turned v bv = (((g_us v bv) ||| (v <<< ((32 - bv) &&& 31))) : Int32) from rfl).symm
  have hP9 := hP.sub (ws' := []) [] rfl
  have hD9 := hD.sub (ws' := []) [] (by decide) rfl
  exact W.iret (v := ((g_us v bv) ||| (v <<< ((32 - bv) &&& 31)))) hx hb hr (fun t ht hW => ⟨⟨((g_us v bv) ||| (v <<< ((32 - bv) &&& 31))), (), rfl, hpost, by rw [ht]; exact hP9, hD9⟩, hS.F ht⟩) hS.2.2 dX2_turned_10
set_option maxHeartbeats 4000000 in
set_option maxRecDepth 100000 in
theorem k_X2_load (E : gE) (l : Launch) (h h2 qw qs a2 : Nat) (n2 : Nat) (wd : Nat → Int32) (q : gRow) (start : Int32) (hn2 : n2 < 2147483648) : gMv E l yX2_load wsX2_load ({ frames := 1, cells := 0, slots := 0, locals := 21 }) 0 0 [.ref h, .ref h2, .int start] [(h, .inr (4, [.ref qw, .ref qs])), (qw, .inl (E.2.1, 64, .inl wd)), (h2, .inr (6, [.ref a2, .int q.1])), (a2, .inl (E.2.1, n2, .inl q.2))] (fun (uu : Nat → Int32) => uu = F_X2_load n2 wd q start) (fun (uu : Nat → Int32) => [(h, .inr (4, [.ref qw, .ref qs])), (qw, .inl (E.2.1, 64, .inl uu)), (h2, .inr (6, [.ref a2, .int q.1])), (a2, .inl (E.2.1, n2, .inl q.2))]) := by
  intro sz
  refine Met.ofW (cc := cX2_load) (maxL := 6) (ret := none) (by decide) rfl ?_
  intro p e s m args below meth c s₁ B hml hv
  obtain ⟨rfl, hsz, hP, hV, hD0⟩ := hv
  have hx := B.exec
  have hb := B.bytes
  have hr := B.returns
  have hts := atoms_spec (ws := wsX2_load) B.pre
  have hown : s.vm.findClass RX2 = some m.cls := findClass_of_methodNamed B.named
  have hlocks := B.notSynchronized
  subst hsz
  have hD := hD0.self (sz := s.heap.size)
  clear hD0
  generalize hAe : va_A [(h, .inr (4, [.ref qw, .ref qs])), (qw, .inl (E.2.1, 64, .inl wd)), (h2, .inr (6, [.ref a2, .int q.1])), (a2, .inl (E.2.1, n2, .inl q.2))] s.heap.size = A at hD hV ⊢
  have hA : ∀ q : Nat, s.heap.size ≤ q → A q := fun q h => by rw [← hAe]; exact Or.inr h
  have hS : va_S A s.heap s.heap [] := va_S.rf
  have hK := hV.1
  have hF : CallFix p m c cX2_load 6 s _ wsX2_load RX2 := ⟨hx, hb, hml, hown, hts⟩
  have hl := lv_entry [.ref h, .ref h2, .int start] (n := 6) (Nat.le_of_ble_eq_true rfl)
  rw [lg_entry_eq]
  generalize (lg_sl [.ref h, .ref h2, .int start] ++ List.replicate (6 - (lg_sl [.ref h, .ref h2, .int start]).length) Slot.unset).toArray = ls at hl ⊢
  have hl : lv_has ls 6 [(0, .ref h), (1, .ref h2), (2, .int start)] := hl
  have in_X2 : ∀ w ∈ wsX20, w ∈ wsX2_load := by decide +kernel
  have w_0 := hts (.fieldLink RX2 7 "CryptRows$Great" "words" "[I") (by decide +kernel)
  refine lv_iconst (v := 0) hx hb dX2_load_0 (by decide) ?_
  refine lv_istore_n (lv' := [(3, .int 0), (0, .ref h), (1, .ref h2), (2, .int start)]) hx hb dX2_load_1 rfl hl (by decide) rfl (fun ls_279 hl_279 => ?_)
  clear hl
  refine g_up (N := 16) (B_X2_load_2 n2 q start) (wd : Nat → Int32) (Inv := fun i_0 z_382 H_0 locs_0 ls_0 => lv_has ls_0 6 [(3, .int (nI i_0)), (0, .ref h), (1, .ref h2), (2, .int start)] ∧ va_P E.1 vwCl [(h, .inr (4, [.ref qw, .ref qs])), (qw, .inl (E.2.1, 64, .inl z_382)), (h2, .inr (6, [.ref a2, .int q.1])), (a2, .inl (E.2.1, n2, .inl q.2))] H_0 ∧ va_D A [(h, .inr (4, [.ref qw, .ref qs])), (qw, .inl (E.2.1, 64, .inl z_382)), (h2, .inr (6, [.ref a2, .int q.1])), (a2, .inl (E.2.1, n2, .inl q.2))] ∧ va_S A s.heap H_0 locs_0) (G := fun H_0 locs_0 ls_0 => W _ _ _ _ _ _ _ _ _ _ H_0 locs_0 _ _ _ (F0 _ 2 ls_0 [])) ?_ ?_ ⟨lv_sub hl_279 [0, 1, 2, 3] rfl, hP, hD, hS⟩
  · intro j_383 i_383 z_383 H_383 locs_383 ls_383 hij_383 hz_383 hI_383 ih_383
    obtain ⟨hl_383, hP_383, hD_383, hS_383⟩ := hI_383
    replace hl_383 : lv_has ls_383 6 [(3, .int (nI i_383)), (0, .ref h), (1, .ref h2), (2, .int start)] := hl_383
    replace hP_383 : va_P E.1 vwCl [(h, .inr (4, [.ref qw, .ref qs])), (qw, .inl (E.2.1, 64, .inl z_383)), (h2, .inr (6, [.ref a2, .int q.1])), (a2, .inl (E.2.1, n2, .inl q.2))] H_383 := hP_383
    replace hD_383 : va_D A [(h, .inr (4, [.ref qw, .ref qs])), (qw, .inl (E.2.1, 64, .inl z_383)), (h2, .inr (6, [.ref a2, .int q.1])), (a2, .inl (E.2.1, n2, .inl q.2))] := hD_383
    clear hl_279 hP hD hS
    refine lv_iload_n hx hb dX2_load_2 rfl (lv_at hl_383 0 rfl) ?_
    refine lv_bipush (v := 16) hx hb dX2_load_3 (by decide) ?_
    refine lv_icmp_ge (tgt := 60) hx hb dX2_load_5 (by decide) (fun c_384 => (by have c_384 := (nI_leI (a := 16) (b := i_383) (by omega) (by omega)).mp c_384; exfalso; omega)) (fun c_384 => ?_)
    replace c_384 : ¬ 16 ≤ i_383 := (not_congr (nI_leI (a := 16) (b := i_383) (by omega) (by omega))).mp c_384
    refine lv_iconst (v := 0) hx hb dX2_load_8 (by decide) ?_
    refine lv_istore (lv' := [(4, .int 0), (3, .int (nI i_383)), (0, .ref h), (1, .ref h2), (2, .int start)]) hx hb dX2_load_9 hl_383 (by decide) rfl (fun ls_385 hl_385 => ?_)
    clear hl_383
    refine lv_iconst (v := 0) hx hb dX2_load_11 (by decide) ?_
    refine lv_istore (lv' := [(5, .int 0), (4, .int 0), (3, .int (nI i_383)), (0, .ref h), (1, .ref h2), (2, .int start)]) hx hb dX2_load_12 hl_385 (by decide) rfl (fun ls_386 hl_386 => ?_)
    clear hl_385
    refine lv_iload hx hb dX2_load_14 (lv_at hl_386 0 rfl) ?_
    refine lv_iconst (v := 4) hx hb dX2_load_16 (by decide) ?_
    refine lv_icmp_ge (tgt := 46) hx hb dX2_load_17 (by decide) (fun c_387 => absurd c_387 (by decide)) (fun c_387 => ?_)
    refine lv_iload hx hb dX2_load_20 (lv_at hl_386 1 rfl) ?_
    refine lv_bipush (v := 8) hx hb dX2_load_22 (by decide) ?_
    refine lv_ishl hx hb dX2_load_24 ?_
    refine lv_topi (fun y_388 ey_388 => ?_)
    obtain rfl : y_388 = 0 := ey_388.trans (by decide)
    refine lv_aload_n hx hb dX2_load_25 rfl (lv_at hl_386 4 rfl) ?_
    refine lv_iload_n hx hb dX2_load_26 rfl (lv_at hl_386 5 rfl) ?_
    refine lv_iconst (v := 4) hx hb dX2_load_27 (by decide) ?_
    refine lv_iload_n hx hb dX2_load_28 rfl (lv_at hl_386 2 rfl) ?_
    refine lv_imul hx hb dX2_load_29 ?_
    refine lv_topi (fun y_389 ey_389 => ?_)
    obtain rfl : y_389 = (nI (4 * i_383)) := ey_389.trans (pk_mul _ _)
    refine lv_iadd hx hb dX2_load_30 ?_
    refine lv_iload hx hb dX2_load_31 (lv_at hl_386 0 rfl) ?_
    refine lv_iadd hx hb dX2_load_33 ?_
    refine gVi hF hl_386 hV hP_383 hD_383 hS_383 hA [2, 3] [0, 1] (wc := [(h2, .inr (6, [.ref a2, .int q.1])), (a2, .inl (E.2.1, n2, .inl q.2))]) (wr := [(h, .inr (4, [.ref qw, .ref qs])), (qw, .inl (E.2.1, 64, .inl z_383))]) rfl rfl rfl (by decide) 0 6 rfl rfl rfl (k_X5_closedAt E l h2 a2 n2 q ((start + (nI (4 * i_383))) + 0) (by omega)) (cwV 1 hts gX2_load_X5_closedAt rfl rfl rfl (by decide +kernel) ⟨Nat.le_of_ble_eq_true rfl, Nat.le_of_ble_eq_true rfl⟩) rfl rfl rfl (Nat.le_of_ble_eq_true rfl) dX2_load_34 ⟨Nat.le_of_ble_eq_true rfl, Nat.le_of_ble_eq_true rfl⟩ (fun r_390 _ H_391 locs_391 hu_390 hP_391 hD_391 hS_391 => ?_)
    have er_390 : r_390 = F_X5_closedAt n2 q ((start + (nI (4 * i_383))) + 0) := hu_390
    clear hu_390
    replace hP_391 : va_P E.1 vwCl [(h, .inr (4, [.ref qw, .ref qs])), (qw, .inl (E.2.1, 64, .inl z_383)), (h2, .inr (6, [.ref a2, .int q.1])), (a2, .inl (E.2.1, n2, .inl q.2))] H_391 := hP_391
    replace hD_391 : va_D A [(h, .inr (4, [.ref qw, .ref qs])), (qw, .inl (E.2.1, 64, .inl z_383)), (h2, .inr (6, [.ref a2, .int q.1])), (a2, .inl (E.2.1, n2, .inl q.2))] := hD_391
    clear hP_383 hD_383 hS_383
    refine lv_ior hx hb dX2_load_37 ?_
    refine lv_istore (lv' := [(4, .int (0 ||| r_390)), (5, .int 0), (3, .int (nI i_383)), (0, .ref h), (1, .ref h2), (2, .int start)]) hx hb dX2_load_38 hl_386 (by decide) rfl (fun ls_392 hl_392 => ?_)
    clear hl_386
    refine lv_iinc (v := 1) (lv' := [(5, .int 1), (4, .int (0 ||| r_390)), (3, .int (nI i_383)), (0, .ref h), (1, .ref h2), (2, .int start)]) hx hb dX2_load_40 hl_392 (k := 1) rfl (by decide) (by decide) rfl (fun ls_393 hl_393 => ?_)
    clear hl_392
    refine lv_goto (tgt := 14) hx hb dX2_load_43 (by decide) ?_
    refine lv_iload hx hb dX2_load_14 (lv_at hl_393 0 rfl) ?_
    refine lv_iconst (v := 4) hx hb dX2_load_16 (by decide) ?_
    refine lv_icmp_ge (tgt := 46) hx hb dX2_load_17 (by decide) (fun c_394 => absurd c_394 (by decide)) (fun c_394 => ?_)
    refine lv_iload hx hb dX2_load_20 (lv_at hl_393 1 rfl) ?_
    refine lv_bipush (v := 8) hx hb dX2_load_22 (by decide) ?_
    refine lv_ishl hx hb dX2_load_24 ?_
    refine lv_aload_n hx hb dX2_load_25 rfl (lv_at hl_393 4 rfl) ?_
    refine lv_iload_n hx hb dX2_load_26 rfl (lv_at hl_393 5 rfl) ?_
    refine lv_iconst (v := 4) hx hb dX2_load_27 (by decide) ?_
    refine lv_iload_n hx hb dX2_load_28 rfl (lv_at hl_393 2 rfl) ?_
    refine lv_imul hx hb dX2_load_29 ?_
    refine lv_topi (fun y_395 ey_395 => ?_)
    obtain rfl : y_395 = (nI (4 * i_383)) := ey_395.trans (pk_mul _ _)
    refine lv_iadd hx hb dX2_load_30 ?_
    refine lv_iload hx hb dX2_load_31 (lv_at hl_393 0 rfl) ?_
    refine lv_iadd hx hb dX2_load_33 ?_
    refine gVi hF hl_393 hV hP_391 hD_391 hS_391 hA [2, 3] [0, 1] (wc := [(h2, .inr (6, [.ref a2, .int q.1])), (a2, .inl (E.2.1, n2, .inl q.2))]) (wr := [(h, .inr (4, [.ref qw, .ref qs])), (qw, .inl (E.2.1, 64, .inl z_383))]) rfl rfl rfl (by decide) 0 6 rfl rfl rfl (k_X5_closedAt E l h2 a2 n2 q ((start + (nI (4 * i_383))) + 1) (by omega)) (cwV 1 hts gX2_load_X5_closedAt rfl rfl rfl (by decide +kernel) ⟨Nat.le_of_ble_eq_true rfl, Nat.le_of_ble_eq_true rfl⟩) rfl rfl rfl (Nat.le_of_ble_eq_true rfl) dX2_load_34 ⟨Nat.le_of_ble_eq_true rfl, Nat.le_of_ble_eq_true rfl⟩ (fun r_396 _ H_397 locs_397 hu_396 hP_397 hD_397 hS_397 => ?_)
    have er_396 : r_396 = F_X5_closedAt n2 q ((start + (nI (4 * i_383))) + 1) := hu_396
    clear hu_396
    replace hP_397 : va_P E.1 vwCl [(h, .inr (4, [.ref qw, .ref qs])), (qw, .inl (E.2.1, 64, .inl z_383)), (h2, .inr (6, [.ref a2, .int q.1])), (a2, .inl (E.2.1, n2, .inl q.2))] H_397 := hP_397
    replace hD_397 : va_D A [(h, .inr (4, [.ref qw, .ref qs])), (qw, .inl (E.2.1, 64, .inl z_383)), (h2, .inr (6, [.ref a2, .int q.1])), (a2, .inl (E.2.1, n2, .inl q.2))] := hD_397
    clear hP_391 hD_391 hS_391
    refine lv_ior hx hb dX2_load_37 ?_
    refine lv_istore (lv' := [(4, .int (((0 ||| r_390) <<< (8 &&& 31)) ||| r_396)), (5, .int 1), (3, .int (nI i_383)), (0, .ref h), (1, .ref h2), (2, .int start)]) hx hb dX2_load_38 hl_393 (by decide) rfl (fun ls_398 hl_398 => ?_)
    clear hl_393
    refine lv_iinc (v := 2) (lv' := [(5, .int 2), (4, .int (((0 ||| r_390) <<< (8 &&& 31)) ||| r_396)), (3, .int (nI i_383)), (0, .ref h), (1, .ref h2), (2, .int start)]) hx hb dX2_load_40 hl_398 (k := 1) rfl (by decide) (by decide) rfl (fun ls_399 hl_399 => ?_)
    clear hl_398
    refine lv_goto (tgt := 14) hx hb dX2_load_43 (by decide) ?_
    refine lv_iload hx hb dX2_load_14 (lv_at hl_399 0 rfl) ?_
    refine lv_iconst (v := 4) hx hb dX2_load_16 (by decide) ?_
    refine lv_icmp_ge (tgt := 46) hx hb dX2_load_17 (by decide) (fun c_400 => absurd c_400 (by decide)) (fun c_400 => ?_)
    refine lv_iload hx hb dX2_load_20 (lv_at hl_399 1 rfl) ?_
    refine lv_bipush (v := 8) hx hb dX2_load_22 (by decide) ?_
    refine lv_ishl hx hb dX2_load_24 ?_
    refine lv_aload_n hx hb dX2_load_25 rfl (lv_at hl_399 4 rfl) ?_
    refine lv_iload_n hx hb dX2_load_26 rfl (lv_at hl_399 5 rfl) ?_
    refine lv_iconst (v := 4) hx hb dX2_load_27 (by decide) ?_
    refine lv_iload_n hx hb dX2_load_28 rfl (lv_at hl_399 2 rfl) ?_
    refine lv_imul hx hb dX2_load_29 ?_
    refine lv_topi (fun y_401 ey_401 => ?_)
    obtain rfl : y_401 = (nI (4 * i_383)) := ey_401.trans (pk_mul _ _)
    refine lv_iadd hx hb dX2_load_30 ?_
    refine lv_iload hx hb dX2_load_31 (lv_at hl_399 0 rfl) ?_
    refine lv_iadd hx hb dX2_load_33 ?_
    refine gVi hF hl_399 hV hP_397 hD_397 hS_397 hA [2, 3] [0, 1] (wc := [(h2, .inr (6, [.ref a2, .int q.1])), (a2, .inl (E.2.1, n2, .inl q.2))]) (wr := [(h, .inr (4, [.ref qw, .ref qs])), (qw, .inl (E.2.1, 64, .inl z_383))]) rfl rfl rfl (by decide) 0 6 rfl rfl rfl (k_X5_closedAt E l h2 a2 n2 q ((start + (nI (4 * i_383))) + 2) (by omega)) (cwV 1 hts gX2_load_X5_closedAt rfl rfl rfl (by decide +kernel) ⟨Nat.le_of_ble_eq_true rfl, Nat.le_of_ble_eq_true rfl⟩) rfl rfl rfl (Nat.le_of_ble_eq_true rfl) dX2_load_34 ⟨Nat.le_of_ble_eq_true rfl, Nat.le_of_ble_eq_true rfl⟩ (fun r_402 _ H_403 locs_403 hu_402 hP_403 hD_403 hS_403 => ?_)
    have er_402 : r_402 = F_X5_closedAt n2 q ((start + (nI (4 * i_383))) + 2) := hu_402
    clear hu_402
    replace hP_403 : va_P E.1 vwCl [(h, .inr (4, [.ref qw, .ref qs])), (qw, .inl (E.2.1, 64, .inl z_383)), (h2, .inr (6, [.ref a2, .int q.1])), (a2, .inl (E.2.1, n2, .inl q.2))] H_403 := hP_403
    replace hD_403 : va_D A [(h, .inr (4, [.ref qw, .ref qs])), (qw, .inl (E.2.1, 64, .inl z_383)), (h2, .inr (6, [.ref a2, .int q.1])), (a2, .inl (E.2.1, n2, .inl q.2))] := hD_403
    clear hP_397 hD_397 hS_397
    refine lv_ior hx hb dX2_load_37 ?_
    refine lv_topi (fun v_404 ev_404 => ?_)
    refine lv_istore (lv' := [(4, .int v_404), (5, .int 2), (3, .int (nI i_383)), (0, .ref h), (1, .ref h2), (2, .int start)]) hx hb dX2_load_38 hl_399 (by decide) rfl (fun ls_405 hl_405 => ?_)
    clear hl_399
    refine lv_iinc (v := 3) (lv' := [(5, .int 3), (4, .int v_404), (3, .int (nI i_383)), (0, .ref h), (1, .ref h2), (2, .int start)]) hx hb dX2_load_40 hl_405 (k := 1) rfl (by decide) (by decide) rfl (fun ls_406 hl_406 => ?_)
    clear hl_405
    refine lv_goto (tgt := 14) hx hb dX2_load_43 (by decide) ?_
    refine lv_iload hx hb dX2_load_14 (lv_at hl_406 0 rfl) ?_
    refine lv_iconst (v := 4) hx hb dX2_load_16 (by decide) ?_
    refine lv_icmp_ge (tgt := 46) hx hb dX2_load_17 (by decide) (fun c_407 => absurd c_407 (by decide)) (fun c_407 => ?_)
    refine lv_iload hx hb dX2_load_20 (lv_at hl_406 1 rfl) ?_
    refine lv_bipush (v := 8) hx hb dX2_load_22 (by decide) ?_
    refine lv_ishl hx hb dX2_load_24 ?_
    refine lv_aload_n hx hb dX2_load_25 rfl (lv_at hl_406 4 rfl) ?_
    refine lv_iload_n hx hb dX2_load_26 rfl (lv_at hl_406 5 rfl) ?_
    refine lv_iconst (v := 4) hx hb dX2_load_27 (by decide) ?_
    refine lv_iload_n hx hb dX2_load_28 rfl (lv_at hl_406 2 rfl) ?_
    refine lv_imul hx hb dX2_load_29 ?_
    refine lv_topi (fun y_408 ey_408 => ?_)
    obtain rfl : y_408 = (nI (4 * i_383)) := ey_408.trans (pk_mul _ _)
    refine lv_iadd hx hb dX2_load_30 ?_
    refine lv_iload hx hb dX2_load_31 (lv_at hl_406 0 rfl) ?_
    refine lv_iadd hx hb dX2_load_33 ?_
    refine gVi hF hl_406 hV hP_403 hD_403 hS_403 hA [2, 3] [0, 1] (wc := [(h2, .inr (6, [.ref a2, .int q.1])), (a2, .inl (E.2.1, n2, .inl q.2))]) (wr := [(h, .inr (4, [.ref qw, .ref qs])), (qw, .inl (E.2.1, 64, .inl z_383))]) rfl rfl rfl (by decide) 0 6 rfl rfl rfl (k_X5_closedAt E l h2 a2 n2 q ((start + (nI (4 * i_383))) + 3) (by omega)) (cwV 1 hts gX2_load_X5_closedAt rfl rfl rfl (by decide +kernel) ⟨Nat.le_of_ble_eq_true rfl, Nat.le_of_ble_eq_true rfl⟩) rfl rfl rfl (Nat.le_of_ble_eq_true rfl) dX2_load_34 ⟨Nat.le_of_ble_eq_true rfl, Nat.le_of_ble_eq_true rfl⟩ (fun r_409 _ H_410 locs_410 hu_409 hP_410 hD_410 hS_410 => ?_)
    have er_409 : r_409 = F_X5_closedAt n2 q ((start + (nI (4 * i_383))) + 3) := hu_409
    clear hu_409
    replace hP_410 : va_P E.1 vwCl [(h, .inr (4, [.ref qw, .ref qs])), (qw, .inl (E.2.1, 64, .inl z_383)), (h2, .inr (6, [.ref a2, .int q.1])), (a2, .inl (E.2.1, n2, .inl q.2))] H_410 := hP_410
    replace hD_410 : va_D A [(h, .inr (4, [.ref qw, .ref qs])), (qw, .inl (E.2.1, 64, .inl z_383)), (h2, .inr (6, [.ref a2, .int q.1])), (a2, .inl (E.2.1, n2, .inl q.2))] := hD_410
    clear hP_403 hD_403 hS_403
    refine lv_ior hx hb dX2_load_37 ?_
    refine lv_istore (lv' := [(4, .int ((v_404 <<< (8 &&& 31)) ||| r_409)), (5, .int 3), (3, .int (nI i_383)), (0, .ref h), (1, .ref h2), (2, .int start)]) hx hb dX2_load_38 hl_406 (by decide) rfl (fun ls_411 hl_411 => ?_)
    clear hl_406
    refine lv_iinc (v := 4) (lv' := [(5, .int 4), (4, .int ((v_404 <<< (8 &&& 31)) ||| r_409)), (3, .int (nI i_383)), (0, .ref h), (1, .ref h2), (2, .int start)]) hx hb dX2_load_40 hl_411 (k := 1) rfl (by decide) (by decide) rfl (fun ls_412 hl_412 => ?_)
    clear hl_411
    refine lv_goto (tgt := 14) hx hb dX2_load_43 (by decide) ?_
    refine lv_iload hx hb dX2_load_14 (lv_at hl_412 0 rfl) ?_
    refine lv_iconst (v := 4) hx hb dX2_load_16 (by decide) ?_
    refine lv_icmp_ge (tgt := 46) hx hb dX2_load_17 (by decide) (fun c_413 => ?_) (fun c_413 => absurd (by decide) c_413)
    refine lv_aload_n hx hb dX2_load_46 rfl (lv_at hl_412 3 rfl) ?_
    refine va_get (D := E.1) (ci := 4) (v := .ref qw) (C := RX2) (T := TX2) (N := 2) hx hb hts in_X2 hown hK hP_410 0 rfl rfl 0 (by decide) w_0 (fun _ h9 => h9) rfl dX2_load_47 ?_
    refine lv_iload_n hx hb dX2_load_50 rfl (lv_at hl_412 2 rfl) ?_
    refine lv_iload hx hb dX2_load_51 (lv_at hl_412 1 rfl) ?_
    refine g_iast (e0 := i_383) hx hb hK hP_410 hD_410 hS_410 1 0 rfl rfl (by omega) (by omega) dX2_load_53 (fun H_414 locs_414 hP_414 hD_414 hS_414 => ?_)
    replace hP_414 : va_P E.1 vwCl [(h, .inr (4, [.ref qw, .ref qs])), (qw, .inl (E.2.1, 64, .inl (upd z_383 i_383 ((v_404 <<< (8 &&& 31)) ||| r_409)))), (h2, .inr (6, [.ref a2, .int q.1])), (a2, .inl (E.2.1, n2, .inl q.2))] H_414 := hP_414
    replace hD_414 : va_D A [(h, .inr (4, [.ref qw, .ref qs])), (qw, .inl (E.2.1, 64, .inl (upd z_383 i_383 ((v_404 <<< (8 &&& 31)) ||| r_409)))), (h2, .inr (6, [.ref a2, .int q.1])), (a2, .inl (E.2.1, n2, .inl q.2))] := hD_414
    clear hP_410 hD_410 hS_410
    refine lv_iinc (v := (nI (i_383 + 1))) (lv' := [(3, .int (nI (i_383 + 1))), (5, .int 4), (4, .int ((v_404 <<< (8 &&& 31)) ||| r_409)), (0, .ref h), (1, .ref h2), (2, .int start)]) hx hb dX2_load_54 hl_412 (k := 2) rfl (nI_add _ 1) (by decide) rfl (fun ls_415 hl_415 => ?_)
    clear hl_412
    refine lv_goto (tgt := 2) hx hb dX2_load_57 (by decide) ?_
    exact ih_383 ((upd z_383 i_383 ((v_404 <<< (8 &&& 31)) ||| r_409)) : Nat → Int32) _ _ _ (((show (B_X2_load_2 n2 q start) i_383 z_383 = _ from (gLet_eq er_390 (gLet_eq er_396 (gLet_eq er_402 (gLet_eq ev_404 (gLet_eq er_409 rfl)))))).symm.trans (congrArg ((B_X2_load_2 n2 q start) i_383) hz_383)).trans (itr_s _ _ _).symm) ⟨lv_sub hl_415 [0, 3, 4, 5] rfl, (hP_414.sub [0, 1, 2, 3] rfl), (hD_414.sub [0, 1, 2, 3] (by decide) rfl), hS_414⟩
  · intro z_416 H_416 locs_416 ls_416 hz_416 hI_416
    obtain ⟨hl_416, hP_416, hD_416, hS_416⟩ := hI_416
    replace hl_416 : lv_has ls_416 6 [(3, .int (nI 16)), (0, .ref h), (1, .ref h2), (2, .int start)] := hl_416
    replace hP_416 : va_P E.1 vwCl [(h, .inr (4, [.ref qw, .ref qs])), (qw, .inl (E.2.1, 64, .inl z_416)), (h2, .inr (6, [.ref a2, .int q.1])), (a2, .inl (E.2.1, n2, .inl q.2))] H_416 := hP_416
    replace hD_416 : va_D A [(h, .inr (4, [.ref qw, .ref qs])), (qw, .inl (E.2.1, 64, .inl z_416)), (h2, .inr (6, [.ref a2, .int q.1])), (a2, .inl (E.2.1, n2, .inl q.2))] := hD_416
    clear hl_279 hP hD hS
    refine lv_iload_n hx hb dX2_load_2 rfl (lv_at hl_416 0 rfl) ?_
    refine lv_bipush (v := 16) hx hb dX2_load_3 (by decide) ?_
    refine lv_icmp_ge (tgt := 60) hx hb dX2_load_5 (by decide) (fun c_417 => ?_) (fun c_417 => (by have c_417 := (not_congr (nI_leI (a := 16) (b := 16) (by omega) (by omega))).mp c_417; exfalso; omega))
    replace c_417 : 16 ≤ 16 := (nI_leI (a := 16) (b := 16) (by omega) (by omega)).mp c_417
    have hpost : (z_416 : Nat → Int32) = F_X2_load n2 wd q start := (show F_X2_load n2 wd q start = (z_416 : Nat → Int32) from (gLet_eq hz_416 rfl)).symm
    have hP9 := hP_416.sub (ws' := [(h, .inr (4, [.ref qw, .ref qs])), (qw, .inl (E.2.1, 64, .inl z_416)), (h2, .inr (6, [.ref a2, .int q.1])), (a2, .inl (E.2.1, n2, .inl q.2))]) [0, 1, 2, 3] rfl
    have hD9 := hD_416.sub (ws' := [(h, .inr (4, [.ref qw, .ref qs])), (qw, .inl (E.2.1, 64, .inl z_416)), (h2, .inr (6, [.ref a2, .int q.1])), (a2, .inl (E.2.1, n2, .inl q.2))]) [0, 1, 2, 3] (by decide) rfl
    exact W.vret hx hb hr (fun t ht hW => ⟨⟨z_416, rfl, hpost, by rw [ht]; exact hP9, hD9⟩, hS_416.F ht⟩) hS_416.2.2 dX2_load_60
set_option maxHeartbeats 4000000 in
set_option maxRecDepth 100000 in
theorem k_X2_stretch (E : gE) (l : Launch) (h qw qs : Nat) (wd : Nat → Int32) : gMv E l yX2_stretch wsX2_stretch ({ frames := 1, cells := 0, slots := 0, locals := 21 }) 0 0 [.ref h] [(h, .inr (4, [.ref qw, .ref qs])), (qw, .inl (E.2.1, 64, .inl wd))] (fun (uu : Nat → Int32) => uu = F_X2_stretch wd) (fun (uu : Nat → Int32) => [(h, .inr (4, [.ref qw, .ref qs])), (qw, .inl (E.2.1, 64, .inl uu))]) := by
  intro sz
  refine Met.ofW (cc := cX2_stretch) (maxL := 6) (ret := none) (by decide) rfl ?_
  intro p e s m args below meth c s₁ B hml hv
  obtain ⟨rfl, hsz, hP, hV, hD0⟩ := hv
  have hx := B.exec
  have hb := B.bytes
  have hr := B.returns
  have hts := atoms_spec (ws := wsX2_stretch) B.pre
  have hown : s.vm.findClass RX2 = some m.cls := findClass_of_methodNamed B.named
  have hlocks := B.notSynchronized
  subst hsz
  have hD := hD0.self (sz := s.heap.size)
  clear hD0
  generalize hAe : va_A [(h, .inr (4, [.ref qw, .ref qs])), (qw, .inl (E.2.1, 64, .inl wd))] s.heap.size = A at hD hV ⊢
  have hA : ∀ q : Nat, s.heap.size ≤ q → A q := fun q h => by rw [← hAe]; exact Or.inr h
  have hS : va_S A s.heap s.heap [] := va_S.rf
  have hK := hV.1
  have hF : CallFix p m c cX2_stretch 6 s _ wsX2_stretch RX2 := ⟨hx, hb, hml, hown, hts⟩
  have hl := lv_entry [.ref h] (n := 6) (Nat.le_of_ble_eq_true rfl)
  rw [lg_entry_eq]
  generalize (lg_sl [.ref h] ++ List.replicate (6 - (lg_sl [.ref h]).length) Slot.unset).toArray = ls at hl ⊢
  have hl : lv_has ls 6 [(0, .ref h)] := hl
  have in_X2 : ∀ w ∈ wsX20, w ∈ wsX2_stretch := by decide +kernel
  have w_0 := hts (.fieldLink RX2 7 "CryptRows$Great" "words" "[I") (by decide +kernel)
  refine lv_bipush (v := 16) hx hb dX2_stretch_0 (by decide) ?_
  refine lv_istore_n (lv' := [(1, .int 16), (0, .ref h)]) hx hb dX2_stretch_2 rfl hl (by decide) rfl (fun ls_191 hl_191 => ?_)
  clear hl
  refine g_up (N := 48) B_X2_stretch_3 (wd : Nat → Int32) (Inv := fun i_0 z_261 H_0 locs_0 ls_0 => lv_has ls_0 6 [(1, .int (nI (16 + i_0))), (0, .ref h)] ∧ va_P E.1 vwCl [(h, .inr (4, [.ref qw, .ref qs])), (qw, .inl (E.2.1, 64, .inl z_261))] H_0 ∧ va_D A [(h, .inr (4, [.ref qw, .ref qs])), (qw, .inl (E.2.1, 64, .inl z_261))] ∧ va_S A s.heap H_0 locs_0) (G := fun H_0 locs_0 ls_0 => W _ _ _ _ _ _ _ _ _ _ H_0 locs_0 _ _ _ (F0 _ 3 ls_0 [])) ?_ ?_ ⟨lv_sub hl_191 [0, 1] rfl, hP, hD, hS⟩
  · intro j_262 i_262 z_262 H_262 locs_262 ls_262 hij_262 hz_262 hI_262 ih_262
    obtain ⟨hl_262, hP_262, hD_262, hS_262⟩ := hI_262
    replace hl_262 : lv_has ls_262 6 [(1, .int (nI (16 + i_262))), (0, .ref h)] := hl_262
    replace hP_262 : va_P E.1 vwCl [(h, .inr (4, [.ref qw, .ref qs])), (qw, .inl (E.2.1, 64, .inl z_262))] H_262 := hP_262
    replace hD_262 : va_D A [(h, .inr (4, [.ref qw, .ref qs])), (qw, .inl (E.2.1, 64, .inl z_262))] := hD_262
    clear hl_191 hP hD hS
    refine lv_iload_n hx hb dX2_stretch_3 rfl (lv_at hl_262 0 rfl) ?_
    refine lv_bipush (v := 64) hx hb dX2_stretch_4 (by decide) ?_
    refine lv_icmp_ge (tgt := 104) hx hb dX2_stretch_6 (by decide) (fun c_263 => (by have c_263 := (nI_leI (a := 64) (b := 16 + i_262) (by omega) (by omega)).mp c_263; exfalso; omega)) (fun c_263 => ?_)
    replace c_263 : ¬ 64 ≤ 16 + i_262 := (not_congr (nI_leI (a := 64) (b := 16 + i_262) (by omega) (by omega))).mp c_263
    refine lv_aload_n hx hb dX2_stretch_9 rfl (lv_at hl_262 1 rfl) ?_
    refine va_get (D := E.1) (ci := 4) (v := .ref qw) (C := RX2) (T := TX2) (N := 2) hx hb hts in_X2 hown hK hP_262 0 rfl rfl 0 (by decide) w_0 (fun _ h9 => h9) rfl dX2_stretch_10 ?_
    refine lv_iload_n hx hb dX2_stretch_13 rfl (lv_at hl_262 0 rfl) ?_
    refine lv_bipush (v := 15) hx hb dX2_stretch_14 (by decide) ?_
    refine lv_isub hx hb dX2_stretch_16 ?_
    refine lv_topi (fun y_264 ey_264 => ?_)
    obtain rfl : y_264 = (nI ((16 + i_262) - 15)) := ey_264.trans (pk_sub (a := 16 + i_262) (b := 15) (by omega))
    refine g_iald (e0 := (16 + i_262) - 15) hx hb hK hP_262 1 0 rfl rfl (by omega) (by omega) dX2_stretch_17 ?_
    refine lv_istore_n (lv' := [(2, .int (z_262 ((16 + i_262) - 15))), (1, .int (nI (16 + i_262))), (0, .ref h)]) hx hb dX2_stretch_18 rfl hl_262 (by decide) rfl (fun ls_265 hl_265 => ?_)
    clear hl_262
    refine lv_aload_n hx hb dX2_stretch_19 rfl (lv_at hl_265 2 rfl) ?_
    refine va_get (D := E.1) (ci := 4) (v := .ref qw) (C := RX2) (T := TX2) (N := 2) hx hb hts in_X2 hown hK hP_262 0 rfl rfl 0 (by decide) w_0 (fun _ h9 => h9) rfl dX2_stretch_20 ?_
    refine lv_iload_n hx hb dX2_stretch_23 rfl (lv_at hl_265 1 rfl) ?_
    refine lv_iconst (v := 2) hx hb dX2_stretch_24 (by decide) ?_
    refine lv_isub hx hb dX2_stretch_25 ?_
    refine lv_topi (fun y_266 ey_266 => ?_)
    obtain rfl : y_266 = (nI ((16 + i_262) - 2)) := ey_266.trans (pk_sub (a := 16 + i_262) (b := 2) (by omega))
    refine g_iald (e0 := (16 + i_262) - 2) hx hb hK hP_262 1 0 rfl rfl (by omega) (by omega) dX2_stretch_26 ?_
    refine lv_istore_n (lv' := [(3, .int (z_262 ((16 + i_262) - 2))), (2, .int (z_262 ((16 + i_262) - 15))), (1, .int (nI (16 + i_262))), (0, .ref h)]) hx hb dX2_stretch_27 rfl hl_265 (by decide) rfl (fun ls_267 hl_267 => ?_)
    clear hl_265
    refine lv_iload_n hx hb dX2_stretch_28 rfl (lv_at hl_267 1 rfl) ?_
    refine lv_bipush (v := 7) hx hb dX2_stretch_29 (by decide) ?_
    refine gSi hF hl_267 hV hP_262 hD_262 hS_262 hA [] [0, 1] (wc := []) (wr := [(h, .inr (4, [.ref qw, .ref qs])), (qw, .inl (E.2.1, 64, .inl z_262))]) rfl rfl rfl (by decide) (k_X2_turned E l (z_262 ((16 + i_262) - 15)) 7) (va_cwS 2 hts gX2_stretch_X2_turned rfl rfl rfl (by decide +kernel) ⟨Nat.le_of_ble_eq_true rfl, Nat.le_of_ble_eq_true rfl⟩) rfl rfl (Nat.le_of_ble_eq_true rfl) dX2_stretch_31 ⟨Nat.le_of_ble_eq_true rfl, Nat.le_of_ble_eq_true rfl⟩ (fun r_268 _ H_269 locs_269 hu_268 hP_269 hD_269 hS_269 => ?_)
    have er_268 : r_268 = F_X2_turned (z_262 ((16 + i_262) - 15)) 7 := hu_268
    clear hu_268
    replace hP_269 : va_P E.1 vwCl [(h, .inr (4, [.ref qw, .ref qs])), (qw, .inl (E.2.1, 64, .inl z_262))] H_269 := hP_269
    replace hD_269 : va_D A [(h, .inr (4, [.ref qw, .ref qs])), (qw, .inl (E.2.1, 64, .inl z_262))] := hD_269
    clear hP_262 hD_262 hS_262
    refine lv_iload_n hx hb dX2_stretch_34 rfl (lv_at hl_267 1 rfl) ?_
    refine lv_bipush (v := 18) hx hb dX2_stretch_35 (by decide) ?_
    refine gSi hF hl_267 hV hP_269 hD_269 hS_269 hA [] [0, 1] (wc := []) (wr := [(h, .inr (4, [.ref qw, .ref qs])), (qw, .inl (E.2.1, 64, .inl z_262))]) rfl rfl rfl (by decide) (k_X2_turned E l (z_262 ((16 + i_262) - 15)) 18) (va_cwS 2 hts gX2_stretch_X2_turned rfl rfl rfl (by decide +kernel) ⟨Nat.le_of_ble_eq_true rfl, Nat.le_of_ble_eq_true rfl⟩) rfl rfl (Nat.le_of_ble_eq_true rfl) dX2_stretch_37 ⟨Nat.le_of_ble_eq_true rfl, Nat.le_of_ble_eq_true rfl⟩ (fun r_270 _ H_271 locs_271 hu_270 hP_271 hD_271 hS_271 => ?_)
    have er_270 : r_270 = F_X2_turned (z_262 ((16 + i_262) - 15)) 18 := hu_270
    clear hu_270
    replace hP_271 : va_P E.1 vwCl [(h, .inr (4, [.ref qw, .ref qs])), (qw, .inl (E.2.1, 64, .inl z_262))] H_271 := hP_271
    replace hD_271 : va_D A [(h, .inr (4, [.ref qw, .ref qs])), (qw, .inl (E.2.1, 64, .inl z_262))] := hD_271
    clear hP_269 hD_269 hS_269
    refine lv_ixor hx hb dX2_stretch_40 ?_
    refine lv_iload_n hx hb dX2_stretch_41 rfl (lv_at hl_267 1 rfl) ?_
    refine lv_iconst (v := 3) hx hb dX2_stretch_42 (by decide) ?_
    refine lv_iushr (v := g_us (z_262 ((16 + i_262) - 15)) 3) hx hb dX2_stretch_43 rfl ?_
    refine lv_ixor hx hb dX2_stretch_44 ?_
    refine lv_istore (lv' := [(4, .int ((r_268 ^^^ r_270) ^^^ (g_us (z_262 ((16 + i_262) - 15)) 3))), (3, .int (z_262 ((16 + i_262) - 2))), (2, .int (z_262 ((16 + i_262) - 15))), (1, .int (nI (16 + i_262))), (0, .ref h)]) hx hb dX2_stretch_45 hl_267 (by decide) rfl (fun ls_272 hl_272 => ?_)
    clear hl_267
    refine lv_iload_n hx hb dX2_stretch_47 rfl (lv_at hl_272 1 rfl) ?_
    refine lv_bipush (v := 17) hx hb dX2_stretch_48 (by decide) ?_
    refine gSi hF hl_272 hV hP_271 hD_271 hS_271 hA [] [0, 1] (wc := []) (wr := [(h, .inr (4, [.ref qw, .ref qs])), (qw, .inl (E.2.1, 64, .inl z_262))]) rfl rfl rfl (by decide) (k_X2_turned E l (z_262 ((16 + i_262) - 2)) 17) (va_cwS 2 hts gX2_stretch_X2_turned rfl rfl rfl (by decide +kernel) ⟨Nat.le_of_ble_eq_true rfl, Nat.le_of_ble_eq_true rfl⟩) rfl rfl (Nat.le_of_ble_eq_true rfl) dX2_stretch_50 ⟨Nat.le_of_ble_eq_true rfl, Nat.le_of_ble_eq_true rfl⟩ (fun r_273 _ H_274 locs_274 hu_273 hP_274 hD_274 hS_274 => ?_)
    have er_273 : r_273 = F_X2_turned (z_262 ((16 + i_262) - 2)) 17 := hu_273
    clear hu_273
    replace hP_274 : va_P E.1 vwCl [(h, .inr (4, [.ref qw, .ref qs])), (qw, .inl (E.2.1, 64, .inl z_262))] H_274 := hP_274
    replace hD_274 : va_D A [(h, .inr (4, [.ref qw, .ref qs])), (qw, .inl (E.2.1, 64, .inl z_262))] := hD_274
    clear hP_271 hD_271 hS_271
    refine lv_iload_n hx hb dX2_stretch_53 rfl (lv_at hl_272 1 rfl) ?_
    refine lv_bipush (v := 19) hx hb dX2_stretch_54 (by decide) ?_
    refine gSi hF hl_272 hV hP_274 hD_274 hS_274 hA [] [0, 1] (wc := []) (wr := [(h, .inr (4, [.ref qw, .ref qs])), (qw, .inl (E.2.1, 64, .inl z_262))]) rfl rfl rfl (by decide) (k_X2_turned E l (z_262 ((16 + i_262) - 2)) 19) (va_cwS 2 hts gX2_stretch_X2_turned rfl rfl rfl (by decide +kernel) ⟨Nat.le_of_ble_eq_true rfl, Nat.le_of_ble_eq_true rfl⟩) rfl rfl (Nat.le_of_ble_eq_true rfl) dX2_stretch_56 ⟨Nat.le_of_ble_eq_true rfl, Nat.le_of_ble_eq_true rfl⟩ (fun r_275 _ H_276 locs_276 hu_275 hP_276 hD_276 hS_276 => ?_)
    have er_275 : r_275 = F_X2_turned (z_262 ((16 + i_262) - 2)) 19 := hu_275
    clear hu_275
    replace hP_276 : va_P E.1 vwCl [(h, .inr (4, [.ref qw, .ref qs])), (qw, .inl (E.2.1, 64, .inl z_262))] H_276 := hP_276
    replace hD_276 : va_D A [(h, .inr (4, [.ref qw, .ref qs])), (qw, .inl (E.2.1, 64, .inl z_262))] := hD_276
    clear hP_274 hD_274 hS_274
    refine lv_ixor hx hb dX2_stretch_59 ?_
    refine lv_iload_n hx hb dX2_stretch_60 rfl (lv_at hl_272 1 rfl) ?_
    refine lv_bipush (v := 10) hx hb dX2_stretch_61 (by decide) ?_
    refine lv_iushr (v := g_us (z_262 ((16 + i_262) - 2)) 10) hx hb dX2_stretch_63 rfl ?_
    refine lv_ixor hx hb dX2_stretch_64 ?_
    refine lv_istore (lv' := [(5, .int ((r_273 ^^^ r_275) ^^^ (g_us (z_262 ((16 + i_262) - 2)) 10))), (4, .int ((r_268 ^^^ r_270) ^^^ (g_us (z_262 ((16 + i_262) - 15)) 3))), (3, .int (z_262 ((16 + i_262) - 2))), (2, .int (z_262 ((16 + i_262) - 15))), (1, .int (nI (16 + i_262))), (0, .ref h)]) hx hb dX2_stretch_65 hl_272 (by decide) rfl (fun ls_277 hl_277 => ?_)
    clear hl_272
    refine lv_aload_n hx hb dX2_stretch_67 rfl (lv_at hl_277 5 rfl) ?_
    refine va_get (D := E.1) (ci := 4) (v := .ref qw) (C := RX2) (T := TX2) (N := 2) hx hb hts in_X2 hown hK hP_276 0 rfl rfl 0 (by decide) w_0 (fun _ h9 => h9) rfl dX2_stretch_68 ?_
    refine lv_iload_n hx hb dX2_stretch_71 rfl (lv_at hl_277 4 rfl) ?_
    refine lv_aload_n hx hb dX2_stretch_72 rfl (lv_at hl_277 5 rfl) ?_
    refine va_get (D := E.1) (ci := 4) (v := .ref qw) (C := RX2) (T := TX2) (N := 2) hx hb hts in_X2 hown hK hP_276 0 rfl rfl 0 (by decide) w_0 (fun _ h9 => h9) rfl dX2_stretch_73 ?_
    refine lv_iload_n hx hb dX2_stretch_76 rfl (lv_at hl_277 4 rfl) ?_
    refine lv_bipush (v := 16) hx hb dX2_stretch_77 (by decide) ?_
    refine lv_isub hx hb dX2_stretch_79 ?_
    refine lv_topi (fun y_278 ey_278 => ?_)
    obtain rfl : y_278 = (nI ((16 + i_262) - 16)) := ey_278.trans (pk_sub (a := 16 + i_262) (b := 16) (by omega))
    refine g_iald (e0 := (16 + i_262) - 16) hx hb hK hP_276 1 0 rfl rfl (by omega) (by omega) dX2_stretch_80 ?_
    refine lv_iload hx hb dX2_stretch_81 (lv_at hl_277 1 rfl) ?_
    refine lv_iadd hx hb dX2_stretch_83 ?_
    refine lv_topi (fun v_279 ev_279 => ?_)
    refine lv_aload_n hx hb dX2_stretch_84 rfl (lv_at hl_277 5 rfl) ?_
    refine va_get (D := E.1) (ci := 4) (v := .ref qw) (C := RX2) (T := TX2) (N := 2) hx hb hts in_X2 hown hK hP_276 0 rfl rfl 0 (by decide) w_0 (fun _ h9 => h9) rfl dX2_stretch_85 ?_
    refine lv_iload_n hx hb dX2_stretch_88 rfl (lv_at hl_277 4 rfl) ?_
    refine lv_bipush (v := 7) hx hb dX2_stretch_89 (by decide) ?_
    refine lv_isub hx hb dX2_stretch_91 ?_
    refine lv_topi (fun y_280 ey_280 => ?_)
    obtain rfl : y_280 = (nI ((16 + i_262) - 7)) := ey_280.trans (pk_sub (a := 16 + i_262) (b := 7) (by omega))
    refine g_iald (e0 := (16 + i_262) - 7) hx hb hK hP_276 1 0 rfl rfl (by omega) (by omega) dX2_stretch_92 ?_
    refine lv_iadd hx hb dX2_stretch_93 ?_
    refine lv_iload hx hb dX2_stretch_94 (lv_at hl_277 0 rfl) ?_
    refine lv_iadd hx hb dX2_stretch_96 ?_
    refine lv_topi (fun v_281 ev_281 => ?_)
    refine g_iast (e0 := 16 + i_262) hx hb hK hP_276 hD_276 hS_276 1 0 rfl rfl (by omega) (by omega) dX2_stretch_97 (fun H_282 locs_282 hP_282 hD_282 hS_282 => ?_)
    replace hP_282 : va_P E.1 vwCl [(h, .inr (4, [.ref qw, .ref qs])), (qw, .inl (E.2.1, 64, .inl (upd z_262 (16 + i_262) v_281)))] H_282 := hP_282
    replace hD_282 : va_D A [(h, .inr (4, [.ref qw, .ref qs])), (qw, .inl (E.2.1, 64, .inl (upd z_262 (16 + i_262) v_281)))] := hD_282
    clear hP_276 hD_276 hS_276
    refine lv_iinc (v := (nI ((16 + i_262) + 1))) (lv' := [(1, .int (nI ((16 + i_262) + 1))), (5, .int ((r_273 ^^^ r_275) ^^^ (g_us (z_262 ((16 + i_262) - 2)) 10))), (4, .int ((r_268 ^^^ r_270) ^^^ (g_us (z_262 ((16 + i_262) - 15)) 3))), (3, .int (z_262 ((16 + i_262) - 2))), (2, .int (z_262 ((16 + i_262) - 15))), (0, .ref h)]) hx hb dX2_stretch_98 hl_277 (k := 4) rfl (nI_add _ 1) (by decide) rfl (fun ls_283 hl_283 => ?_)
    clear hl_277
    refine lv_goto (tgt := 3) hx hb dX2_stretch_101 (by decide) ?_
    exact ih_262 ((upd z_262 (16 + i_262) v_281) : Nat → Int32) _ _ _ (((show B_X2_stretch_3 i_262 z_262 = _ from (gLet_eq er_268 (gLet_eq er_270 (gLet_eq er_273 (gLet_eq er_275 (gLet_eq ev_279 (gLet_eq ev_281 rfl))))))).symm.trans (congrArg (B_X2_stretch_3 i_262) hz_262)).trans (itr_s _ _ _).symm) ⟨lv_sub hl_283 [0, 5] rfl, (hP_282.sub [0, 1] rfl), (hD_282.sub [0, 1] (by decide) rfl), hS_282⟩
  · intro z_284 H_284 locs_284 ls_284 hz_284 hI_284
    obtain ⟨hl_284, hP_284, hD_284, hS_284⟩ := hI_284
    replace hl_284 : lv_has ls_284 6 [(1, .int (nI (16 + 48))), (0, .ref h)] := hl_284
    replace hP_284 : va_P E.1 vwCl [(h, .inr (4, [.ref qw, .ref qs])), (qw, .inl (E.2.1, 64, .inl z_284))] H_284 := hP_284
    replace hD_284 : va_D A [(h, .inr (4, [.ref qw, .ref qs])), (qw, .inl (E.2.1, 64, .inl z_284))] := hD_284
    clear hl_191 hP hD hS
    refine lv_iload_n hx hb dX2_stretch_3 rfl (lv_at hl_284 0 rfl) ?_
    refine lv_bipush (v := 64) hx hb dX2_stretch_4 (by decide) ?_
    refine lv_icmp_ge (tgt := 104) hx hb dX2_stretch_6 (by decide) (fun c_285 => ?_) (fun c_285 => (by have c_285 := (not_congr (nI_leI (a := 64) (b := 16 + 48) (by omega) (by omega))).mp c_285; exfalso; omega))
    replace c_285 : 64 ≤ 16 + 48 := (nI_leI (a := 64) (b := 16 + 48) (by omega) (by omega)).mp c_285
    have hpost : (z_284 : Nat → Int32) = F_X2_stretch wd := (show F_X2_stretch wd = (z_284 : Nat → Int32) from (gLet_eq hz_284 rfl)).symm
    have hP9 := hP_284.sub (ws' := [(h, .inr (4, [.ref qw, .ref qs])), (qw, .inl (E.2.1, 64, .inl z_284))]) [0, 1] rfl
    have hD9 := hD_284.sub (ws' := [(h, .inr (4, [.ref qw, .ref qs])), (qw, .inl (E.2.1, 64, .inl z_284))]) [0, 1] (by decide) rfl
    exact W.vret hx hb hr (fun t ht hW => ⟨⟨z_284, rfl, hpost, by rw [ht]; exact hP9, hD9⟩, hS_284.F ht⟩) hS_284.2.2 dX2_stretch_104
set_option maxHeartbeats 4000000 in
set_option maxRecDepth 100000 in
theorem k_X2_mix (E : gE) (l : Launch) (h qw qs : Nat) (wd : Nat → Int32) (st : Nat → Int32) : gMv E l yX2_mix wsX2_mix ({ frames := 1, cells := 0, slots := 0, locals := 21 }) 0 0 [.ref h] [(h, .inr (4, [.ref qw, .ref qs])), (qw, .inl (E.2.1, 64, .inl wd)), (qs, .inl (E.2.1, 8, .inl st))] (fun (uu : Nat → Int32) => uu = F_X2_mix wd st) (fun (uu : Nat → Int32) => [(h, .inr (4, [.ref qw, .ref qs])), (qw, .inl (E.2.1, 64, .inl wd)), (qs, .inl (E.2.1, 8, .inl uu))]) := by
  intro sz
  refine Met.ofW (cc := cX2_mix) (maxL := 14) (ret := none) (by decide) rfl ?_
  intro p e s m args below meth c s₁ B hml hv
  obtain ⟨rfl, hsz, hP, hV, hD0⟩ := hv
  have hx := B.exec
  have hb := B.bytes
  have hr := B.returns
  have hts := atoms_spec (ws := wsX2_mix) B.pre
  have hown : s.vm.findClass RX2 = some m.cls := findClass_of_methodNamed B.named
  have hlocks := B.notSynchronized
  subst hsz
  have hD := hD0.self (sz := s.heap.size)
  clear hD0
  generalize hAe : va_A [(h, .inr (4, [.ref qw, .ref qs])), (qw, .inl (E.2.1, 64, .inl wd)), (qs, .inl (E.2.1, 8, .inl st))] s.heap.size = A at hD hV ⊢
  have hA : ∀ q : Nat, s.heap.size ≤ q → A q := fun q h => by rw [← hAe]; exact Or.inr h
  have hS : va_S A s.heap s.heap [] := va_S.rf
  have hK := hV.1
  have hF : CallFix p m c cX2_mix 14 s _ wsX2_mix RX2 := ⟨hx, hb, hml, hown, hts⟩
  have hl := lv_entry [.ref h] (n := 14) (Nat.le_of_ble_eq_true rfl)
  rw [lg_entry_eq]
  generalize (lg_sl [.ref h] ++ List.replicate (14 - (lg_sl [.ref h]).length) Slot.unset).toArray = ls at hl ⊢
  have hl : lv_has ls 14 [(0, .ref h)] := hl
  have in_X2 : ∀ w ∈ wsX20, w ∈ wsX2_mix := by decide +kernel
  have w_0 := hts (.fieldLink RX2 13 "CryptRows$Great" "state" "[I") (by decide +kernel)
  have w_1 := hts (.fieldLink RX2 50 "CryptRows$Great" "ROOTS" "[I") (by decide +kernel)
  have w_2 := hts (.fieldLink RX2 7 "CryptRows$Great" "words" "[I") (by decide +kernel)
  refine lv_aload_n hx hb dX2_mix_0 rfl (lv_at hl 0 rfl) ?_
  refine va_get (D := E.1) (ci := 4) (v := .ref qs) (C := RX2) (T := TX2) (N := 2) hx hb hts in_X2 hown hK hP 0 rfl rfl 1 (by decide) w_0 (fun _ h9 => h9) rfl dX2_mix_1 ?_
  refine lv_iconst (v := 0) hx hb dX2_mix_4 (by decide) ?_
  refine g_iald (e0 := 0) hx hb hK hP 2 0 rfl rfl (by omega) (by omega) dX2_mix_5 ?_
  refine lv_istore_n (lv' := [(1, .int (st 0)), (0, .ref h)]) hx hb dX2_mix_6 rfl hl (by decide) rfl (fun ls_303 hl_303 => ?_)
  clear hl
  refine lv_aload_n hx hb dX2_mix_7 rfl (lv_at hl_303 1 rfl) ?_
  refine va_get (D := E.1) (ci := 4) (v := .ref qs) (C := RX2) (T := TX2) (N := 2) hx hb hts in_X2 hown hK hP 0 rfl rfl 1 (by decide) w_0 (fun _ h9 => h9) rfl dX2_mix_8 ?_
  refine lv_iconst (v := 1) hx hb dX2_mix_11 (by decide) ?_
  refine g_iald (e0 := 1) hx hb hK hP 2 0 rfl rfl (by omega) (by omega) dX2_mix_12 ?_
  refine lv_istore_n (lv' := [(2, .int (st 1)), (1, .int (st 0)), (0, .ref h)]) hx hb dX2_mix_13 rfl hl_303 (by decide) rfl (fun ls_304 hl_304 => ?_)
  clear hl_303
  refine lv_aload_n hx hb dX2_mix_14 rfl (lv_at hl_304 2 rfl) ?_
  refine va_get (D := E.1) (ci := 4) (v := .ref qs) (C := RX2) (T := TX2) (N := 2) hx hb hts in_X2 hown hK hP 0 rfl rfl 1 (by decide) w_0 (fun _ h9 => h9) rfl dX2_mix_15 ?_
  refine lv_iconst (v := 2) hx hb dX2_mix_18 (by decide) ?_
  refine g_iald (e0 := 2) hx hb hK hP 2 0 rfl rfl (by omega) (by omega) dX2_mix_19 ?_
  refine lv_istore_n (lv' := [(3, .int (st 2)), (2, .int (st 1)), (1, .int (st 0)), (0, .ref h)]) hx hb dX2_mix_20 rfl hl_304 (by decide) rfl (fun ls_305 hl_305 => ?_)
  clear hl_304
  refine lv_aload_n hx hb dX2_mix_21 rfl (lv_at hl_305 3 rfl) ?_
  refine va_get (D := E.1) (ci := 4) (v := .ref qs) (C := RX2) (T := TX2) (N := 2) hx hb hts in_X2 hown hK hP 0 rfl rfl 1 (by decide) w_0 (fun _ h9 => h9) rfl dX2_mix_22 ?_
  refine lv_iconst (v := 3) hx hb dX2_mix_25 (by decide) ?_
  refine g_iald (e0 := 3) hx hb hK hP 2 0 rfl rfl (by omega) (by omega) dX2_mix_26 ?_
  refine lv_istore (lv' := [(4, .int (st 3)), (3, .int (st 2)), (2, .int (st 1)), (1, .int (st 0)), (0, .ref h)]) hx hb dX2_mix_27 hl_305 (by decide) rfl (fun ls_306 hl_306 => ?_)
  clear hl_305
  refine lv_aload_n hx hb dX2_mix_29 rfl (lv_at hl_306 4 rfl) ?_
  refine va_get (D := E.1) (ci := 4) (v := .ref qs) (C := RX2) (T := TX2) (N := 2) hx hb hts in_X2 hown hK hP 0 rfl rfl 1 (by decide) w_0 (fun _ h9 => h9) rfl dX2_mix_30 ?_
  refine lv_iconst (v := 4) hx hb dX2_mix_33 (by decide) ?_
  refine g_iald (e0 := 4) hx hb hK hP 2 0 rfl rfl (by omega) (by omega) dX2_mix_34 ?_
  refine lv_istore (lv' := [(5, .int (st 4)), (4, .int (st 3)), (3, .int (st 2)), (2, .int (st 1)), (1, .int (st 0)), (0, .ref h)]) hx hb dX2_mix_35 hl_306 (by decide) rfl (fun ls_307 hl_307 => ?_)
  clear hl_306
  refine lv_aload_n hx hb dX2_mix_37 rfl (lv_at hl_307 5 rfl) ?_
  refine va_get (D := E.1) (ci := 4) (v := .ref qs) (C := RX2) (T := TX2) (N := 2) hx hb hts in_X2 hown hK hP 0 rfl rfl 1 (by decide) w_0 (fun _ h9 => h9) rfl dX2_mix_38 ?_
  refine lv_iconst (v := 5) hx hb dX2_mix_41 (by decide) ?_
  refine g_iald (e0 := 5) hx hb hK hP 2 0 rfl rfl (by omega) (by omega) dX2_mix_42 ?_
  refine lv_istore (lv' := [(6, .int (st 5)), (5, .int (st 4)), (4, .int (st 3)), (3, .int (st 2)), (2, .int (st 1)), (1, .int (st 0)), (0, .ref h)]) hx hb dX2_mix_43 hl_307 (by decide) rfl (fun ls_308 hl_308 => ?_)
  clear hl_307
  refine lv_aload_n hx hb dX2_mix_45 rfl (lv_at hl_308 6 rfl) ?_
  refine va_get (D := E.1) (ci := 4) (v := .ref qs) (C := RX2) (T := TX2) (N := 2) hx hb hts in_X2 hown hK hP 0 rfl rfl 1 (by decide) w_0 (fun _ h9 => h9) rfl dX2_mix_46 ?_
  refine lv_bipush (v := 6) hx hb dX2_mix_49 (by decide) ?_
  refine g_iald (e0 := 6) hx hb hK hP 2 0 rfl rfl (by omega) (by omega) dX2_mix_51 ?_
  refine lv_istore (lv' := [(7, .int (st 6)), (6, .int (st 5)), (5, .int (st 4)), (4, .int (st 3)), (3, .int (st 2)), (2, .int (st 1)), (1, .int (st 0)), (0, .ref h)]) hx hb dX2_mix_52 hl_308 (by decide) rfl (fun ls_309 hl_309 => ?_)
  clear hl_308
  refine lv_aload_n hx hb dX2_mix_54 rfl (lv_at hl_309 7 rfl) ?_
  refine va_get (D := E.1) (ci := 4) (v := .ref qs) (C := RX2) (T := TX2) (N := 2) hx hb hts in_X2 hown hK hP 0 rfl rfl 1 (by decide) w_0 (fun _ h9 => h9) rfl dX2_mix_55 ?_
  refine lv_bipush (v := 7) hx hb dX2_mix_58 (by decide) ?_
  refine g_iald (e0 := 7) hx hb hK hP 2 0 rfl rfl (by omega) (by omega) dX2_mix_60 ?_
  refine lv_istore (lv' := [(8, .int (st 7)), (7, .int (st 6)), (6, .int (st 5)), (5, .int (st 4)), (4, .int (st 3)), (3, .int (st 2)), (2, .int (st 1)), (1, .int (st 0)), (0, .ref h)]) hx hb dX2_mix_61 hl_309 (by decide) rfl (fun ls_310 hl_310 => ?_)
  clear hl_309
  refine lv_iconst (v := 0) hx hb dX2_mix_63 (by decide) ?_
  refine lv_istore (lv' := [(9, .int 0), (8, .int (st 7)), (7, .int (st 6)), (6, .int (st 5)), (5, .int (st 4)), (4, .int (st 3)), (3, .int (st 2)), (2, .int (st 1)), (1, .int (st 0)), (0, .ref h)]) hx hb dX2_mix_64 hl_310 (by decide) rfl (fun ls_311 hl_311 => ?_)
  clear hl_310
  refine g_up (N := 64) (B_X2_mix_66 wd) (((st 0), (st 1), (st 2), (st 3), (st 4), (st 5), (st 6), (st 7)) : Int32 × Int32 × Int32 × Int32 × Int32 × Int32 × Int32 × Int32) (Inv := fun i_0 z_407 H_0 locs_0 ls_0 => lv_has ls_0 14 [(9, .int (nI i_0)), (8, .int z_407.2.2.2.2.2.2.2), (7, .int z_407.2.2.2.2.2.2.1), (6, .int z_407.2.2.2.2.2.1), (5, .int z_407.2.2.2.2.1), (4, .int z_407.2.2.2.1), (3, .int z_407.2.2.1), (2, .int z_407.2.1), (1, .int z_407.1), (0, .ref h)] ∧ va_P E.1 vwCl [(h, .inr (4, [.ref qw, .ref qs])), (qw, .inl (E.2.1, 64, .inl wd)), (qs, .inl (E.2.1, 8, .inl st))] H_0 ∧ va_D A [(h, .inr (4, [.ref qw, .ref qs])), (qw, .inl (E.2.1, 64, .inl wd)), (qs, .inl (E.2.1, 8, .inl st))] ∧ va_S A s.heap H_0 locs_0) (G := fun H_0 locs_0 ls_0 => W _ _ _ _ _ _ _ _ _ _ H_0 locs_0 _ _ _ (F0 _ 66 ls_0 [])) ?_ ?_ ⟨lv_sub hl_311 [0, 1, 2, 3, 4, 5, 6, 7, 8, 9] rfl, hP, hD, hS⟩
  · intro j_408 i_408 z_408 H_408 locs_408 ls_408 hij_408 hz_408 hI_408 ih_408
    obtain ⟨hl_408, hP_408, hD_408, hS_408⟩ := hI_408
    replace hl_408 : lv_has ls_408 14 [(9, .int (nI i_408)), (8, .int z_408.2.2.2.2.2.2.2), (7, .int z_408.2.2.2.2.2.2.1), (6, .int z_408.2.2.2.2.2.1), (5, .int z_408.2.2.2.2.1), (4, .int z_408.2.2.2.1), (3, .int z_408.2.2.1), (2, .int z_408.2.1), (1, .int z_408.1), (0, .ref h)] := hl_408
    replace hP_408 : va_P E.1 vwCl [(h, .inr (4, [.ref qw, .ref qs])), (qw, .inl (E.2.1, 64, .inl wd)), (qs, .inl (E.2.1, 8, .inl st))] H_408 := hP_408
    replace hD_408 : va_D A [(h, .inr (4, [.ref qw, .ref qs])), (qw, .inl (E.2.1, 64, .inl wd)), (qs, .inl (E.2.1, 8, .inl st))] := hD_408
    clear hl_311 hP hD hS
    refine lv_iload hx hb dX2_mix_66 (lv_at hl_408 0 rfl) ?_
    refine lv_bipush (v := 64) hx hb dX2_mix_68 (by decide) ?_
    refine lv_icmp_ge (tgt := 209) hx hb dX2_mix_70 (by decide) (fun c_409 => (by have c_409 := (nI_leI (a := 64) (b := i_408) (by omega) (by omega)).mp c_409; exfalso; omega)) (fun c_409 => ?_)
    replace c_409 : ¬ 64 ≤ i_408 := (not_congr (nI_leI (a := 64) (b := i_408) (by omega) (by omega))).mp c_409
    refine lv_iload hx hb dX2_mix_73 (lv_at hl_408 4 rfl) ?_
    refine lv_bipush (v := 6) hx hb dX2_mix_75 (by decide) ?_
    refine gSi hF hl_408 hV hP_408 hD_408 hS_408 hA [] [0, 1, 2] (wc := []) (wr := [(h, .inr (4, [.ref qw, .ref qs])), (qw, .inl (E.2.1, 64, .inl wd)), (qs, .inl (E.2.1, 8, .inl st))]) rfl rfl rfl (by decide) (k_X2_turned E l z_408.2.2.2.2.1 6) (va_cwS 2 hts gX2_mix_X2_turned rfl rfl rfl (by decide +kernel) ⟨Nat.le_of_ble_eq_true rfl, Nat.le_of_ble_eq_true rfl⟩) rfl rfl (Nat.le_of_ble_eq_true rfl) dX2_mix_77 ⟨Nat.le_of_ble_eq_true rfl, Nat.le_of_ble_eq_true rfl⟩ (fun r_410 _ H_411 locs_411 hu_410 hP_411 hD_411 hS_411 => ?_)
    have er_410 : r_410 = F_X2_turned z_408.2.2.2.2.1 6 := hu_410
    clear hu_410
    replace hP_411 : va_P E.1 vwCl [(h, .inr (4, [.ref qw, .ref qs])), (qw, .inl (E.2.1, 64, .inl wd)), (qs, .inl (E.2.1, 8, .inl st))] H_411 := hP_411
    replace hD_411 : va_D A [(h, .inr (4, [.ref qw, .ref qs])), (qw, .inl (E.2.1, 64, .inl wd)), (qs, .inl (E.2.1, 8, .inl st))] := hD_411
    clear hP_408 hD_408 hS_408
    refine lv_iload hx hb dX2_mix_80 (lv_at hl_408 4 rfl) ?_
    refine lv_bipush (v := 11) hx hb dX2_mix_82 (by decide) ?_
    refine gSi hF hl_408 hV hP_411 hD_411 hS_411 hA [] [0, 1, 2] (wc := []) (wr := [(h, .inr (4, [.ref qw, .ref qs])), (qw, .inl (E.2.1, 64, .inl wd)), (qs, .inl (E.2.1, 8, .inl st))]) rfl rfl rfl (by decide) (k_X2_turned E l z_408.2.2.2.2.1 11) (va_cwS 2 hts gX2_mix_X2_turned rfl rfl rfl (by decide +kernel) ⟨Nat.le_of_ble_eq_true rfl, Nat.le_of_ble_eq_true rfl⟩) rfl rfl (Nat.le_of_ble_eq_true rfl) dX2_mix_84 ⟨Nat.le_of_ble_eq_true rfl, Nat.le_of_ble_eq_true rfl⟩ (fun r_412 _ H_413 locs_413 hu_412 hP_413 hD_413 hS_413 => ?_)
    have er_412 : r_412 = F_X2_turned z_408.2.2.2.2.1 11 := hu_412
    clear hu_412
    replace hP_413 : va_P E.1 vwCl [(h, .inr (4, [.ref qw, .ref qs])), (qw, .inl (E.2.1, 64, .inl wd)), (qs, .inl (E.2.1, 8, .inl st))] H_413 := hP_413
    replace hD_413 : va_D A [(h, .inr (4, [.ref qw, .ref qs])), (qw, .inl (E.2.1, 64, .inl wd)), (qs, .inl (E.2.1, 8, .inl st))] := hD_413
    clear hP_411 hD_411 hS_411
    refine lv_ixor hx hb dX2_mix_87 ?_
    refine lv_iload hx hb dX2_mix_88 (lv_at hl_408 4 rfl) ?_
    refine lv_bipush (v := 25) hx hb dX2_mix_90 (by decide) ?_
    refine gSi hF hl_408 hV hP_413 hD_413 hS_413 hA [] [0, 1, 2] (wc := []) (wr := [(h, .inr (4, [.ref qw, .ref qs])), (qw, .inl (E.2.1, 64, .inl wd)), (qs, .inl (E.2.1, 8, .inl st))]) rfl rfl rfl (by decide) (k_X2_turned E l z_408.2.2.2.2.1 25) (va_cwS 2 hts gX2_mix_X2_turned rfl rfl rfl (by decide +kernel) ⟨Nat.le_of_ble_eq_true rfl, Nat.le_of_ble_eq_true rfl⟩) rfl rfl (Nat.le_of_ble_eq_true rfl) dX2_mix_92 ⟨Nat.le_of_ble_eq_true rfl, Nat.le_of_ble_eq_true rfl⟩ (fun r_414 _ H_415 locs_415 hu_414 hP_415 hD_415 hS_415 => ?_)
    have er_414 : r_414 = F_X2_turned z_408.2.2.2.2.1 25 := hu_414
    clear hu_414
    replace hP_415 : va_P E.1 vwCl [(h, .inr (4, [.ref qw, .ref qs])), (qw, .inl (E.2.1, 64, .inl wd)), (qs, .inl (E.2.1, 8, .inl st))] H_415 := hP_415
    replace hD_415 : va_D A [(h, .inr (4, [.ref qw, .ref qs])), (qw, .inl (E.2.1, 64, .inl wd)), (qs, .inl (E.2.1, 8, .inl st))] := hD_415
    clear hP_413 hD_413 hS_413
    refine lv_ixor hx hb dX2_mix_95 ?_
    refine lv_istore (lv' := [(10, .int ((r_410 ^^^ r_412) ^^^ r_414)), (9, .int (nI i_408)), (8, .int z_408.2.2.2.2.2.2.2), (7, .int z_408.2.2.2.2.2.2.1), (6, .int z_408.2.2.2.2.2.1), (5, .int z_408.2.2.2.2.1), (4, .int z_408.2.2.2.1), (3, .int z_408.2.2.1), (2, .int z_408.2.1), (1, .int z_408.1), (0, .ref h)]) hx hb dX2_mix_96 hl_408 (by decide) rfl (fun ls_416 hl_416 => ?_)
    clear hl_408
    refine lv_iload hx hb dX2_mix_98 (lv_at hl_416 2 rfl) ?_
    refine lv_iload hx hb dX2_mix_100 (lv_at hl_416 0 rfl) ?_
    refine lv_iadd hx hb dX2_mix_102 ?_
    refine lv_iload hx hb dX2_mix_103 (lv_at hl_416 5 rfl) ?_
    refine lv_iload hx hb dX2_mix_105 (lv_at hl_416 4 rfl) ?_
    refine lv_iand hx hb dX2_mix_107 ?_
    refine lv_iload hx hb dX2_mix_108 (lv_at hl_416 5 rfl) ?_
    refine lv_iconst (v := (-1)) hx hb dX2_mix_110 (by decide) ?_
    refine lv_ixor hx hb dX2_mix_111 ?_
    refine lv_iload hx hb dX2_mix_112 (lv_at hl_416 3 rfl) ?_
    refine lv_iand hx hb dX2_mix_114 ?_
    refine lv_ixor hx hb dX2_mix_115 ?_
    refine lv_topi (fun v_417 ev_417 => ?_)
    refine lv_iadd hx hb dX2_mix_116 ?_
    refine lv_topi (fun v_418 ev_418 => ?_)
    refine va_gets (v := .ref (E.2.2.2 3)) hx hb (hV.2.2 3 (by decide)).1 hS_415 hown w_1 (fun _ h9 => h9) dX2_mix_117 ?_
    refine lv_iload hx hb dX2_mix_120 (lv_at hl_416 1 rfl) ?_
    refine va_ti (v := .int (gTf 3 i_408)) hx hb (hV.2.2 3 (by decide)).2 hS_415 (vp_in_nI (n := i_408) (N := 64) (by omega) (by omega)) (g_tv (by omega)) dX2_mix_122 ?_
    refine lv_iadd hx hb dX2_mix_123 ?_
    refine lv_aload_n hx hb dX2_mix_124 rfl (lv_at hl_416 10 rfl) ?_
    refine va_get (D := E.1) (ci := 4) (v := .ref qw) (C := RX2) (T := TX2) (N := 2) hx hb hts in_X2 hown hK hP_415 0 rfl rfl 0 (by decide) w_2 (fun _ h9 => h9) rfl dX2_mix_125 ?_
    refine lv_iload hx hb dX2_mix_128 (lv_at hl_416 1 rfl) ?_
    refine g_iald (e0 := i_408) hx hb hK hP_415 1 0 rfl rfl (by omega) (by omega) dX2_mix_130 ?_
    refine lv_iadd hx hb dX2_mix_131 ?_
    refine lv_istore (lv' := [(11, .int ((v_418 + (gTf 3 i_408)) + (wd i_408))), (10, .int ((r_410 ^^^ r_412) ^^^ r_414)), (9, .int (nI i_408)), (8, .int z_408.2.2.2.2.2.2.2), (7, .int z_408.2.2.2.2.2.2.1), (6, .int z_408.2.2.2.2.2.1), (5, .int z_408.2.2.2.2.1), (4, .int z_408.2.2.2.1), (3, .int z_408.2.2.1), (2, .int z_408.2.1), (1, .int z_408.1), (0, .ref h)]) hx hb dX2_mix_132 hl_416 (by decide) rfl (fun ls_419 hl_419 => ?_)
    clear hl_416
    refine lv_iload_n hx hb dX2_mix_134 rfl (lv_at hl_419 10 rfl) ?_
    refine lv_iconst (v := 2) hx hb dX2_mix_135 (by decide) ?_
    refine gSi hF hl_419 hV hP_415 hD_415 hS_415 hA [] [0, 1, 2] (wc := []) (wr := [(h, .inr (4, [.ref qw, .ref qs])), (qw, .inl (E.2.1, 64, .inl wd)), (qs, .inl (E.2.1, 8, .inl st))]) rfl rfl rfl (by decide) (k_X2_turned E l z_408.1 2) (va_cwS 2 hts gX2_mix_X2_turned rfl rfl rfl (by decide +kernel) ⟨Nat.le_of_ble_eq_true rfl, Nat.le_of_ble_eq_true rfl⟩) rfl rfl (Nat.le_of_ble_eq_true rfl) dX2_mix_136 ⟨Nat.le_of_ble_eq_true rfl, Nat.le_of_ble_eq_true rfl⟩ (fun r_420 _ H_421 locs_421 hu_420 hP_421 hD_421 hS_421 => ?_)
    have er_420 : r_420 = F_X2_turned z_408.1 2 := hu_420
    clear hu_420
    replace hP_421 : va_P E.1 vwCl [(h, .inr (4, [.ref qw, .ref qs])), (qw, .inl (E.2.1, 64, .inl wd)), (qs, .inl (E.2.1, 8, .inl st))] H_421 := hP_421
    replace hD_421 : va_D A [(h, .inr (4, [.ref qw, .ref qs])), (qw, .inl (E.2.1, 64, .inl wd)), (qs, .inl (E.2.1, 8, .inl st))] := hD_421
    clear hP_415 hD_415 hS_415
    refine lv_iload_n hx hb dX2_mix_139 rfl (lv_at hl_419 10 rfl) ?_
    refine lv_bipush (v := 13) hx hb dX2_mix_140 (by decide) ?_
    refine gSi hF hl_419 hV hP_421 hD_421 hS_421 hA [] [0, 1, 2] (wc := []) (wr := [(h, .inr (4, [.ref qw, .ref qs])), (qw, .inl (E.2.1, 64, .inl wd)), (qs, .inl (E.2.1, 8, .inl st))]) rfl rfl rfl (by decide) (k_X2_turned E l z_408.1 13) (va_cwS 2 hts gX2_mix_X2_turned rfl rfl rfl (by decide +kernel) ⟨Nat.le_of_ble_eq_true rfl, Nat.le_of_ble_eq_true rfl⟩) rfl rfl (Nat.le_of_ble_eq_true rfl) dX2_mix_142 ⟨Nat.le_of_ble_eq_true rfl, Nat.le_of_ble_eq_true rfl⟩ (fun r_422 _ H_423 locs_423 hu_422 hP_423 hD_423 hS_423 => ?_)
    have er_422 : r_422 = F_X2_turned z_408.1 13 := hu_422
    clear hu_422
    replace hP_423 : va_P E.1 vwCl [(h, .inr (4, [.ref qw, .ref qs])), (qw, .inl (E.2.1, 64, .inl wd)), (qs, .inl (E.2.1, 8, .inl st))] H_423 := hP_423
    replace hD_423 : va_D A [(h, .inr (4, [.ref qw, .ref qs])), (qw, .inl (E.2.1, 64, .inl wd)), (qs, .inl (E.2.1, 8, .inl st))] := hD_423
    clear hP_421 hD_421 hS_421
    refine lv_ixor hx hb dX2_mix_145 ?_
    refine lv_iload_n hx hb dX2_mix_146 rfl (lv_at hl_419 10 rfl) ?_
    refine lv_bipush (v := 22) hx hb dX2_mix_147 (by decide) ?_
    refine gSi hF hl_419 hV hP_423 hD_423 hS_423 hA [] [0, 1, 2] (wc := []) (wr := [(h, .inr (4, [.ref qw, .ref qs])), (qw, .inl (E.2.1, 64, .inl wd)), (qs, .inl (E.2.1, 8, .inl st))]) rfl rfl rfl (by decide) (k_X2_turned E l z_408.1 22) (va_cwS 2 hts gX2_mix_X2_turned rfl rfl rfl (by decide +kernel) ⟨Nat.le_of_ble_eq_true rfl, Nat.le_of_ble_eq_true rfl⟩) rfl rfl (Nat.le_of_ble_eq_true rfl) dX2_mix_149 ⟨Nat.le_of_ble_eq_true rfl, Nat.le_of_ble_eq_true rfl⟩ (fun r_424 _ H_425 locs_425 hu_424 hP_425 hD_425 hS_425 => ?_)
    have er_424 : r_424 = F_X2_turned z_408.1 22 := hu_424
    clear hu_424
    replace hP_425 : va_P E.1 vwCl [(h, .inr (4, [.ref qw, .ref qs])), (qw, .inl (E.2.1, 64, .inl wd)), (qs, .inl (E.2.1, 8, .inl st))] H_425 := hP_425
    replace hD_425 : va_D A [(h, .inr (4, [.ref qw, .ref qs])), (qw, .inl (E.2.1, 64, .inl wd)), (qs, .inl (E.2.1, 8, .inl st))] := hD_425
    clear hP_423 hD_423 hS_423
    refine lv_ixor hx hb dX2_mix_152 ?_
    refine lv_istore (lv' := [(12, .int ((r_420 ^^^ r_422) ^^^ r_424)), (11, .int ((v_418 + (gTf 3 i_408)) + (wd i_408))), (10, .int ((r_410 ^^^ r_412) ^^^ r_414)), (9, .int (nI i_408)), (8, .int z_408.2.2.2.2.2.2.2), (7, .int z_408.2.2.2.2.2.2.1), (6, .int z_408.2.2.2.2.2.1), (5, .int z_408.2.2.2.2.1), (4, .int z_408.2.2.2.1), (3, .int z_408.2.2.1), (2, .int z_408.2.1), (1, .int z_408.1), (0, .ref h)]) hx hb dX2_mix_153 hl_419 (by decide) rfl (fun ls_426 hl_426 => ?_)
    clear hl_419
    refine lv_iload hx hb dX2_mix_155 (lv_at hl_426 0 rfl) ?_
    refine lv_iload_n hx hb dX2_mix_157 rfl (lv_at hl_426 11 rfl) ?_
    refine lv_iload_n hx hb dX2_mix_158 rfl (lv_at hl_426 10 rfl) ?_
    refine lv_iand hx hb dX2_mix_159 ?_
    refine lv_iload_n hx hb dX2_mix_160 rfl (lv_at hl_426 11 rfl) ?_
    refine lv_iload_n hx hb dX2_mix_161 rfl (lv_at hl_426 9 rfl) ?_
    refine lv_iand hx hb dX2_mix_162 ?_
    refine lv_ixor hx hb dX2_mix_163 ?_
    refine lv_iload_n hx hb dX2_mix_164 rfl (lv_at hl_426 10 rfl) ?_
    refine lv_iload_n hx hb dX2_mix_165 rfl (lv_at hl_426 9 rfl) ?_
    refine lv_iand hx hb dX2_mix_166 ?_
    refine lv_ixor hx hb dX2_mix_167 ?_
    refine lv_topi (fun v_427 ev_427 => ?_)
    refine lv_iadd hx hb dX2_mix_168 ?_
    refine lv_istore (lv' := [(13, .int (((r_420 ^^^ r_422) ^^^ r_424) + v_427)), (12, .int ((r_420 ^^^ r_422) ^^^ r_424)), (11, .int ((v_418 + (gTf 3 i_408)) + (wd i_408))), (10, .int ((r_410 ^^^ r_412) ^^^ r_414)), (9, .int (nI i_408)), (8, .int z_408.2.2.2.2.2.2.2), (7, .int z_408.2.2.2.2.2.2.1), (6, .int z_408.2.2.2.2.2.1), (5, .int z_408.2.2.2.2.1), (4, .int z_408.2.2.2.1), (3, .int z_408.2.2.1), (2, .int z_408.2.1), (1, .int z_408.1), (0, .ref h)]) hx hb dX2_mix_169 hl_426 (by decide) rfl (fun ls_428 hl_428 => ?_)
    clear hl_426
    refine lv_iload hx hb dX2_mix_171 (lv_at hl_428 6 rfl) ?_
    refine lv_istore (lv' := [(8, .int z_408.2.2.2.2.2.2.1), (13, .int (((r_420 ^^^ r_422) ^^^ r_424) + v_427)), (12, .int ((r_420 ^^^ r_422) ^^^ r_424)), (11, .int ((v_418 + (gTf 3 i_408)) + (wd i_408))), (10, .int ((r_410 ^^^ r_412) ^^^ r_414)), (9, .int (nI i_408)), (7, .int z_408.2.2.2.2.2.2.1), (6, .int z_408.2.2.2.2.2.1), (5, .int z_408.2.2.2.2.1), (4, .int z_408.2.2.2.1), (3, .int z_408.2.2.1), (2, .int z_408.2.1), (1, .int z_408.1), (0, .ref h)]) hx hb dX2_mix_173 hl_428 (by decide) rfl (fun ls_429 hl_429 => ?_)
    clear hl_428
    refine lv_iload hx hb dX2_mix_175 (lv_at hl_429 7 rfl) ?_
    refine lv_istore (lv' := [(7, .int z_408.2.2.2.2.2.1), (8, .int z_408.2.2.2.2.2.2.1), (13, .int (((r_420 ^^^ r_422) ^^^ r_424) + v_427)), (12, .int ((r_420 ^^^ r_422) ^^^ r_424)), (11, .int ((v_418 + (gTf 3 i_408)) + (wd i_408))), (10, .int ((r_410 ^^^ r_412) ^^^ r_414)), (9, .int (nI i_408)), (6, .int z_408.2.2.2.2.2.1), (5, .int z_408.2.2.2.2.1), (4, .int z_408.2.2.2.1), (3, .int z_408.2.2.1), (2, .int z_408.2.1), (1, .int z_408.1), (0, .ref h)]) hx hb dX2_mix_177 hl_429 (by decide) rfl (fun ls_430 hl_430 => ?_)
    clear hl_429
    refine lv_iload hx hb dX2_mix_179 (lv_at hl_430 8 rfl) ?_
    refine lv_istore (lv' := [(6, .int z_408.2.2.2.2.1), (7, .int z_408.2.2.2.2.2.1), (8, .int z_408.2.2.2.2.2.2.1), (13, .int (((r_420 ^^^ r_422) ^^^ r_424) + v_427)), (12, .int ((r_420 ^^^ r_422) ^^^ r_424)), (11, .int ((v_418 + (gTf 3 i_408)) + (wd i_408))), (10, .int ((r_410 ^^^ r_412) ^^^ r_414)), (9, .int (nI i_408)), (5, .int z_408.2.2.2.2.1), (4, .int z_408.2.2.2.1), (3, .int z_408.2.2.1), (2, .int z_408.2.1), (1, .int z_408.1), (0, .ref h)]) hx hb dX2_mix_181 hl_430 (by decide) rfl (fun ls_431 hl_431 => ?_)
    clear hl_430
    refine lv_iload hx hb dX2_mix_183 (lv_at hl_431 9 rfl) ?_
    refine lv_iload hx hb dX2_mix_185 (lv_at hl_431 5 rfl) ?_
    refine lv_iadd hx hb dX2_mix_187 ?_
    refine lv_istore (lv' := [(5, .int (z_408.2.2.2.1 + ((v_418 + (gTf 3 i_408)) + (wd i_408)))), (6, .int z_408.2.2.2.2.1), (7, .int z_408.2.2.2.2.2.1), (8, .int z_408.2.2.2.2.2.2.1), (13, .int (((r_420 ^^^ r_422) ^^^ r_424) + v_427)), (12, .int ((r_420 ^^^ r_422) ^^^ r_424)), (11, .int ((v_418 + (gTf 3 i_408)) + (wd i_408))), (10, .int ((r_410 ^^^ r_412) ^^^ r_414)), (9, .int (nI i_408)), (4, .int z_408.2.2.2.1), (3, .int z_408.2.2.1), (2, .int z_408.2.1), (1, .int z_408.1), (0, .ref h)]) hx hb dX2_mix_188 hl_431 (by decide) rfl (fun ls_432 hl_432 => ?_)
    clear hl_431
    refine lv_iload_n hx hb dX2_mix_190 rfl (lv_at hl_432 10 rfl) ?_
    refine lv_istore (lv' := [(4, .int z_408.2.2.1), (5, .int (z_408.2.2.2.1 + ((v_418 + (gTf 3 i_408)) + (wd i_408)))), (6, .int z_408.2.2.2.2.1), (7, .int z_408.2.2.2.2.2.1), (8, .int z_408.2.2.2.2.2.2.1), (13, .int (((r_420 ^^^ r_422) ^^^ r_424) + v_427)), (12, .int ((r_420 ^^^ r_422) ^^^ r_424)), (11, .int ((v_418 + (gTf 3 i_408)) + (wd i_408))), (10, .int ((r_410 ^^^ r_412) ^^^ r_414)), (9, .int (nI i_408)), (3, .int z_408.2.2.1), (2, .int z_408.2.1), (1, .int z_408.1), (0, .ref h)]) hx hb dX2_mix_191 hl_432 (by decide) rfl (fun ls_433 hl_433 => ?_)
    clear hl_432
    refine lv_iload_n hx hb dX2_mix_193 rfl (lv_at hl_433 11 rfl) ?_
    refine lv_istore_n (lv' := [(3, .int z_408.2.1), (4, .int z_408.2.2.1), (5, .int (z_408.2.2.2.1 + ((v_418 + (gTf 3 i_408)) + (wd i_408)))), (6, .int z_408.2.2.2.2.1), (7, .int z_408.2.2.2.2.2.1), (8, .int z_408.2.2.2.2.2.2.1), (13, .int (((r_420 ^^^ r_422) ^^^ r_424) + v_427)), (12, .int ((r_420 ^^^ r_422) ^^^ r_424)), (11, .int ((v_418 + (gTf 3 i_408)) + (wd i_408))), (10, .int ((r_410 ^^^ r_412) ^^^ r_414)), (9, .int (nI i_408)), (2, .int z_408.2.1), (1, .int z_408.1), (0, .ref h)]) hx hb dX2_mix_194 rfl hl_433 (by decide) rfl (fun ls_434 hl_434 => ?_)
    clear hl_433
    refine lv_iload_n hx hb dX2_mix_195 rfl (lv_at hl_434 12 rfl) ?_
    refine lv_istore_n (lv' := [(2, .int z_408.1), (3, .int z_408.2.1), (4, .int z_408.2.2.1), (5, .int (z_408.2.2.2.1 + ((v_418 + (gTf 3 i_408)) + (wd i_408)))), (6, .int z_408.2.2.2.2.1), (7, .int z_408.2.2.2.2.2.1), (8, .int z_408.2.2.2.2.2.2.1), (13, .int (((r_420 ^^^ r_422) ^^^ r_424) + v_427)), (12, .int ((r_420 ^^^ r_422) ^^^ r_424)), (11, .int ((v_418 + (gTf 3 i_408)) + (wd i_408))), (10, .int ((r_410 ^^^ r_412) ^^^ r_414)), (9, .int (nI i_408)), (1, .int z_408.1), (0, .ref h)]) hx hb dX2_mix_196 rfl hl_434 (by decide) rfl (fun ls_435 hl_435 => ?_)
    clear hl_434
    refine lv_iload hx hb dX2_mix_197 (lv_at hl_435 9 rfl) ?_
    refine lv_iload hx hb dX2_mix_199 (lv_at hl_435 7 rfl) ?_
    refine lv_iadd hx hb dX2_mix_201 ?_
    refine lv_topi (fun v_436 ev_436 => ?_)
    refine lv_istore_n (lv' := [(1, .int v_436), (2, .int z_408.1), (3, .int z_408.2.1), (4, .int z_408.2.2.1), (5, .int (z_408.2.2.2.1 + ((v_418 + (gTf 3 i_408)) + (wd i_408)))), (6, .int z_408.2.2.2.2.1), (7, .int z_408.2.2.2.2.2.1), (8, .int z_408.2.2.2.2.2.2.1), (13, .int (((r_420 ^^^ r_422) ^^^ r_424) + v_427)), (12, .int ((r_420 ^^^ r_422) ^^^ r_424)), (11, .int ((v_418 + (gTf 3 i_408)) + (wd i_408))), (10, .int ((r_410 ^^^ r_412) ^^^ r_414)), (9, .int (nI i_408)), (0, .ref h)]) hx hb dX2_mix_202 rfl hl_435 (by decide) rfl (fun ls_437 hl_437 => ?_)
    clear hl_435
    refine lv_iinc (v := (nI (i_408 + 1))) (lv' := [(9, .int (nI (i_408 + 1))), (1, .int v_436), (2, .int z_408.1), (3, .int z_408.2.1), (4, .int z_408.2.2.1), (5, .int (z_408.2.2.2.1 + ((v_418 + (gTf 3 i_408)) + (wd i_408)))), (6, .int z_408.2.2.2.2.1), (7, .int z_408.2.2.2.2.2.1), (8, .int z_408.2.2.2.2.2.2.1), (13, .int (((r_420 ^^^ r_422) ^^^ r_424) + v_427)), (12, .int ((r_420 ^^^ r_422) ^^^ r_424)), (11, .int ((v_418 + (gTf 3 i_408)) + (wd i_408))), (10, .int ((r_410 ^^^ r_412) ^^^ r_414)), (0, .ref h)]) hx hb dX2_mix_203 hl_437 (k := 12) rfl (nI_add _ 1) (by decide) rfl (fun ls_438 hl_438 => ?_)
    clear hl_437
    refine lv_goto (tgt := 66) hx hb dX2_mix_206 (by decide) ?_
    exact ih_408 ((v_436, z_408.1, z_408.2.1, z_408.2.2.1, (z_408.2.2.2.1 + ((v_418 + (gTf 3 i_408)) + (wd i_408))), z_408.2.2.2.2.1, z_408.2.2.2.2.2.1, z_408.2.2.2.2.2.2.1) : Int32 × Int32 × Int32 × Int32 × Int32 × Int32 × Int32 × Int32) _ _ _ (((show (B_X2_mix_66 wd) i_408 z_408 = _ from (gLet_eq er_410 (gLet_eq er_412 (gLet_eq er_414 (gLet_eq ev_417 (gLet_eq ev_418 (gLet_eq er_420 (gLet_eq er_422 (gLet_eq er_424 (gLet_eq ev_427 (gLet_eq ev_436 rfl))))))))))).symm.trans (congrArg ((B_X2_mix_66 wd) i_408) hz_408)).trans (itr_s _ _ _).symm) ⟨lv_sub hl_438 [0, 8, 7, 6, 5, 4, 3, 2, 1, 13] rfl, (hP_425.sub [0, 1, 2] rfl), (hD_425.sub [0, 1, 2] (by decide) rfl), hS_425⟩
  · intro z_439 H_439 locs_439 ls_439 hz_439 hI_439
    obtain ⟨hl_439, hP_439, hD_439, hS_439⟩ := hI_439
    replace hl_439 : lv_has ls_439 14 [(9, .int (nI 64)), (8, .int z_439.2.2.2.2.2.2.2), (7, .int z_439.2.2.2.2.2.2.1), (6, .int z_439.2.2.2.2.2.1), (5, .int z_439.2.2.2.2.1), (4, .int z_439.2.2.2.1), (3, .int z_439.2.2.1), (2, .int z_439.2.1), (1, .int z_439.1), (0, .ref h)] := hl_439
    replace hP_439 : va_P E.1 vwCl [(h, .inr (4, [.ref qw, .ref qs])), (qw, .inl (E.2.1, 64, .inl wd)), (qs, .inl (E.2.1, 8, .inl st))] H_439 := hP_439
    replace hD_439 : va_D A [(h, .inr (4, [.ref qw, .ref qs])), (qw, .inl (E.2.1, 64, .inl wd)), (qs, .inl (E.2.1, 8, .inl st))] := hD_439
    clear hl_311 hP hD hS
    refine lv_iload hx hb dX2_mix_66 (lv_at hl_439 0 rfl) ?_
    refine lv_bipush (v := 64) hx hb dX2_mix_68 (by decide) ?_
    refine lv_icmp_ge (tgt := 209) hx hb dX2_mix_70 (by decide) (fun c_440 => ?_) (fun c_440 => (by have c_440 := (not_congr (nI_leI (a := 64) (b := 64) (by omega) (by omega))).mp c_440; exfalso; omega))
    replace c_440 : 64 ≤ 64 := (nI_leI (a := 64) (b := 64) (by omega) (by omega)).mp c_440
    refine lv_aload_n hx hb dX2_mix_209 rfl (lv_at hl_439 9 rfl) ?_
    refine va_get (D := E.1) (ci := 4) (v := .ref qs) (C := RX2) (T := TX2) (N := 2) hx hb hts in_X2 hown hK hP_439 0 rfl rfl 1 (by decide) w_0 (fun _ h9 => h9) rfl dX2_mix_210 ?_
    refine lv_iconst (v := 0) hx hb dX2_mix_213 (by decide) ?_
    refine lv_dup2_11 hx hb dX2_mix_214 rfl rfl ?_
    refine g_iald (e0 := 0) hx hb hK hP_439 2 0 rfl rfl (by omega) (by omega) dX2_mix_215 ?_
    refine lv_iload_n hx hb dX2_mix_216 rfl (lv_at hl_439 8 rfl) ?_
    refine lv_iadd hx hb dX2_mix_217 ?_
    refine g_iast (e0 := 0) hx hb hK hP_439 hD_439 hS_439 2 0 rfl rfl (by omega) (by omega) dX2_mix_218 (fun H_441 locs_441 hP_441 hD_441 hS_441 => ?_)
    replace hP_441 : va_P E.1 vwCl [(h, .inr (4, [.ref qw, .ref qs])), (qw, .inl (E.2.1, 64, .inl wd)), (qs, .inl (E.2.1, 8, .inl (upd st 0 ((st 0) + z_439.1))))] H_441 := hP_441
    replace hD_441 : va_D A [(h, .inr (4, [.ref qw, .ref qs])), (qw, .inl (E.2.1, 64, .inl wd)), (qs, .inl (E.2.1, 8, .inl (upd st 0 ((st 0) + z_439.1))))] := hD_441
    clear hP_439 hD_439 hS_439
    refine lv_aload_n hx hb dX2_mix_219 rfl (lv_at hl_439 9 rfl) ?_
    refine va_get (D := E.1) (ci := 4) (v := .ref qs) (C := RX2) (T := TX2) (N := 2) hx hb hts in_X2 hown hK hP_441 0 rfl rfl 1 (by decide) w_0 (fun _ h9 => h9) rfl dX2_mix_220 ?_
    refine lv_iconst (v := 1) hx hb dX2_mix_223 (by decide) ?_
    refine lv_dup2_11 hx hb dX2_mix_224 rfl rfl ?_
    refine g_iald (e0 := 1) hx hb hK hP_441 2 0 rfl rfl (by omega) (by omega) dX2_mix_225 ?_
    refine lv_iload_n hx hb dX2_mix_226 rfl (lv_at hl_439 7 rfl) ?_
    refine lv_iadd hx hb dX2_mix_227 ?_
    refine g_iast (e0 := 1) hx hb hK hP_441 hD_441 hS_441 2 0 rfl rfl (by omega) (by omega) dX2_mix_228 (fun H_442 locs_442 hP_442 hD_442 hS_442 => ?_)
    replace hP_442 : va_P E.1 vwCl [(h, .inr (4, [.ref qw, .ref qs])), (qw, .inl (E.2.1, 64, .inl wd)), (qs, .inl (E.2.1, 8, .inl (upd (upd st 0 ((st 0) + z_439.1)) 1 (((upd st 0 ((st 0) + z_439.1)) 1) + z_439.2.1))))] H_442 := hP_442
    replace hD_442 : va_D A [(h, .inr (4, [.ref qw, .ref qs])), (qw, .inl (E.2.1, 64, .inl wd)), (qs, .inl (E.2.1, 8, .inl (upd (upd st 0 ((st 0) + z_439.1)) 1 (((upd st 0 ((st 0) + z_439.1)) 1) + z_439.2.1))))] := hD_442
    clear hP_441 hD_441 hS_441
    refine lv_aload_n hx hb dX2_mix_229 rfl (lv_at hl_439 9 rfl) ?_
    refine va_get (D := E.1) (ci := 4) (v := .ref qs) (C := RX2) (T := TX2) (N := 2) hx hb hts in_X2 hown hK hP_442 0 rfl rfl 1 (by decide) w_0 (fun _ h9 => h9) rfl dX2_mix_230 ?_
    refine lv_iconst (v := 2) hx hb dX2_mix_233 (by decide) ?_
    refine lv_dup2_11 hx hb dX2_mix_234 rfl rfl ?_
    refine g_iald (e0 := 2) hx hb hK hP_442 2 0 rfl rfl (by omega) (by omega) dX2_mix_235 ?_
    refine lv_iload_n hx hb dX2_mix_236 rfl (lv_at hl_439 6 rfl) ?_
    refine lv_iadd hx hb dX2_mix_237 ?_
    refine lv_topi (fun v_443 ev_443 => ?_)
    refine g_iast (e0 := 2) hx hb hK hP_442 hD_442 hS_442 2 0 rfl rfl (by omega) (by omega) dX2_mix_238 (fun H_444 locs_444 hP_444 hD_444 hS_444 => ?_)
    replace hP_444 : va_P E.1 vwCl [(h, .inr (4, [.ref qw, .ref qs])), (qw, .inl (E.2.1, 64, .inl wd)), (qs, .inl (E.2.1, 8, .inl (upd (upd (upd st 0 ((st 0) + z_439.1)) 1 (((upd st 0 ((st 0) + z_439.1)) 1) + z_439.2.1)) 2 v_443)))] H_444 := hP_444
    replace hD_444 : va_D A [(h, .inr (4, [.ref qw, .ref qs])), (qw, .inl (E.2.1, 64, .inl wd)), (qs, .inl (E.2.1, 8, .inl (upd (upd (upd st 0 ((st 0) + z_439.1)) 1 (((upd st 0 ((st 0) + z_439.1)) 1) + z_439.2.1)) 2 v_443)))] := hD_444
    clear hP_442 hD_442 hS_442
    refine lv_aload_n hx hb dX2_mix_239 rfl (lv_at hl_439 9 rfl) ?_
    refine va_get (D := E.1) (ci := 4) (v := .ref qs) (C := RX2) (T := TX2) (N := 2) hx hb hts in_X2 hown hK hP_444 0 rfl rfl 1 (by decide) w_0 (fun _ h9 => h9) rfl dX2_mix_240 ?_
    refine lv_iconst (v := 3) hx hb dX2_mix_243 (by decide) ?_
    refine lv_dup2_11 hx hb dX2_mix_244 rfl rfl ?_
    refine g_iald (e0 := 3) hx hb hK hP_444 2 0 rfl rfl (by omega) (by omega) dX2_mix_245 ?_
    refine lv_iload hx hb dX2_mix_246 (lv_at hl_439 5 rfl) ?_
    refine lv_iadd hx hb dX2_mix_248 ?_
    refine lv_topi (fun v_445 ev_445 => ?_)
    refine g_iast (e0 := 3) hx hb hK hP_444 hD_444 hS_444 2 0 rfl rfl (by omega) (by omega) dX2_mix_249 (fun H_446 locs_446 hP_446 hD_446 hS_446 => ?_)
    replace hP_446 : va_P E.1 vwCl [(h, .inr (4, [.ref qw, .ref qs])), (qw, .inl (E.2.1, 64, .inl wd)), (qs, .inl (E.2.1, 8, .inl (upd (upd (upd (upd st 0 ((st 0) + z_439.1)) 1 (((upd st 0 ((st 0) + z_439.1)) 1) + z_439.2.1)) 2 v_443) 3 v_445)))] H_446 := hP_446
    replace hD_446 : va_D A [(h, .inr (4, [.ref qw, .ref qs])), (qw, .inl (E.2.1, 64, .inl wd)), (qs, .inl (E.2.1, 8, .inl (upd (upd (upd (upd st 0 ((st 0) + z_439.1)) 1 (((upd st 0 ((st 0) + z_439.1)) 1) + z_439.2.1)) 2 v_443) 3 v_445)))] := hD_446
    clear hP_444 hD_444 hS_444
    refine lv_aload_n hx hb dX2_mix_250 rfl (lv_at hl_439 9 rfl) ?_
    refine va_get (D := E.1) (ci := 4) (v := .ref qs) (C := RX2) (T := TX2) (N := 2) hx hb hts in_X2 hown hK hP_446 0 rfl rfl 1 (by decide) w_0 (fun _ h9 => h9) rfl dX2_mix_251 ?_
    refine lv_iconst (v := 4) hx hb dX2_mix_254 (by decide) ?_
    refine lv_dup2_11 hx hb dX2_mix_255 rfl rfl ?_
    refine g_iald (e0 := 4) hx hb hK hP_446 2 0 rfl rfl (by omega) (by omega) dX2_mix_256 ?_
    refine lv_iload hx hb dX2_mix_257 (lv_at hl_439 4 rfl) ?_
    refine lv_iadd hx hb dX2_mix_259 ?_
    refine lv_topi (fun v_447 ev_447 => ?_)
    refine g_iast (e0 := 4) hx hb hK hP_446 hD_446 hS_446 2 0 rfl rfl (by omega) (by omega) dX2_mix_260 (fun H_448 locs_448 hP_448 hD_448 hS_448 => ?_)
    replace hP_448 : va_P E.1 vwCl [(h, .inr (4, [.ref qw, .ref qs])), (qw, .inl (E.2.1, 64, .inl wd)), (qs, .inl (E.2.1, 8, .inl (upd (upd (upd (upd (upd st 0 ((st 0) + z_439.1)) 1 (((upd st 0 ((st 0) + z_439.1)) 1) + z_439.2.1)) 2 v_443) 3 v_445) 4 v_447)))] H_448 := hP_448
    replace hD_448 : va_D A [(h, .inr (4, [.ref qw, .ref qs])), (qw, .inl (E.2.1, 64, .inl wd)), (qs, .inl (E.2.1, 8, .inl (upd (upd (upd (upd (upd st 0 ((st 0) + z_439.1)) 1 (((upd st 0 ((st 0) + z_439.1)) 1) + z_439.2.1)) 2 v_443) 3 v_445) 4 v_447)))] := hD_448
    clear hP_446 hD_446 hS_446
    refine lv_aload_n hx hb dX2_mix_261 rfl (lv_at hl_439 9 rfl) ?_
    refine va_get (D := E.1) (ci := 4) (v := .ref qs) (C := RX2) (T := TX2) (N := 2) hx hb hts in_X2 hown hK hP_448 0 rfl rfl 1 (by decide) w_0 (fun _ h9 => h9) rfl dX2_mix_262 ?_
    refine lv_iconst (v := 5) hx hb dX2_mix_265 (by decide) ?_
    refine lv_dup2_11 hx hb dX2_mix_266 rfl rfl ?_
    refine g_iald (e0 := 5) hx hb hK hP_448 2 0 rfl rfl (by omega) (by omega) dX2_mix_267 ?_
    refine lv_iload hx hb dX2_mix_268 (lv_at hl_439 3 rfl) ?_
    refine lv_iadd hx hb dX2_mix_270 ?_
    refine lv_topi (fun v_449 ev_449 => ?_)
    refine g_iast (e0 := 5) hx hb hK hP_448 hD_448 hS_448 2 0 rfl rfl (by omega) (by omega) dX2_mix_271 (fun H_450 locs_450 hP_450 hD_450 hS_450 => ?_)
    replace hP_450 : va_P E.1 vwCl [(h, .inr (4, [.ref qw, .ref qs])), (qw, .inl (E.2.1, 64, .inl wd)), (qs, .inl (E.2.1, 8, .inl (upd (upd (upd (upd (upd (upd st 0 ((st 0) + z_439.1)) 1 (((upd st 0 ((st 0) + z_439.1)) 1) + z_439.2.1)) 2 v_443) 3 v_445) 4 v_447) 5 v_449)))] H_450 := hP_450
    replace hD_450 : va_D A [(h, .inr (4, [.ref qw, .ref qs])), (qw, .inl (E.2.1, 64, .inl wd)), (qs, .inl (E.2.1, 8, .inl (upd (upd (upd (upd (upd (upd st 0 ((st 0) + z_439.1)) 1 (((upd st 0 ((st 0) + z_439.1)) 1) + z_439.2.1)) 2 v_443) 3 v_445) 4 v_447) 5 v_449)))] := hD_450
    clear hP_448 hD_448 hS_448
    refine lv_aload_n hx hb dX2_mix_272 rfl (lv_at hl_439 9 rfl) ?_
    refine va_get (D := E.1) (ci := 4) (v := .ref qs) (C := RX2) (T := TX2) (N := 2) hx hb hts in_X2 hown hK hP_450 0 rfl rfl 1 (by decide) w_0 (fun _ h9 => h9) rfl dX2_mix_273 ?_
    refine lv_bipush (v := 6) hx hb dX2_mix_276 (by decide) ?_
    refine lv_dup2_11 hx hb dX2_mix_278 rfl rfl ?_
    refine g_iald (e0 := 6) hx hb hK hP_450 2 0 rfl rfl (by omega) (by omega) dX2_mix_279 ?_
    refine lv_iload hx hb dX2_mix_280 (lv_at hl_439 2 rfl) ?_
    refine lv_iadd hx hb dX2_mix_282 ?_
    refine lv_topi (fun v_451 ev_451 => ?_)
    refine g_iast (e0 := 6) hx hb hK hP_450 hD_450 hS_450 2 0 rfl rfl (by omega) (by omega) dX2_mix_283 (fun H_452 locs_452 hP_452 hD_452 hS_452 => ?_)
    replace hP_452 : va_P E.1 vwCl [(h, .inr (4, [.ref qw, .ref qs])), (qw, .inl (E.2.1, 64, .inl wd)), (qs, .inl (E.2.1, 8, .inl (upd (upd (upd (upd (upd (upd (upd st 0 ((st 0) + z_439.1)) 1 (((upd st 0 ((st 0) + z_439.1)) 1) + z_439.2.1)) 2 v_443) 3 v_445) 4 v_447) 5 v_449) 6 v_451)))] H_452 := hP_452
    replace hD_452 : va_D A [(h, .inr (4, [.ref qw, .ref qs])), (qw, .inl (E.2.1, 64, .inl wd)), (qs, .inl (E.2.1, 8, .inl (upd (upd (upd (upd (upd (upd (upd st 0 ((st 0) + z_439.1)) 1 (((upd st 0 ((st 0) + z_439.1)) 1) + z_439.2.1)) 2 v_443) 3 v_445) 4 v_447) 5 v_449) 6 v_451)))] := hD_452
    clear hP_450 hD_450 hS_450
    refine lv_aload_n hx hb dX2_mix_284 rfl (lv_at hl_439 9 rfl) ?_
    refine va_get (D := E.1) (ci := 4) (v := .ref qs) (C := RX2) (T := TX2) (N := 2) hx hb hts in_X2 hown hK hP_452 0 rfl rfl 1 (by decide) w_0 (fun _ h9 => h9) rfl dX2_mix_285 ?_
    refine lv_bipush (v := 7) hx hb dX2_mix_288 (by decide) ?_
    refine lv_dup2_11 hx hb dX2_mix_290 rfl rfl ?_
    refine g_iald (e0 := 7) hx hb hK hP_452 2 0 rfl rfl (by omega) (by omega) dX2_mix_291 ?_
    refine lv_iload hx hb dX2_mix_292 (lv_at hl_439 1 rfl) ?_
    refine lv_iadd hx hb dX2_mix_294 ?_
    refine lv_topi (fun v_453 ev_453 => ?_)
    refine g_iast (e0 := 7) hx hb hK hP_452 hD_452 hS_452 2 0 rfl rfl (by omega) (by omega) dX2_mix_295 (fun H_454 locs_454 hP_454 hD_454 hS_454 => ?_)
    replace hP_454 : va_P E.1 vwCl [(h, .inr (4, [.ref qw, .ref qs])), (qw, .inl (E.2.1, 64, .inl wd)), (qs, .inl (E.2.1, 8, .inl (upd (upd (upd (upd (upd (upd (upd (upd st 0 ((st 0) + z_439.1)) 1 (((upd st 0 ((st 0) + z_439.1)) 1) + z_439.2.1)) 2 v_443) 3 v_445) 4 v_447) 5 v_449) 6 v_451) 7 v_453)))] H_454 := hP_454
    replace hD_454 : va_D A [(h, .inr (4, [.ref qw, .ref qs])), (qw, .inl (E.2.1, 64, .inl wd)), (qs, .inl (E.2.1, 8, .inl (upd (upd (upd (upd (upd (upd (upd (upd st 0 ((st 0) + z_439.1)) 1 (((upd st 0 ((st 0) + z_439.1)) 1) + z_439.2.1)) 2 v_443) 3 v_445) 4 v_447) 5 v_449) 6 v_451) 7 v_453)))] := hD_454
    clear hP_452 hD_452 hS_452
    have hpost : ((upd (upd (upd (upd (upd (upd (upd (upd st 0 ((st 0) + z_439.1)) 1 (((upd st 0 ((st 0) + z_439.1)) 1) + z_439.2.1)) 2 v_443) 3 v_445) 4 v_447) 5 v_449) 6 v_451) 7 v_453) : Nat → Int32) = F_X2_mix wd st := (show F_X2_mix wd st = ((upd (upd (upd (upd (upd (upd (upd (upd st 0 ((st 0) + z_439.1)) 1 (((upd st 0 ((st 0) + z_439.1)) 1) + z_439.2.1)) 2 v_443) 3 v_445) 4 v_447) 5 v_449) 6 v_451) 7 v_453) : Nat → Int32) from (gLet_eq hz_439 (gLet_eq ev_443 (gLet_eq ev_445 (gLet_eq ev_447 (gLet_eq ev_449 (gLet_eq ev_451 (gLet_eq ev_453 rfl)))))))).symm
    have hP9 := hP_454.sub (ws' := [(h, .inr (4, [.ref qw, .ref qs])), (qw, .inl (E.2.1, 64, .inl wd)), (qs, .inl (E.2.1, 8, .inl (upd (upd (upd (upd (upd (upd (upd (upd st 0 ((st 0) + z_439.1)) 1 (((upd st 0 ((st 0) + z_439.1)) 1) + z_439.2.1)) 2 v_443) 3 v_445) 4 v_447) 5 v_449) 6 v_451) 7 v_453)))]) [0, 1, 2] rfl
    have hD9 := hD_454.sub (ws' := [(h, .inr (4, [.ref qw, .ref qs])), (qw, .inl (E.2.1, 64, .inl wd)), (qs, .inl (E.2.1, 8, .inl (upd (upd (upd (upd (upd (upd (upd (upd st 0 ((st 0) + z_439.1)) 1 (((upd st 0 ((st 0) + z_439.1)) 1) + z_439.2.1)) 2 v_443) 3 v_445) 4 v_447) 5 v_449) 6 v_451) 7 v_453)))]) [0, 1, 2] (by decide) rfl
    exact W.vret hx hb hr (fun t ht hW => ⟨⟨(upd (upd (upd (upd (upd (upd (upd (upd st 0 ((st 0) + z_439.1)) 1 (((upd st 0 ((st 0) + z_439.1)) 1) + z_439.2.1)) 2 v_443) 3 v_445) 4 v_447) 5 v_449) 6 v_451) 7 v_453), rfl, hpost, by rw [ht]; exact hP9, hD9⟩, hS_454.F ht⟩) hS_454.2.2 dX2_mix_296
set_option maxHeartbeats 4000000 in
set_option maxRecDepth 100000 in
theorem k_X2_sum (E : gE) (l : Launch) (h h2 h3 qw qs a2 a3 : Nat) (n2 : Nat) (n3 : Nat) (wd : Nat → Int32) (st : Nat → Int32) (q : gRow) (d : gRow) (hn2 : n2 < 2147483648) (hn3 : n3 < 2147483648) : gMv E l yX2_sum wsX2_sum ({ frames := 2, cells := 0, slots := 0, locals := 54 }) 0 0 [.ref h, .ref h2, .ref h3] [(h, .inr (4, [.ref qw, .ref qs])), (qw, .inl (E.2.1, 64, .inl wd)), (qs, .inl (E.2.1, 8, .inl st)), (h2, .inr (6, [.ref a2, .int q.1])), (a2, .inl (E.2.1, n2, .inl q.2)), (h3, .inr (6, [.ref a3, .int d.1])), (a3, .inl (E.2.1, n3, .inl d.2))] (fun (uu : (Nat → Int32) × (Nat → Int32) × gRow) => uu = F_X2_sum n2 n3 wd st q d) (fun (uu : (Nat → Int32) × (Nat → Int32) × gRow) => [(h, .inr (4, [.ref qw, .ref qs])), (qw, .inl (E.2.1, 64, .inl uu.1)), (qs, .inl (E.2.1, 8, .inl uu.2.1)), (h2, .inr (6, [.ref a2, .int q.1])), (a2, .inl (E.2.1, n2, .inl q.2)), (h3, .inr (6, [.ref a3, .int uu.2.2.1])), (a3, .inl (E.2.1, n3, .inl uu.2.2.2))]) := by
  intro sz
  refine Met.ofW (cc := cX2_sum) (maxL := 6) (ret := none) (by decide) rfl ?_
  intro p e s m args below meth c s₁ B hml hv
  obtain ⟨rfl, hsz, hP, hV, hD0⟩ := hv
  have hx := B.exec
  have hb := B.bytes
  have hr := B.returns
  have hts := atoms_spec (ws := wsX2_sum) B.pre
  have hown : s.vm.findClass RX2 = some m.cls := findClass_of_methodNamed B.named
  have hlocks := B.notSynchronized
  subst hsz
  have hD := hD0.self (sz := s.heap.size)
  clear hD0
  generalize hAe : va_A [(h, .inr (4, [.ref qw, .ref qs])), (qw, .inl (E.2.1, 64, .inl wd)), (qs, .inl (E.2.1, 8, .inl st)), (h2, .inr (6, [.ref a2, .int q.1])), (a2, .inl (E.2.1, n2, .inl q.2)), (h3, .inr (6, [.ref a3, .int d.1])), (a3, .inl (E.2.1, n3, .inl d.2))] s.heap.size = A at hD hV ⊢
  have hA : ∀ q : Nat, s.heap.size ≤ q → A q := fun q h => by rw [← hAe]; exact Or.inr h
  have hS : va_S A s.heap s.heap [] := va_S.rf
  have hK := hV.1
  have hF : CallFix p m c cX2_sum 6 s _ wsX2_sum RX2 := ⟨hx, hb, hml, hown, hts⟩
  have hl := lv_entry [.ref h, .ref h2, .ref h3] (n := 6) (Nat.le_of_ble_eq_true rfl)
  rw [lg_entry_eq]
  generalize (lg_sl [.ref h, .ref h2, .ref h3] ++ List.replicate (6 - (lg_sl [.ref h, .ref h2, .ref h3]).length) Slot.unset).toArray = ls at hl ⊢
  have hl : lv_has ls 6 [(0, .ref h), (1, .ref h2), (2, .ref h3)] := hl
  have in_X2 : ∀ w ∈ wsX20, w ∈ wsX2_sum := by decide +kernel
  have w_0 := hts (.fieldLink RX2 13 "CryptRows$Great" "state" "[I") (by decide +kernel)
  have w_1 := hts (.fieldLink RX2 16 "CryptRows$Great" "FIRST" "[I") (by decide +kernel)
  have w_2 := hts (.fieldLink RX2 7 "CryptRows$Great" "words" "[I") (by decide +kernel)
  refine lv_iconst (v := 0) hx hb dX2_sum_0 (by decide) ?_
  refine lv_istore_n (lv' := [(3, .int 0), (0, .ref h), (1, .ref h2), (2, .ref h3)]) hx hb dX2_sum_1 rfl hl (by decide) rfl (fun ls_407 hl_407 => ?_)
  clear hl
  refine g_up (N := 8) B_X2_sum_2 (st : Nat → Int32) (Inv := fun i_0 z_423 H_0 locs_0 ls_0 => lv_has ls_0 6 [(3, .int (nI i_0)), (0, .ref h), (1, .ref h2), (2, .ref h3)] ∧ va_P E.1 vwCl [(h, .inr (4, [.ref qw, .ref qs])), (qw, .inl (E.2.1, 64, .inl wd)), (qs, .inl (E.2.1, 8, .inl z_423)), (h2, .inr (6, [.ref a2, .int q.1])), (a2, .inl (E.2.1, n2, .inl q.2)), (h3, .inr (6, [.ref a3, .int d.1])), (a3, .inl (E.2.1, n3, .inl d.2))] H_0 ∧ va_D A [(h, .inr (4, [.ref qw, .ref qs])), (qw, .inl (E.2.1, 64, .inl wd)), (qs, .inl (E.2.1, 8, .inl z_423)), (h2, .inr (6, [.ref a2, .int q.1])), (a2, .inl (E.2.1, n2, .inl q.2)), (h3, .inr (6, [.ref a3, .int d.1])), (a3, .inl (E.2.1, n3, .inl d.2))] ∧ va_S A s.heap H_0 locs_0) (G := fun H_0 locs_0 ls_0 => W _ _ _ _ _ _ _ _ _ _ H_0 locs_0 _ _ _ (F0 _ 2 ls_0 [])) ?_ ?_ ⟨lv_sub hl_407 [0, 1, 2, 3] rfl, hP, hD, hS⟩
  · intro j_424 i_424 z_424 H_424 locs_424 ls_424 hij_424 hz_424 hI_424 ih_424
    obtain ⟨hl_424, hP_424, hD_424, hS_424⟩ := hI_424
    replace hl_424 : lv_has ls_424 6 [(3, .int (nI i_424)), (0, .ref h), (1, .ref h2), (2, .ref h3)] := hl_424
    replace hP_424 : va_P E.1 vwCl [(h, .inr (4, [.ref qw, .ref qs])), (qw, .inl (E.2.1, 64, .inl wd)), (qs, .inl (E.2.1, 8, .inl z_424)), (h2, .inr (6, [.ref a2, .int q.1])), (a2, .inl (E.2.1, n2, .inl q.2)), (h3, .inr (6, [.ref a3, .int d.1])), (a3, .inl (E.2.1, n3, .inl d.2))] H_424 := hP_424
    replace hD_424 : va_D A [(h, .inr (4, [.ref qw, .ref qs])), (qw, .inl (E.2.1, 64, .inl wd)), (qs, .inl (E.2.1, 8, .inl z_424)), (h2, .inr (6, [.ref a2, .int q.1])), (a2, .inl (E.2.1, n2, .inl q.2)), (h3, .inr (6, [.ref a3, .int d.1])), (a3, .inl (E.2.1, n3, .inl d.2))] := hD_424
    clear hl_407 hP hD hS
    refine lv_iload_n hx hb dX2_sum_2 rfl (lv_at hl_424 0 rfl) ?_
    refine lv_bipush (v := 8) hx hb dX2_sum_3 (by decide) ?_
    refine lv_icmp_ge (tgt := 25) hx hb dX2_sum_5 (by decide) (fun c_425 => (by have c_425 := (nI_leI (a := 8) (b := i_424) (by omega) (by omega)).mp c_425; exfalso; omega)) (fun c_425 => ?_)
    replace c_425 : ¬ 8 ≤ i_424 := (not_congr (nI_leI (a := 8) (b := i_424) (by omega) (by omega))).mp c_425
    refine lv_aload_n hx hb dX2_sum_8 rfl (lv_at hl_424 1 rfl) ?_
    refine va_get (D := E.1) (ci := 4) (v := .ref qs) (C := RX2) (T := TX2) (N := 2) hx hb hts in_X2 hown hK hP_424 0 rfl rfl 1 (by decide) w_0 (fun _ h9 => h9) rfl dX2_sum_9 ?_
    refine lv_iload_n hx hb dX2_sum_12 rfl (lv_at hl_424 0 rfl) ?_
    refine va_gets (v := .ref (E.2.2.2 4)) hx hb (hV.2.2 4 (by decide)).1 hS_424 hown w_1 (fun _ h9 => h9) dX2_sum_13 ?_
    refine lv_iload_n hx hb dX2_sum_16 rfl (lv_at hl_424 0 rfl) ?_
    refine va_ti (v := .int (gTf 4 i_424)) hx hb (hV.2.2 4 (by decide)).2 hS_424 (vp_in_nI (n := i_424) (N := 8) (by omega) (by omega)) (g_tv (by omega)) dX2_sum_17 ?_
    refine g_iast (e0 := i_424) hx hb hK hP_424 hD_424 hS_424 2 0 rfl rfl (by omega) (by omega) dX2_sum_18 (fun H_426 locs_426 hP_426 hD_426 hS_426 => ?_)
    replace hP_426 : va_P E.1 vwCl [(h, .inr (4, [.ref qw, .ref qs])), (qw, .inl (E.2.1, 64, .inl wd)), (qs, .inl (E.2.1, 8, .inl (upd z_424 i_424 (gTf 4 i_424)))), (h2, .inr (6, [.ref a2, .int q.1])), (a2, .inl (E.2.1, n2, .inl q.2)), (h3, .inr (6, [.ref a3, .int d.1])), (a3, .inl (E.2.1, n3, .inl d.2))] H_426 := hP_426
    replace hD_426 : va_D A [(h, .inr (4, [.ref qw, .ref qs])), (qw, .inl (E.2.1, 64, .inl wd)), (qs, .inl (E.2.1, 8, .inl (upd z_424 i_424 (gTf 4 i_424)))), (h2, .inr (6, [.ref a2, .int q.1])), (a2, .inl (E.2.1, n2, .inl q.2)), (h3, .inr (6, [.ref a3, .int d.1])), (a3, .inl (E.2.1, n3, .inl d.2))] := hD_426
    clear hP_424 hD_424 hS_424
    refine lv_iinc (v := (nI (i_424 + 1))) (lv' := [(3, .int (nI (i_424 + 1))), (0, .ref h), (1, .ref h2), (2, .ref h3)]) hx hb dX2_sum_19 hl_424 (k := 0) rfl (nI_add _ 1) (by decide) rfl (fun ls_427 hl_427 => ?_)
    clear hl_424
    refine lv_goto (tgt := 2) hx hb dX2_sum_22 (by decide) ?_
    exact ih_424 ((upd z_424 i_424 (gTf 4 i_424)) : Nat → Int32) _ _ _ (((show B_X2_sum_2 i_424 z_424 = _ from rfl).symm.trans (congrArg (B_X2_sum_2 i_424) hz_424)).trans (itr_s _ _ _).symm) ⟨lv_sub hl_427 [0, 1, 2, 3] rfl, (hP_426.sub [0, 1, 2, 3, 4, 5, 6] rfl), (hD_426.sub [0, 1, 2, 3, 4, 5, 6] (by decide) rfl), hS_426⟩
  · intro z_428 H_428 locs_428 ls_428 hz_428 hI_428
    obtain ⟨hl_428, hP_428, hD_428, hS_428⟩ := hI_428
    replace hl_428 : lv_has ls_428 6 [(3, .int (nI 8)), (0, .ref h), (1, .ref h2), (2, .ref h3)] := hl_428
    replace hP_428 : va_P E.1 vwCl [(h, .inr (4, [.ref qw, .ref qs])), (qw, .inl (E.2.1, 64, .inl wd)), (qs, .inl (E.2.1, 8, .inl z_428)), (h2, .inr (6, [.ref a2, .int q.1])), (a2, .inl (E.2.1, n2, .inl q.2)), (h3, .inr (6, [.ref a3, .int d.1])), (a3, .inl (E.2.1, n3, .inl d.2))] H_428 := hP_428
    replace hD_428 : va_D A [(h, .inr (4, [.ref qw, .ref qs])), (qw, .inl (E.2.1, 64, .inl wd)), (qs, .inl (E.2.1, 8, .inl z_428)), (h2, .inr (6, [.ref a2, .int q.1])), (a2, .inl (E.2.1, n2, .inl q.2)), (h3, .inr (6, [.ref a3, .int d.1])), (a3, .inl (E.2.1, n3, .inl d.2))] := hD_428
    clear hl_407 hP hD hS
    refine lv_iload_n hx hb dX2_sum_2 rfl (lv_at hl_428 0 rfl) ?_
    refine lv_bipush (v := 8) hx hb dX2_sum_3 (by decide) ?_
    refine lv_icmp_ge (tgt := 25) hx hb dX2_sum_5 (by decide) (fun c_429 => ?_) (fun c_429 => (by have c_429 := (not_congr (nI_leI (a := 8) (b := 8) (by omega) (by omega))).mp c_429; exfalso; omega))
    replace c_429 : 8 ≤ 8 := (nI_leI (a := 8) (b := 8) (by omega) (by omega)).mp c_429
    refine lv_aload_n hx hb dX2_sum_25 rfl (lv_at hl_428 2 rfl) ?_
    refine gVi hF hl_428 hV hP_428 hD_428 hS_428 hA [3] [0, 1, 2, 4, 5, 6] (wc := [(h2, .inr (6, [.ref a2, .int q.1]))]) (wr := [(h, .inr (4, [.ref qw, .ref qs])), (qw, .inl (E.2.1, 64, .inl wd)), (qs, .inl (E.2.1, 8, .inl z_428)), (a2, .inl (E.2.1, n2, .inl q.2)), (h3, .inr (6, [.ref a3, .int d.1])), (a3, .inl (E.2.1, n3, .inl d.2))]) rfl rfl rfl (by decide) 0 6 rfl rfl rfl (k_X5_count E l h2 a2 q) (cwV 0 hts gX2_sum_X5_count rfl rfl rfl (by decide +kernel) ⟨Nat.le_of_ble_eq_true rfl, Nat.le_of_ble_eq_true rfl⟩) rfl rfl rfl (Nat.le_of_ble_eq_true rfl) dX2_sum_26 ⟨Nat.le_of_ble_eq_true rfl, Nat.le_of_ble_eq_true rfl⟩ (fun r_430 _ H_431 locs_431 hu_430 hP_431 hD_431 hS_431 => ?_)
    have er_430 : r_430 = F_X5_count q := hu_430
    clear hu_430
    replace hP_431 : va_P E.1 vwCl [(h, .inr (4, [.ref qw, .ref qs])), (qw, .inl (E.2.1, 64, .inl wd)), (qs, .inl (E.2.1, 8, .inl z_428)), (a2, .inl (E.2.1, n2, .inl q.2)), (h3, .inr (6, [.ref a3, .int d.1])), (a3, .inl (E.2.1, n3, .inl d.2)), (h2, .inr (6, [.ref a2, .int q.1]))] H_431 := hP_431
    replace hD_431 : va_D A [(h, .inr (4, [.ref qw, .ref qs])), (qw, .inl (E.2.1, 64, .inl wd)), (qs, .inl (E.2.1, 8, .inl z_428)), (a2, .inl (E.2.1, n2, .inl q.2)), (h3, .inr (6, [.ref a3, .int d.1])), (a3, .inl (E.2.1, n3, .inl d.2)), (h2, .inr (6, [.ref a2, .int q.1]))] := hD_431
    clear hP_428 hD_428 hS_428
    refine lv_bipush (v := 8) hx hb dX2_sum_29 (by decide) ?_
    refine lv_iadd hx hb dX2_sum_31 ?_
    refine lv_bipush (v := 64) hx hb dX2_sum_32 (by decide) ?_
    refine lv_idiv hx hb dX2_sum_34 (by decide) ?_
    refine lv_iconst (v := 1) hx hb dX2_sum_35 (by decide) ?_
    refine lv_iadd hx hb dX2_sum_36 ?_
    refine lv_istore_n (lv' := [(3, .int (((r_430 + 8) / 64) + 1)), (0, .ref h), (1, .ref h2), (2, .ref h3)]) hx hb dX2_sum_37 rfl hl_428 (by decide) rfl (fun ls_432 hl_432 => ?_)
    clear hl_428
    refine lv_iconst (v := 0) hx hb dX2_sum_38 (by decide) ?_
    refine lv_istore (lv' := [(4, .int 0), (3, .int (((r_430 + 8) / 64) + 1)), (0, .ref h), (1, .ref h2), (2, .ref h3)]) hx hb dX2_sum_39 hl_432 (by decide) rfl (fun ls_433 hl_433 => ?_)
    clear hl_432
    have hcl_494 := g_clamp_lt (((r_430 + 8) / 64) + 1)
    refine g_up (N := ((((r_430 + 8) / 64) + 1).toNatClampNeg)) (B_X2_sum_41 n2 q r_430) ((wd, z_428) : (Nat → Int32) × (Nat → Int32)) (Inv := fun i_0 z_495 H_0 locs_0 ls_0 => lv_has ls_0 6 [(4, .int (nI i_0)), (3, .int (((r_430 + 8) / 64) + 1)), (0, .ref h), (1, .ref h2), (2, .ref h3)] ∧ va_P E.1 vwCl [(h, .inr (4, [.ref qw, .ref qs])), (qw, .inl (E.2.1, 64, .inl z_495.1)), (qs, .inl (E.2.1, 8, .inl z_495.2)), (a2, .inl (E.2.1, n2, .inl q.2)), (h3, .inr (6, [.ref a3, .int d.1])), (a3, .inl (E.2.1, n3, .inl d.2)), (h2, .inr (6, [.ref a2, .int q.1]))] H_0 ∧ va_D A [(h, .inr (4, [.ref qw, .ref qs])), (qw, .inl (E.2.1, 64, .inl z_495.1)), (qs, .inl (E.2.1, 8, .inl z_495.2)), (a2, .inl (E.2.1, n2, .inl q.2)), (h3, .inr (6, [.ref a3, .int d.1])), (a3, .inl (E.2.1, n3, .inl d.2)), (h2, .inr (6, [.ref a2, .int q.1]))] ∧ va_S A s.heap H_0 locs_0) (G := fun H_0 locs_0 ls_0 => W _ _ _ _ _ _ _ _ _ _ H_0 locs_0 _ _ _ (F0 _ 41 ls_0 [])) ?_ ?_ ⟨lv_sub hl_433 [0, 1, 2, 3, 4] rfl, hP_431, hD_431, hS_431⟩
    · intro j_496 i_496 z_496 H_496 locs_496 ls_496 hij_496 hz_496 hI_496 ih_496
      obtain ⟨hl_496, hP_496, hD_496, hS_496⟩ := hI_496
      replace hl_496 : lv_has ls_496 6 [(4, .int (nI i_496)), (3, .int (((r_430 + 8) / 64) + 1)), (0, .ref h), (1, .ref h2), (2, .ref h3)] := hl_496
      replace hP_496 : va_P E.1 vwCl [(h, .inr (4, [.ref qw, .ref qs])), (qw, .inl (E.2.1, 64, .inl z_496.1)), (qs, .inl (E.2.1, 8, .inl z_496.2)), (a2, .inl (E.2.1, n2, .inl q.2)), (h3, .inr (6, [.ref a3, .int d.1])), (a3, .inl (E.2.1, n3, .inl d.2)), (h2, .inr (6, [.ref a2, .int q.1]))] H_496 := hP_496
      replace hD_496 : va_D A [(h, .inr (4, [.ref qw, .ref qs])), (qw, .inl (E.2.1, 64, .inl z_496.1)), (qs, .inl (E.2.1, 8, .inl z_496.2)), (a2, .inl (E.2.1, n2, .inl q.2)), (h3, .inr (6, [.ref a3, .int d.1])), (a3, .inl (E.2.1, n3, .inl d.2)), (h2, .inr (6, [.ref a2, .int q.1]))] := hD_496
      clear hl_433 hP_431 hD_431 hS_431
      refine lv_iload hx hb dX2_sum_41 (lv_at hl_496 0 rfl) ?_
      refine lv_iload_n hx hb dX2_sum_43 rfl (lv_at hl_496 1 rfl) ?_
      refine lv_icmp_ge (tgt := 93) hx hb dX2_sum_44 (by decide) (fun c_497 => (by have c_497 := (g_rle (by omega)).mp c_497; exfalso; omega)) (fun c_497 => ?_)
      replace c_497 : ¬ (((r_430 + 8) / 64) + 1).toNatClampNeg ≤ i_496 := (not_congr (g_rle (by omega))).mp c_497
      refine lv_aload_n hx hb dX2_sum_47 rfl (lv_at hl_496 2 rfl) ?_
      refine lv_aload_n hx hb dX2_sum_48 rfl (lv_at hl_496 3 rfl) ?_
      refine lv_bipush (v := 64) hx hb dX2_sum_49 (by decide) ?_
      refine lv_iload hx hb dX2_sum_51 (lv_at hl_496 0 rfl) ?_
      refine lv_imul hx hb dX2_sum_53 ?_
      refine lv_topi (fun y_498 ey_498 => ?_)
      obtain rfl : y_498 = (nI (64 * i_496)) := ey_498.trans (pk_mul _ _)
      refine gVv hF hl_496 hV hP_496 hD_496 hS_496 hA [0, 1, 6, 3] [2, 4, 5] (wc := [(h, .inr (4, [.ref qw, .ref qs])), (qw, .inl (E.2.1, 64, .inl z_496.1)), (h2, .inr (6, [.ref a2, .int q.1])), (a2, .inl (E.2.1, n2, .inl q.2))]) (wr := [(qs, .inl (E.2.1, 8, .inl z_496.2)), (h3, .inr (6, [.ref a3, .int d.1])), (a3, .inl (E.2.1, n3, .inl d.2))]) rfl rfl rfl (by decide) 0 4 rfl rfl rfl (k_X2_load E l h h2 qw qs a2 n2 z_496.1 q (nI (64 * i_496)) (by omega)) (cwV 2 hts gX2_sum_X2_load rfl rfl rfl (by decide +kernel) ⟨Nat.le_of_ble_eq_true rfl, Nat.le_of_ble_eq_true rfl⟩) rfl rfl rfl (Nat.le_of_ble_eq_true rfl) dX2_sum_54 ⟨Nat.le_of_ble_eq_true rfl, Nat.le_of_ble_eq_true rfl⟩ (fun u_499 H_500 locs_500 hu_499 hP_500 hD_500 hS_500 => ?_)
      replace hu_499 : u_499 = F_X2_load n2 z_496.1 q (nI (64 * i_496)) := hu_499
      replace hP_500 : va_P E.1 vwCl [(qs, .inl (E.2.1, 8, .inl z_496.2)), (h3, .inr (6, [.ref a3, .int d.1])), (a3, .inl (E.2.1, n3, .inl d.2)), (h, .inr (4, [.ref qw, .ref qs])), (qw, .inl (E.2.1, 64, .inl u_499)), (h2, .inr (6, [.ref a2, .int q.1])), (a2, .inl (E.2.1, n2, .inl q.2))] H_500 := hP_500
      replace hD_500 : va_D A [(qs, .inl (E.2.1, 8, .inl z_496.2)), (h3, .inr (6, [.ref a3, .int d.1])), (a3, .inl (E.2.1, n3, .inl d.2)), (h, .inr (4, [.ref qw, .ref qs])), (qw, .inl (E.2.1, 64, .inl u_499)), (h2, .inr (6, [.ref a2, .int q.1])), (a2, .inl (E.2.1, n2, .inl q.2))] := hD_500
      clear hP_496 hD_496 hS_496
      refine lv_iload hx hb dX2_sum_57 (lv_at hl_496 0 rfl) ?_
      refine lv_iload_n hx hb dX2_sum_59 rfl (lv_at hl_496 1 rfl) ?_
      refine lv_iconst (v := 1) hx hb dX2_sum_60 (by decide) ?_
      refine lv_isub hx hb dX2_sum_61 ?_
      refine lv_icmp_ne (tgt := 79) hx hb dX2_sum_62 (by decide) (fun c_501 => ?_) (fun c_501 => ?_)
      · replace c_501 : ¬ ((nI i_496) = ((((r_430 + 8) / 64) + 1) - 1)) := c_501
        refine lv_aload_n hx hb dX2_sum_79 rfl (lv_at hl_496 2 rfl) ?_
        refine gVv hF hl_496 hV hP_500 hD_500 hS_500 hA [3, 4] [0, 1, 2, 5, 6] (wc := [(h, .inr (4, [.ref qw, .ref qs])), (qw, .inl (E.2.1, 64, .inl u_499))]) (wr := [(qs, .inl (E.2.1, 8, .inl z_496.2)), (h3, .inr (6, [.ref a3, .int d.1])), (a3, .inl (E.2.1, n3, .inl d.2)), (h2, .inr (6, [.ref a2, .int q.1])), (a2, .inl (E.2.1, n2, .inl q.2))]) rfl rfl rfl (by decide) 0 4 rfl rfl rfl (k_X2_stretch E l h qw qs u_499) (cwV 0 hts gX2_sum_X2_stretch rfl rfl rfl (by decide +kernel) ⟨Nat.le_of_ble_eq_true rfl, Nat.le_of_ble_eq_true rfl⟩) rfl rfl rfl (Nat.le_of_ble_eq_true rfl) dX2_sum_80 ⟨Nat.le_of_ble_eq_true rfl, Nat.le_of_ble_eq_true rfl⟩ (fun u_502 H_503 locs_503 hu_502 hP_503 hD_503 hS_503 => ?_)
        replace hu_502 : u_502 = F_X2_stretch u_499 := hu_502
        replace hP_503 : va_P E.1 vwCl [(qs, .inl (E.2.1, 8, .inl z_496.2)), (h3, .inr (6, [.ref a3, .int d.1])), (a3, .inl (E.2.1, n3, .inl d.2)), (h2, .inr (6, [.ref a2, .int q.1])), (a2, .inl (E.2.1, n2, .inl q.2)), (h, .inr (4, [.ref qw, .ref qs])), (qw, .inl (E.2.1, 64, .inl u_502))] H_503 := hP_503
        replace hD_503 : va_D A [(qs, .inl (E.2.1, 8, .inl z_496.2)), (h3, .inr (6, [.ref a3, .int d.1])), (a3, .inl (E.2.1, n3, .inl d.2)), (h2, .inr (6, [.ref a2, .int q.1])), (a2, .inl (E.2.1, n2, .inl q.2)), (h, .inr (4, [.ref qw, .ref qs])), (qw, .inl (E.2.1, 64, .inl u_502))] := hD_503
        clear hP_500 hD_500 hS_500
        refine lv_aload_n hx hb dX2_sum_83 rfl (lv_at hl_496 2 rfl) ?_
        refine gVv hF hl_496 hV hP_503 hD_503 hS_503 hA [5, 6, 0] [1, 2, 3, 4] (wc := [(h, .inr (4, [.ref qw, .ref qs])), (qw, .inl (E.2.1, 64, .inl u_502)), (qs, .inl (E.2.1, 8, .inl z_496.2))]) (wr := [(h3, .inr (6, [.ref a3, .int d.1])), (a3, .inl (E.2.1, n3, .inl d.2)), (h2, .inr (6, [.ref a2, .int q.1])), (a2, .inl (E.2.1, n2, .inl q.2))]) rfl rfl rfl (by decide) 0 4 rfl rfl rfl (k_X2_mix E l h qw qs u_502 z_496.2) (cwV 0 hts gX2_sum_X2_mix rfl rfl rfl (by decide +kernel) ⟨Nat.le_of_ble_eq_true rfl, Nat.le_of_ble_eq_true rfl⟩) rfl rfl rfl (Nat.le_of_ble_eq_true rfl) dX2_sum_84 ⟨Nat.le_of_ble_eq_true rfl, Nat.le_of_ble_eq_true rfl⟩ (fun u_504 H_505 locs_505 hu_504 hP_505 hD_505 hS_505 => ?_)
        replace hu_504 : u_504 = F_X2_mix u_502 z_496.2 := hu_504
        replace hP_505 : va_P E.1 vwCl [(h3, .inr (6, [.ref a3, .int d.1])), (a3, .inl (E.2.1, n3, .inl d.2)), (h2, .inr (6, [.ref a2, .int q.1])), (a2, .inl (E.2.1, n2, .inl q.2)), (h, .inr (4, [.ref qw, .ref qs])), (qw, .inl (E.2.1, 64, .inl u_502)), (qs, .inl (E.2.1, 8, .inl u_504))] H_505 := hP_505
        replace hD_505 : va_D A [(h3, .inr (6, [.ref a3, .int d.1])), (a3, .inl (E.2.1, n3, .inl d.2)), (h2, .inr (6, [.ref a2, .int q.1])), (a2, .inl (E.2.1, n2, .inl q.2)), (h, .inr (4, [.ref qw, .ref qs])), (qw, .inl (E.2.1, 64, .inl u_502)), (qs, .inl (E.2.1, 8, .inl u_504))] := hD_505
        clear hP_503 hD_503 hS_503
        refine lv_iinc (v := (nI (i_496 + 1))) (lv' := [(4, .int (nI (i_496 + 1))), (3, .int (((r_430 + 8) / 64) + 1)), (0, .ref h), (1, .ref h2), (2, .ref h3)]) hx hb dX2_sum_87 hl_496 (k := 0) rfl (nI_add _ 1) (by decide) rfl (fun ls_506 hl_506 => ?_)
        clear hl_496
        refine lv_goto (tgt := 41) hx hb dX2_sum_90 (by decide) ?_
        exact ih_496 ((u_502, u_504) : (Nat → Int32) × (Nat → Int32)) _ _ _ (((show (B_X2_sum_41 n2 q r_430) i_496 z_496 = _ from (gLet_eq hu_499 ((if_neg c_501).trans (gLet_eq hu_502 (gLet_eq hu_504 rfl))))).symm.trans (congrArg ((B_X2_sum_41 n2 q r_430) i_496) hz_496)).trans (itr_s _ _ _).symm) ⟨lv_sub hl_506 [0, 1, 2, 3, 4] rfl, (hP_505.sub [4, 5, 6, 3, 0, 1, 2] rfl), (hD_505.sub [4, 5, 6, 3, 0, 1, 2] (by decide) rfl), hS_505⟩
      · replace c_501 : (nI i_496) = ((((r_430 + 8) / 64) + 1) - 1) := c_501
        refine lv_aload_n hx hb dX2_sum_65 rfl (lv_at hl_496 2 rfl) ?_
        refine va_get (D := E.1) (ci := 4) (v := .ref qw) (C := RX2) (T := TX2) (N := 2) hx hb hts in_X2 hown hK hP_500 3 rfl rfl 0 (by decide) w_2 (fun _ h9 => h9) rfl dX2_sum_66 ?_
        refine lv_bipush (v := 15) hx hb dX2_sum_69 (by decide) ?_
        refine lv_bipush (v := 8) hx hb dX2_sum_71 (by decide) ?_
        refine lv_aload_n hx hb dX2_sum_73 rfl (lv_at hl_496 3 rfl) ?_
        refine gVi hF hl_496 hV hP_500 hD_500 hS_500 hA [5] [0, 1, 2, 3, 4, 6] (wc := [(h2, .inr (6, [.ref a2, .int q.1]))]) (wr := [(qs, .inl (E.2.1, 8, .inl z_496.2)), (h3, .inr (6, [.ref a3, .int d.1])), (a3, .inl (E.2.1, n3, .inl d.2)), (h, .inr (4, [.ref qw, .ref qs])), (qw, .inl (E.2.1, 64, .inl u_499)), (a2, .inl (E.2.1, n2, .inl q.2))]) rfl rfl rfl (by decide) 0 6 rfl rfl rfl (k_X5_count E l h2 a2 q) (cwV 0 hts gX2_sum_X5_count rfl rfl rfl (by decide +kernel) ⟨Nat.le_of_ble_eq_true rfl, Nat.le_of_ble_eq_true rfl⟩) rfl rfl rfl (Nat.le_of_ble_eq_true rfl) dX2_sum_74 ⟨Nat.le_of_ble_eq_true rfl, Nat.le_of_ble_eq_true rfl⟩ (fun r_507 _ H_508 locs_508 hu_507 hP_508 hD_508 hS_508 => ?_)
        have er_507 : r_507 = F_X5_count q := hu_507
        clear hu_507
        replace hP_508 : va_P E.1 vwCl [(qs, .inl (E.2.1, 8, .inl z_496.2)), (h3, .inr (6, [.ref a3, .int d.1])), (a3, .inl (E.2.1, n3, .inl d.2)), (h, .inr (4, [.ref qw, .ref qs])), (qw, .inl (E.2.1, 64, .inl u_499)), (a2, .inl (E.2.1, n2, .inl q.2)), (h2, .inr (6, [.ref a2, .int q.1]))] H_508 := hP_508
        replace hD_508 : va_D A [(qs, .inl (E.2.1, 8, .inl z_496.2)), (h3, .inr (6, [.ref a3, .int d.1])), (a3, .inl (E.2.1, n3, .inl d.2)), (h, .inr (4, [.ref qw, .ref qs])), (qw, .inl (E.2.1, 64, .inl u_499)), (a2, .inl (E.2.1, n2, .inl q.2)), (h2, .inr (6, [.ref a2, .int q.1]))] := hD_508
        clear hP_500 hD_500 hS_500
        refine lv_imul hx hb dX2_sum_77 ?_
        refine g_iast (e0 := 15) hx hb hK hP_508 hD_508 hS_508 4 0 rfl rfl (by omega) (by omega) dX2_sum_78 (fun H_509 locs_509 hP_509 hD_509 hS_509 => ?_)
        replace hP_509 : va_P E.1 vwCl [(qs, .inl (E.2.1, 8, .inl z_496.2)), (h3, .inr (6, [.ref a3, .int d.1])), (a3, .inl (E.2.1, n3, .inl d.2)), (h, .inr (4, [.ref qw, .ref qs])), (qw, .inl (E.2.1, 64, .inl (upd u_499 15 (8 * r_507)))), (a2, .inl (E.2.1, n2, .inl q.2)), (h2, .inr (6, [.ref a2, .int q.1]))] H_509 := hP_509
        replace hD_509 : va_D A [(qs, .inl (E.2.1, 8, .inl z_496.2)), (h3, .inr (6, [.ref a3, .int d.1])), (a3, .inl (E.2.1, n3, .inl d.2)), (h, .inr (4, [.ref qw, .ref qs])), (qw, .inl (E.2.1, 64, .inl (upd u_499 15 (8 * r_507)))), (a2, .inl (E.2.1, n2, .inl q.2)), (h2, .inr (6, [.ref a2, .int q.1]))] := hD_509
        clear hP_508 hD_508 hS_508
        refine lv_aload_n hx hb dX2_sum_79 rfl (lv_at hl_496 2 rfl) ?_
        refine gVv hF hl_496 hV hP_509 hD_509 hS_509 hA [3, 4] [0, 1, 2, 5, 6] (wc := [(h, .inr (4, [.ref qw, .ref qs])), (qw, .inl (E.2.1, 64, .inl (upd u_499 15 (8 * r_507))))]) (wr := [(qs, .inl (E.2.1, 8, .inl z_496.2)), (h3, .inr (6, [.ref a3, .int d.1])), (a3, .inl (E.2.1, n3, .inl d.2)), (a2, .inl (E.2.1, n2, .inl q.2)), (h2, .inr (6, [.ref a2, .int q.1]))]) rfl rfl rfl (by decide) 0 4 rfl rfl rfl (k_X2_stretch E l h qw qs (upd u_499 15 (8 * r_507))) (cwV 0 hts gX2_sum_X2_stretch rfl rfl rfl (by decide +kernel) ⟨Nat.le_of_ble_eq_true rfl, Nat.le_of_ble_eq_true rfl⟩) rfl rfl rfl (Nat.le_of_ble_eq_true rfl) dX2_sum_80 ⟨Nat.le_of_ble_eq_true rfl, Nat.le_of_ble_eq_true rfl⟩ (fun u_510 H_511 locs_511 hu_510 hP_511 hD_511 hS_511 => ?_)
        replace hu_510 : u_510 = F_X2_stretch (upd u_499 15 (8 * r_507)) := hu_510
        replace hP_511 : va_P E.1 vwCl [(qs, .inl (E.2.1, 8, .inl z_496.2)), (h3, .inr (6, [.ref a3, .int d.1])), (a3, .inl (E.2.1, n3, .inl d.2)), (a2, .inl (E.2.1, n2, .inl q.2)), (h2, .inr (6, [.ref a2, .int q.1])), (h, .inr (4, [.ref qw, .ref qs])), (qw, .inl (E.2.1, 64, .inl u_510))] H_511 := hP_511
        replace hD_511 : va_D A [(qs, .inl (E.2.1, 8, .inl z_496.2)), (h3, .inr (6, [.ref a3, .int d.1])), (a3, .inl (E.2.1, n3, .inl d.2)), (a2, .inl (E.2.1, n2, .inl q.2)), (h2, .inr (6, [.ref a2, .int q.1])), (h, .inr (4, [.ref qw, .ref qs])), (qw, .inl (E.2.1, 64, .inl u_510))] := hD_511
        clear hP_509 hD_509 hS_509
        refine lv_aload_n hx hb dX2_sum_83 rfl (lv_at hl_496 2 rfl) ?_
        refine gVv hF hl_496 hV hP_511 hD_511 hS_511 hA [5, 6, 0] [1, 2, 3, 4] (wc := [(h, .inr (4, [.ref qw, .ref qs])), (qw, .inl (E.2.1, 64, .inl u_510)), (qs, .inl (E.2.1, 8, .inl z_496.2))]) (wr := [(h3, .inr (6, [.ref a3, .int d.1])), (a3, .inl (E.2.1, n3, .inl d.2)), (a2, .inl (E.2.1, n2, .inl q.2)), (h2, .inr (6, [.ref a2, .int q.1]))]) rfl rfl rfl (by decide) 0 4 rfl rfl rfl (k_X2_mix E l h qw qs u_510 z_496.2) (cwV 0 hts gX2_sum_X2_mix rfl rfl rfl (by decide +kernel) ⟨Nat.le_of_ble_eq_true rfl, Nat.le_of_ble_eq_true rfl⟩) rfl rfl rfl (Nat.le_of_ble_eq_true rfl) dX2_sum_84 ⟨Nat.le_of_ble_eq_true rfl, Nat.le_of_ble_eq_true rfl⟩ (fun u_512 H_513 locs_513 hu_512 hP_513 hD_513 hS_513 => ?_)
        replace hu_512 : u_512 = F_X2_mix u_510 z_496.2 := hu_512
        replace hP_513 : va_P E.1 vwCl [(h3, .inr (6, [.ref a3, .int d.1])), (a3, .inl (E.2.1, n3, .inl d.2)), (a2, .inl (E.2.1, n2, .inl q.2)), (h2, .inr (6, [.ref a2, .int q.1])), (h, .inr (4, [.ref qw, .ref qs])), (qw, .inl (E.2.1, 64, .inl u_510)), (qs, .inl (E.2.1, 8, .inl u_512))] H_513 := hP_513
        replace hD_513 : va_D A [(h3, .inr (6, [.ref a3, .int d.1])), (a3, .inl (E.2.1, n3, .inl d.2)), (a2, .inl (E.2.1, n2, .inl q.2)), (h2, .inr (6, [.ref a2, .int q.1])), (h, .inr (4, [.ref qw, .ref qs])), (qw, .inl (E.2.1, 64, .inl u_510)), (qs, .inl (E.2.1, 8, .inl u_512))] := hD_513
        clear hP_511 hD_511 hS_511
        refine lv_iinc (v := (nI (i_496 + 1))) (lv' := [(4, .int (nI (i_496 + 1))), (3, .int (((r_430 + 8) / 64) + 1)), (0, .ref h), (1, .ref h2), (2, .ref h3)]) hx hb dX2_sum_87 hl_496 (k := 0) rfl (nI_add _ 1) (by decide) rfl (fun ls_514 hl_514 => ?_)
        clear hl_496
        refine lv_goto (tgt := 41) hx hb dX2_sum_90 (by decide) ?_
        exact ih_496 ((u_510, u_512) : (Nat → Int32) × (Nat → Int32)) _ _ _ (((show (B_X2_sum_41 n2 q r_430) i_496 z_496 = _ from (gLet_eq hu_499 ((if_pos c_501).trans (gLet_eq er_507 (gLet_eq hu_510 (gLet_eq hu_512 rfl)))))).symm.trans (congrArg ((B_X2_sum_41 n2 q r_430) i_496) hz_496)).trans (itr_s _ _ _).symm) ⟨lv_sub hl_514 [0, 1, 2, 3, 4] rfl, (hP_513.sub [4, 5, 6, 2, 0, 1, 3] rfl), (hD_513.sub [4, 5, 6, 2, 0, 1, 3] (by decide) rfl), hS_513⟩
    · intro z_515 H_515 locs_515 ls_515 hz_515 hI_515
      obtain ⟨hl_515, hP_515, hD_515, hS_515⟩ := hI_515
      replace hl_515 : lv_has ls_515 6 [(4, .int (nI (((((r_430 + 8) / 64) + 1).toNatClampNeg)))), (3, .int (((r_430 + 8) / 64) + 1)), (0, .ref h), (1, .ref h2), (2, .ref h3)] := hl_515
      replace hP_515 : va_P E.1 vwCl [(h, .inr (4, [.ref qw, .ref qs])), (qw, .inl (E.2.1, 64, .inl z_515.1)), (qs, .inl (E.2.1, 8, .inl z_515.2)), (a2, .inl (E.2.1, n2, .inl q.2)), (h3, .inr (6, [.ref a3, .int d.1])), (a3, .inl (E.2.1, n3, .inl d.2)), (h2, .inr (6, [.ref a2, .int q.1]))] H_515 := hP_515
      replace hD_515 : va_D A [(h, .inr (4, [.ref qw, .ref qs])), (qw, .inl (E.2.1, 64, .inl z_515.1)), (qs, .inl (E.2.1, 8, .inl z_515.2)), (a2, .inl (E.2.1, n2, .inl q.2)), (h3, .inr (6, [.ref a3, .int d.1])), (a3, .inl (E.2.1, n3, .inl d.2)), (h2, .inr (6, [.ref a2, .int q.1]))] := hD_515
      clear hl_433 hP_431 hD_431 hS_431
      refine lv_iload hx hb dX2_sum_41 (lv_at hl_515 0 rfl) ?_
      refine lv_iload_n hx hb dX2_sum_43 rfl (lv_at hl_515 1 rfl) ?_
      refine lv_icmp_ge (tgt := 93) hx hb dX2_sum_44 (by decide) (fun c_516 => ?_) (fun c_516 => (by have c_516 := (not_congr (g_rle (by omega))).mp c_516; exfalso; omega))
      replace c_516 : (((r_430 + 8) / 64) + 1).toNatClampNeg ≤ ((((r_430 + 8) / 64) + 1).toNatClampNeg) := (g_rle (by omega)).mp c_516
      refine lv_aload_n hx hb dX2_sum_93 rfl (lv_at hl_515 4 rfl) ?_
      refine gVv hF hl_515 hV hP_515 hD_515 hS_515 hA [4] [0, 1, 2, 3, 5, 6] (wc := [(h3, .inr (6, [.ref a3, .int d.1]))]) (wr := [(h, .inr (4, [.ref qw, .ref qs])), (qw, .inl (E.2.1, 64, .inl z_515.1)), (qs, .inl (E.2.1, 8, .inl z_515.2)), (a2, .inl (E.2.1, n2, .inl q.2)), (a3, .inl (E.2.1, n3, .inl d.2)), (h2, .inr (6, [.ref a2, .int q.1]))]) rfl rfl rfl (by decide) 0 6 rfl rfl rfl (k_X5_clear E l h3 a3 d) (cwV 0 hts gX2_sum_X5_clear rfl rfl rfl (by decide +kernel) ⟨Nat.le_of_ble_eq_true rfl, Nat.le_of_ble_eq_true rfl⟩) rfl rfl rfl (Nat.le_of_ble_eq_true rfl) dX2_sum_94 ⟨Nat.le_of_ble_eq_true rfl, Nat.le_of_ble_eq_true rfl⟩ (fun u_517 H_518 locs_518 hu_517 hP_518 hD_518 hS_518 => ?_)
      replace hu_517 : u_517 = F_X5_clear d := hu_517
      replace hP_518 : va_P E.1 vwCl [(h, .inr (4, [.ref qw, .ref qs])), (qw, .inl (E.2.1, 64, .inl z_515.1)), (qs, .inl (E.2.1, 8, .inl z_515.2)), (a2, .inl (E.2.1, n2, .inl q.2)), (a3, .inl (E.2.1, n3, .inl d.2)), (h2, .inr (6, [.ref a2, .int q.1])), (h3, .inr (6, [.ref a3, .int u_517.1]))] H_518 := hP_518
      replace hD_518 : va_D A [(h, .inr (4, [.ref qw, .ref qs])), (qw, .inl (E.2.1, 64, .inl z_515.1)), (qs, .inl (E.2.1, 8, .inl z_515.2)), (a2, .inl (E.2.1, n2, .inl q.2)), (a3, .inl (E.2.1, n3, .inl d.2)), (h2, .inr (6, [.ref a2, .int q.1])), (h3, .inr (6, [.ref a3, .int u_517.1]))] := hD_518
      clear hP_515 hD_515 hS_515
      refine lv_iconst (v := 0) hx hb dX2_sum_97 (by decide) ?_
      refine lv_istore (lv' := [(4, .int 0), (3, .int (((r_430 + 8) / 64) + 1)), (0, .ref h), (1, .ref h2), (2, .ref h3)]) hx hb dX2_sum_98 hl_515 (by decide) rfl (fun ls_519 hl_519 => ?_)
      clear hl_515
      refine g_up (N := 8) (B_X2_sum_100 n3 z_515) ((u_517.1, d.2) : gRow) (Inv := fun i_0 z_586 H_0 locs_0 ls_0 => lv_has ls_0 6 [(4, .int (nI i_0)), (3, .int (((r_430 + 8) / 64) + 1)), (0, .ref h), (1, .ref h2), (2, .ref h3)] ∧ va_P E.1 vwCl [(h, .inr (4, [.ref qw, .ref qs])), (qw, .inl (E.2.1, 64, .inl z_515.1)), (qs, .inl (E.2.1, 8, .inl z_515.2)), (a2, .inl (E.2.1, n2, .inl q.2)), (a3, .inl (E.2.1, n3, .inl z_586.2)), (h2, .inr (6, [.ref a2, .int q.1])), (h3, .inr (6, [.ref a3, .int z_586.1]))] H_0 ∧ va_D A [(h, .inr (4, [.ref qw, .ref qs])), (qw, .inl (E.2.1, 64, .inl z_515.1)), (qs, .inl (E.2.1, 8, .inl z_515.2)), (a2, .inl (E.2.1, n2, .inl q.2)), (a3, .inl (E.2.1, n3, .inl z_586.2)), (h2, .inr (6, [.ref a2, .int q.1])), (h3, .inr (6, [.ref a3, .int z_586.1]))] ∧ va_S A s.heap H_0 locs_0) (G := fun H_0 locs_0 ls_0 => W _ _ _ _ _ _ _ _ _ _ H_0 locs_0 _ _ _ (F0 _ 100 ls_0 [])) ?_ ?_ ⟨lv_sub hl_519 [0, 1, 2, 3, 4] rfl, hP_518, hD_518, hS_518⟩
      · intro j_587 i_587 z_587 H_587 locs_587 ls_587 hij_587 hz_587 hI_587 ih_587
        obtain ⟨hl_587, hP_587, hD_587, hS_587⟩ := hI_587
        replace hl_587 : lv_has ls_587 6 [(4, .int (nI i_587)), (3, .int (((r_430 + 8) / 64) + 1)), (0, .ref h), (1, .ref h2), (2, .ref h3)] := hl_587
        replace hP_587 : va_P E.1 vwCl [(h, .inr (4, [.ref qw, .ref qs])), (qw, .inl (E.2.1, 64, .inl z_515.1)), (qs, .inl (E.2.1, 8, .inl z_515.2)), (a2, .inl (E.2.1, n2, .inl q.2)), (a3, .inl (E.2.1, n3, .inl z_587.2)), (h2, .inr (6, [.ref a2, .int q.1])), (h3, .inr (6, [.ref a3, .int z_587.1]))] H_587 := hP_587
        replace hD_587 : va_D A [(h, .inr (4, [.ref qw, .ref qs])), (qw, .inl (E.2.1, 64, .inl z_515.1)), (qs, .inl (E.2.1, 8, .inl z_515.2)), (a2, .inl (E.2.1, n2, .inl q.2)), (a3, .inl (E.2.1, n3, .inl z_587.2)), (h2, .inr (6, [.ref a2, .int q.1])), (h3, .inr (6, [.ref a3, .int z_587.1]))] := hD_587
        clear hl_519 hP_518 hD_518 hS_518
        refine lv_iload hx hb dX2_sum_100 (lv_at hl_587 0 rfl) ?_
        refine lv_bipush (v := 8) hx hb dX2_sum_102 (by decide) ?_
        refine lv_icmp_ge (tgt := 142) hx hb dX2_sum_104 (by decide) (fun c_588 => (by have c_588 := (nI_leI (a := 8) (b := i_587) (by omega) (by omega)).mp c_588; exfalso; omega)) (fun c_588 => ?_)
        replace c_588 : ¬ 8 ≤ i_587 := (not_congr (nI_leI (a := 8) (b := i_587) (by omega) (by omega))).mp c_588
        refine lv_bipush (v := 24) hx hb dX2_sum_107 (by decide) ?_
        refine lv_istore (lv' := [(5, .int 24), (4, .int (nI i_587)), (3, .int (((r_430 + 8) / 64) + 1)), (0, .ref h), (1, .ref h2), (2, .ref h3)]) hx hb dX2_sum_109 hl_587 (by decide) rfl (fun ls_589 hl_589 => ?_)
        clear hl_587
        refine lv_iload hx hb dX2_sum_111 (lv_at hl_589 0 rfl) ?_
        refine lv_if_lt (tgt := 136) hx hb dX2_sum_113 (by decide) (fun c_590 => absurd c_590 (by decide)) (fun c_590 => ?_)
        refine lv_aload_n hx hb dX2_sum_116 rfl (lv_at hl_589 5 rfl) ?_
        refine lv_aload_n hx hb dX2_sum_117 rfl (lv_at hl_589 3 rfl) ?_
        refine va_get (D := E.1) (ci := 4) (v := .ref qs) (C := RX2) (T := TX2) (N := 2) hx hb hts in_X2 hown hK hP_587 0 rfl rfl 1 (by decide) w_0 (fun _ h9 => h9) rfl dX2_sum_118 ?_
        refine lv_iload hx hb dX2_sum_121 (lv_at hl_589 1 rfl) ?_
        refine g_iald (e0 := i_587) hx hb hK hP_587 2 0 rfl rfl (by omega) (by omega) dX2_sum_123 ?_
        refine lv_iload hx hb dX2_sum_124 (lv_at hl_589 0 rfl) ?_
        refine lv_iushr (v := g_us (z_515.2 i_587) 24) hx hb dX2_sum_126 rfl ?_
        refine gVv hF hl_589 hV hP_587 hD_587 hS_587 hA [6, 4] [0, 1, 2, 3, 5] (wc := [(h3, .inr (6, [.ref a3, .int z_587.1])), (a3, .inl (E.2.1, n3, .inl z_587.2))]) (wr := [(h, .inr (4, [.ref qw, .ref qs])), (qw, .inl (E.2.1, 64, .inl z_515.1)), (qs, .inl (E.2.1, 8, .inl z_515.2)), (a2, .inl (E.2.1, n2, .inl q.2)), (h2, .inr (6, [.ref a2, .int q.1]))]) rfl rfl rfl (by decide) 0 6 rfl rfl rfl (k_X5_add E l h3 a3 n3 z_587 (g_us (z_515.2 i_587) 24) (by omega)) (cwV 1 hts gX2_sum_X5_add rfl rfl rfl (by decide +kernel) ⟨Nat.le_of_ble_eq_true rfl, Nat.le_of_ble_eq_true rfl⟩) rfl rfl rfl (Nat.le_of_ble_eq_true rfl) dX2_sum_127 ⟨Nat.le_of_ble_eq_true rfl, Nat.le_of_ble_eq_true rfl⟩ (fun u_591 H_592 locs_592 hu_591 hP_592 hD_592 hS_592 => ?_)
        replace hu_591 : u_591 = F_X5_add n3 z_587 (g_us (z_515.2 i_587) 24) := hu_591
        replace hP_592 : va_P E.1 vwCl [(h, .inr (4, [.ref qw, .ref qs])), (qw, .inl (E.2.1, 64, .inl z_515.1)), (qs, .inl (E.2.1, 8, .inl z_515.2)), (a2, .inl (E.2.1, n2, .inl q.2)), (h2, .inr (6, [.ref a2, .int q.1])), (h3, .inr (6, [.ref a3, .int u_591.1])), (a3, .inl (E.2.1, n3, .inl u_591.2))] H_592 := hP_592
        replace hD_592 : va_D A [(h, .inr (4, [.ref qw, .ref qs])), (qw, .inl (E.2.1, 64, .inl z_515.1)), (qs, .inl (E.2.1, 8, .inl z_515.2)), (a2, .inl (E.2.1, n2, .inl q.2)), (h2, .inr (6, [.ref a2, .int q.1])), (h3, .inr (6, [.ref a3, .int u_591.1])), (a3, .inl (E.2.1, n3, .inl u_591.2))] := hD_592
        clear hP_587 hD_587 hS_587
        refine lv_iinc (v := 16) (lv' := [(5, .int 16), (4, .int (nI i_587)), (3, .int (((r_430 + 8) / 64) + 1)), (0, .ref h), (1, .ref h2), (2, .ref h3)]) hx hb dX2_sum_130 hl_589 (k := 0) rfl (by decide) (by decide) rfl (fun ls_593 hl_593 => ?_)
        clear hl_589
        refine lv_goto (tgt := 111) hx hb dX2_sum_133 (by decide) ?_
        refine lv_iload hx hb dX2_sum_111 (lv_at hl_593 0 rfl) ?_
        refine lv_if_lt (tgt := 136) hx hb dX2_sum_113 (by decide) (fun c_594 => absurd c_594 (by decide)) (fun c_594 => ?_)
        refine lv_aload_n hx hb dX2_sum_116 rfl (lv_at hl_593 5 rfl) ?_
        refine lv_aload_n hx hb dX2_sum_117 rfl (lv_at hl_593 3 rfl) ?_
        refine va_get (D := E.1) (ci := 4) (v := .ref qs) (C := RX2) (T := TX2) (N := 2) hx hb hts in_X2 hown hK hP_592 0 rfl rfl 1 (by decide) w_0 (fun _ h9 => h9) rfl dX2_sum_118 ?_
        refine lv_iload hx hb dX2_sum_121 (lv_at hl_593 1 rfl) ?_
        refine g_iald (e0 := i_587) hx hb hK hP_592 2 0 rfl rfl (by omega) (by omega) dX2_sum_123 ?_
        refine lv_iload hx hb dX2_sum_124 (lv_at hl_593 0 rfl) ?_
        refine lv_iushr (v := g_us (z_515.2 i_587) 16) hx hb dX2_sum_126 rfl ?_
        refine gVv hF hl_593 hV hP_592 hD_592 hS_592 hA [5, 6] [0, 1, 2, 3, 4] (wc := [(h3, .inr (6, [.ref a3, .int u_591.1])), (a3, .inl (E.2.1, n3, .inl u_591.2))]) (wr := [(h, .inr (4, [.ref qw, .ref qs])), (qw, .inl (E.2.1, 64, .inl z_515.1)), (qs, .inl (E.2.1, 8, .inl z_515.2)), (a2, .inl (E.2.1, n2, .inl q.2)), (h2, .inr (6, [.ref a2, .int q.1]))]) rfl rfl rfl (by decide) 0 6 rfl rfl rfl (k_X5_add E l h3 a3 n3 u_591 (g_us (z_515.2 i_587) 16) (by omega)) (cwV 1 hts gX2_sum_X5_add rfl rfl rfl (by decide +kernel) ⟨Nat.le_of_ble_eq_true rfl, Nat.le_of_ble_eq_true rfl⟩) rfl rfl rfl (Nat.le_of_ble_eq_true rfl) dX2_sum_127 ⟨Nat.le_of_ble_eq_true rfl, Nat.le_of_ble_eq_true rfl⟩ (fun u_595 H_596 locs_596 hu_595 hP_596 hD_596 hS_596 => ?_)
        replace hu_595 : u_595 = F_X5_add n3 u_591 (g_us (z_515.2 i_587) 16) := hu_595
        replace hP_596 : va_P E.1 vwCl [(h, .inr (4, [.ref qw, .ref qs])), (qw, .inl (E.2.1, 64, .inl z_515.1)), (qs, .inl (E.2.1, 8, .inl z_515.2)), (a2, .inl (E.2.1, n2, .inl q.2)), (h2, .inr (6, [.ref a2, .int q.1])), (h3, .inr (6, [.ref a3, .int u_595.1])), (a3, .inl (E.2.1, n3, .inl u_595.2))] H_596 := hP_596
        replace hD_596 : va_D A [(h, .inr (4, [.ref qw, .ref qs])), (qw, .inl (E.2.1, 64, .inl z_515.1)), (qs, .inl (E.2.1, 8, .inl z_515.2)), (a2, .inl (E.2.1, n2, .inl q.2)), (h2, .inr (6, [.ref a2, .int q.1])), (h3, .inr (6, [.ref a3, .int u_595.1])), (a3, .inl (E.2.1, n3, .inl u_595.2))] := hD_596
        clear hP_592 hD_592 hS_592
        refine lv_iinc (v := 8) (lv' := [(5, .int 8), (4, .int (nI i_587)), (3, .int (((r_430 + 8) / 64) + 1)), (0, .ref h), (1, .ref h2), (2, .ref h3)]) hx hb dX2_sum_130 hl_593 (k := 0) rfl (by decide) (by decide) rfl (fun ls_597 hl_597 => ?_)
        clear hl_593
        refine lv_goto (tgt := 111) hx hb dX2_sum_133 (by decide) ?_
        refine lv_iload hx hb dX2_sum_111 (lv_at hl_597 0 rfl) ?_
        refine lv_if_lt (tgt := 136) hx hb dX2_sum_113 (by decide) (fun c_598 => absurd c_598 (by decide)) (fun c_598 => ?_)
        refine lv_aload_n hx hb dX2_sum_116 rfl (lv_at hl_597 5 rfl) ?_
        refine lv_aload_n hx hb dX2_sum_117 rfl (lv_at hl_597 3 rfl) ?_
        refine va_get (D := E.1) (ci := 4) (v := .ref qs) (C := RX2) (T := TX2) (N := 2) hx hb hts in_X2 hown hK hP_596 0 rfl rfl 1 (by decide) w_0 (fun _ h9 => h9) rfl dX2_sum_118 ?_
        refine lv_iload hx hb dX2_sum_121 (lv_at hl_597 1 rfl) ?_
        refine g_iald (e0 := i_587) hx hb hK hP_596 2 0 rfl rfl (by omega) (by omega) dX2_sum_123 ?_
        refine lv_iload hx hb dX2_sum_124 (lv_at hl_597 0 rfl) ?_
        refine lv_iushr (v := g_us (z_515.2 i_587) 8) hx hb dX2_sum_126 rfl ?_
        refine gVv hF hl_597 hV hP_596 hD_596 hS_596 hA [5, 6] [0, 1, 2, 3, 4] (wc := [(h3, .inr (6, [.ref a3, .int u_595.1])), (a3, .inl (E.2.1, n3, .inl u_595.2))]) (wr := [(h, .inr (4, [.ref qw, .ref qs])), (qw, .inl (E.2.1, 64, .inl z_515.1)), (qs, .inl (E.2.1, 8, .inl z_515.2)), (a2, .inl (E.2.1, n2, .inl q.2)), (h2, .inr (6, [.ref a2, .int q.1]))]) rfl rfl rfl (by decide) 0 6 rfl rfl rfl (k_X5_add E l h3 a3 n3 u_595 (g_us (z_515.2 i_587) 8) (by omega)) (cwV 1 hts gX2_sum_X5_add rfl rfl rfl (by decide +kernel) ⟨Nat.le_of_ble_eq_true rfl, Nat.le_of_ble_eq_true rfl⟩) rfl rfl rfl (Nat.le_of_ble_eq_true rfl) dX2_sum_127 ⟨Nat.le_of_ble_eq_true rfl, Nat.le_of_ble_eq_true rfl⟩ (fun u_599 H_600 locs_600 hu_599 hP_600 hD_600 hS_600 => ?_)
        replace hu_599 : u_599 = F_X5_add n3 u_595 (g_us (z_515.2 i_587) 8) := hu_599
        replace hP_600 : va_P E.1 vwCl [(h, .inr (4, [.ref qw, .ref qs])), (qw, .inl (E.2.1, 64, .inl z_515.1)), (qs, .inl (E.2.1, 8, .inl z_515.2)), (a2, .inl (E.2.1, n2, .inl q.2)), (h2, .inr (6, [.ref a2, .int q.1])), (h3, .inr (6, [.ref a3, .int u_599.1])), (a3, .inl (E.2.1, n3, .inl u_599.2))] H_600 := hP_600
        replace hD_600 : va_D A [(h, .inr (4, [.ref qw, .ref qs])), (qw, .inl (E.2.1, 64, .inl z_515.1)), (qs, .inl (E.2.1, 8, .inl z_515.2)), (a2, .inl (E.2.1, n2, .inl q.2)), (h2, .inr (6, [.ref a2, .int q.1])), (h3, .inr (6, [.ref a3, .int u_599.1])), (a3, .inl (E.2.1, n3, .inl u_599.2))] := hD_600
        clear hP_596 hD_596 hS_596
        refine lv_iinc (v := 0) (lv' := [(5, .int 0), (4, .int (nI i_587)), (3, .int (((r_430 + 8) / 64) + 1)), (0, .ref h), (1, .ref h2), (2, .ref h3)]) hx hb dX2_sum_130 hl_597 (k := 0) rfl (by decide) (by decide) rfl (fun ls_601 hl_601 => ?_)
        clear hl_597
        refine lv_goto (tgt := 111) hx hb dX2_sum_133 (by decide) ?_
        refine lv_iload hx hb dX2_sum_111 (lv_at hl_601 0 rfl) ?_
        refine lv_if_lt (tgt := 136) hx hb dX2_sum_113 (by decide) (fun c_602 => absurd c_602 (by decide)) (fun c_602 => ?_)
        refine lv_aload_n hx hb dX2_sum_116 rfl (lv_at hl_601 5 rfl) ?_
        refine lv_aload_n hx hb dX2_sum_117 rfl (lv_at hl_601 3 rfl) ?_
        refine va_get (D := E.1) (ci := 4) (v := .ref qs) (C := RX2) (T := TX2) (N := 2) hx hb hts in_X2 hown hK hP_600 0 rfl rfl 1 (by decide) w_0 (fun _ h9 => h9) rfl dX2_sum_118 ?_
        refine lv_iload hx hb dX2_sum_121 (lv_at hl_601 1 rfl) ?_
        refine g_iald (e0 := i_587) hx hb hK hP_600 2 0 rfl rfl (by omega) (by omega) dX2_sum_123 ?_
        refine lv_iload hx hb dX2_sum_124 (lv_at hl_601 0 rfl) ?_
        refine lv_iushr (v := g_us (z_515.2 i_587) 0) hx hb dX2_sum_126 rfl ?_
        refine gVv hF hl_601 hV hP_600 hD_600 hS_600 hA [5, 6] [0, 1, 2, 3, 4] (wc := [(h3, .inr (6, [.ref a3, .int u_599.1])), (a3, .inl (E.2.1, n3, .inl u_599.2))]) (wr := [(h, .inr (4, [.ref qw, .ref qs])), (qw, .inl (E.2.1, 64, .inl z_515.1)), (qs, .inl (E.2.1, 8, .inl z_515.2)), (a2, .inl (E.2.1, n2, .inl q.2)), (h2, .inr (6, [.ref a2, .int q.1]))]) rfl rfl rfl (by decide) 0 6 rfl rfl rfl (k_X5_add E l h3 a3 n3 u_599 (g_us (z_515.2 i_587) 0) (by omega)) (cwV 1 hts gX2_sum_X5_add rfl rfl rfl (by decide +kernel) ⟨Nat.le_of_ble_eq_true rfl, Nat.le_of_ble_eq_true rfl⟩) rfl rfl rfl (Nat.le_of_ble_eq_true rfl) dX2_sum_127 ⟨Nat.le_of_ble_eq_true rfl, Nat.le_of_ble_eq_true rfl⟩ (fun u_603 H_604 locs_604 hu_603 hP_604 hD_604 hS_604 => ?_)
        replace hu_603 : u_603 = F_X5_add n3 u_599 (g_us (z_515.2 i_587) 0) := hu_603
        replace hP_604 : va_P E.1 vwCl [(h, .inr (4, [.ref qw, .ref qs])), (qw, .inl (E.2.1, 64, .inl z_515.1)), (qs, .inl (E.2.1, 8, .inl z_515.2)), (a2, .inl (E.2.1, n2, .inl q.2)), (h2, .inr (6, [.ref a2, .int q.1])), (h3, .inr (6, [.ref a3, .int u_603.1])), (a3, .inl (E.2.1, n3, .inl u_603.2))] H_604 := hP_604
        replace hD_604 : va_D A [(h, .inr (4, [.ref qw, .ref qs])), (qw, .inl (E.2.1, 64, .inl z_515.1)), (qs, .inl (E.2.1, 8, .inl z_515.2)), (a2, .inl (E.2.1, n2, .inl q.2)), (h2, .inr (6, [.ref a2, .int q.1])), (h3, .inr (6, [.ref a3, .int u_603.1])), (a3, .inl (E.2.1, n3, .inl u_603.2))] := hD_604
        clear hP_600 hD_600 hS_600
        refine lv_iinc (v := (-8)) (lv' := [(5, .int (-8)), (4, .int (nI i_587)), (3, .int (((r_430 + 8) / 64) + 1)), (0, .ref h), (1, .ref h2), (2, .ref h3)]) hx hb dX2_sum_130 hl_601 (k := 0) rfl (by decide) (by decide) rfl (fun ls_605 hl_605 => ?_)
        clear hl_601
        refine lv_goto (tgt := 111) hx hb dX2_sum_133 (by decide) ?_
        refine lv_iload hx hb dX2_sum_111 (lv_at hl_605 0 rfl) ?_
        refine lv_if_lt (tgt := 136) hx hb dX2_sum_113 (by decide) (fun c_606 => ?_) (fun c_606 => absurd (by decide) c_606)
        refine lv_iinc (v := (nI (i_587 + 1))) (lv' := [(4, .int (nI (i_587 + 1))), (5, .int (-8)), (3, .int (((r_430 + 8) / 64) + 1)), (0, .ref h), (1, .ref h2), (2, .ref h3)]) hx hb dX2_sum_136 hl_605 (k := 1) rfl (nI_add _ 1) (by decide) rfl (fun ls_607 hl_607 => ?_)
        clear hl_605
        refine lv_goto (tgt := 100) hx hb dX2_sum_139 (by decide) ?_
        exact ih_587 (u_603 : gRow) _ _ _ (((show (B_X2_sum_100 n3 z_515) i_587 z_587 = _ from (gLet_eq hu_591 (gLet_eq hu_595 (gLet_eq hu_599 (gLet_eq hu_603 rfl))))).symm.trans (congrArg ((B_X2_sum_100 n3 z_515) i_587) hz_587)).trans (itr_s _ _ _).symm) ⟨lv_sub hl_607 [0, 2, 3, 4, 5] rfl, (hP_604.sub [0, 1, 2, 3, 6, 4, 5] rfl), (hD_604.sub [0, 1, 2, 3, 6, 4, 5] (by decide) rfl), hS_604⟩
      · intro z_608 H_608 locs_608 ls_608 hz_608 hI_608
        obtain ⟨hl_608, hP_608, hD_608, hS_608⟩ := hI_608
        replace hl_608 : lv_has ls_608 6 [(4, .int (nI 8)), (3, .int (((r_430 + 8) / 64) + 1)), (0, .ref h), (1, .ref h2), (2, .ref h3)] := hl_608
        replace hP_608 : va_P E.1 vwCl [(h, .inr (4, [.ref qw, .ref qs])), (qw, .inl (E.2.1, 64, .inl z_515.1)), (qs, .inl (E.2.1, 8, .inl z_515.2)), (a2, .inl (E.2.1, n2, .inl q.2)), (a3, .inl (E.2.1, n3, .inl z_608.2)), (h2, .inr (6, [.ref a2, .int q.1])), (h3, .inr (6, [.ref a3, .int z_608.1]))] H_608 := hP_608
        replace hD_608 : va_D A [(h, .inr (4, [.ref qw, .ref qs])), (qw, .inl (E.2.1, 64, .inl z_515.1)), (qs, .inl (E.2.1, 8, .inl z_515.2)), (a2, .inl (E.2.1, n2, .inl q.2)), (a3, .inl (E.2.1, n3, .inl z_608.2)), (h2, .inr (6, [.ref a2, .int q.1])), (h3, .inr (6, [.ref a3, .int z_608.1]))] := hD_608
        clear hl_519 hP_518 hD_518 hS_518
        refine lv_iload hx hb dX2_sum_100 (lv_at hl_608 0 rfl) ?_
        refine lv_bipush (v := 8) hx hb dX2_sum_102 (by decide) ?_
        refine lv_icmp_ge (tgt := 142) hx hb dX2_sum_104 (by decide) (fun c_609 => ?_) (fun c_609 => absurd c_429 ((not_congr (nI_leI (a := 8) (b := 8) (by omega) (by omega))).mp c_609))
        replace c_609 : 8 ≤ 8 := (nI_leI (a := 8) (b := 8) (by omega) (by omega)).mp c_609
        have hpost : ((z_515.1, z_515.2, z_608) : (Nat → Int32) × (Nat → Int32) × gRow) = F_X2_sum n2 n3 wd st q d := (show F_X2_sum n2 n3 wd st q d = ((z_515.1, z_515.2, z_608) : (Nat → Int32) × (Nat → Int32) × gRow) from (gLet_eq hz_428 (gLet_eq er_430 (gLet_eq hz_515 (gLet_eq hu_517 (gLet_eq hz_608 rfl)))))).symm
        have hP9 := hP_608.sub (ws' := [(h, .inr (4, [.ref qw, .ref qs])), (qw, .inl (E.2.1, 64, .inl z_515.1)), (qs, .inl (E.2.1, 8, .inl z_515.2)), (h2, .inr (6, [.ref a2, .int q.1])), (a2, .inl (E.2.1, n2, .inl q.2)), (h3, .inr (6, [.ref a3, .int z_608.1])), (a3, .inl (E.2.1, n3, .inl z_608.2))]) [0, 1, 2, 5, 3, 6, 4] rfl
        have hD9 := hD_608.sub (ws' := [(h, .inr (4, [.ref qw, .ref qs])), (qw, .inl (E.2.1, 64, .inl z_515.1)), (qs, .inl (E.2.1, 8, .inl z_515.2)), (h2, .inr (6, [.ref a2, .int q.1])), (a2, .inl (E.2.1, n2, .inl q.2)), (h3, .inr (6, [.ref a3, .int z_608.1])), (a3, .inl (E.2.1, n3, .inl z_608.2))]) [0, 1, 2, 5, 3, 6, 4] (by decide) rfl
        exact W.vret hx hb hr (fun t ht hW => ⟨⟨(z_515.1, z_515.2, z_608), rfl, hpost, by rw [ht]; exact hP9, hD9⟩, hS_608.F ht⟩) hS_608.2.2 dX2_sum_142
set_option maxHeartbeats 4000000 in
set_option maxRecDepth 100000 in
theorem k_X2_sum_same (E : gE) (l : Launch) (h h2 qw qs a2 : Nat) (n2 : Nat) (wd : Nat → Int32) (st : Nat → Int32) (q : gRow) (hn2 : n2 < 2147483648) : gMv E l yX2_sum wsX2_sum ({ frames := 2, cells := 0, slots := 0, locals := 54 }) 0 0 [.ref h, .ref h2, .ref h2] [(h, .inr (4, [.ref qw, .ref qs])), (qw, .inl (E.2.1, 64, .inl wd)), (qs, .inl (E.2.1, 8, .inl st)), (h2, .inr (6, [.ref a2, .int q.1])), (a2, .inl (E.2.1, n2, .inl q.2))] (fun (uu : (Nat → Int32) × (Nat → Int32) × gRow) => uu = F_X2_sum_same n2 wd st q) (fun (uu : (Nat → Int32) × (Nat → Int32) × gRow) => [(h, .inr (4, [.ref qw, .ref qs])), (qw, .inl (E.2.1, 64, .inl uu.1)), (qs, .inl (E.2.1, 8, .inl uu.2.1)), (h2, .inr (6, [.ref a2, .int uu.2.2.1])), (a2, .inl (E.2.1, n2, .inl uu.2.2.2))]) := by
  intro sz
  refine Met.ofW (cc := cX2_sum) (maxL := 6) (ret := none) (by decide) rfl ?_
  intro p e s m args below meth c s₁ B hml hv
  obtain ⟨rfl, hsz, hP, hV, hD0⟩ := hv
  have hx := B.exec
  have hb := B.bytes
  have hr := B.returns
  have hts := atoms_spec (ws := wsX2_sum) B.pre
  have hown : s.vm.findClass RX2 = some m.cls := findClass_of_methodNamed B.named
  have hlocks := B.notSynchronized
  subst hsz
  have hD := hD0.self (sz := s.heap.size)
  clear hD0
  generalize hAe : va_A [(h, .inr (4, [.ref qw, .ref qs])), (qw, .inl (E.2.1, 64, .inl wd)), (qs, .inl (E.2.1, 8, .inl st)), (h2, .inr (6, [.ref a2, .int q.1])), (a2, .inl (E.2.1, n2, .inl q.2))] s.heap.size = A at hD hV ⊢
  have hA : ∀ q : Nat, s.heap.size ≤ q → A q := fun q h => by rw [← hAe]; exact Or.inr h
  have hS : va_S A s.heap s.heap [] := va_S.rf
  have hK := hV.1
  have hF : CallFix p m c cX2_sum 6 s _ wsX2_sum RX2 := ⟨hx, hb, hml, hown, hts⟩
  have hl := lv_entry [.ref h, .ref h2, .ref h2] (n := 6) (Nat.le_of_ble_eq_true rfl)
  rw [lg_entry_eq]
  generalize (lg_sl [.ref h, .ref h2, .ref h2] ++ List.replicate (6 - (lg_sl [.ref h, .ref h2, .ref h2]).length) Slot.unset).toArray = ls at hl ⊢
  have hl : lv_has ls 6 [(0, .ref h), (1, .ref h2), (2, .ref h2)] := hl
  have in_X2 : ∀ w ∈ wsX20, w ∈ wsX2_sum := by decide +kernel
  have w_0 := hts (.fieldLink RX2 13 "CryptRows$Great" "state" "[I") (by decide +kernel)
  have w_1 := hts (.fieldLink RX2 16 "CryptRows$Great" "FIRST" "[I") (by decide +kernel)
  have w_2 := hts (.fieldLink RX2 7 "CryptRows$Great" "words" "[I") (by decide +kernel)
  refine lv_iconst (v := 0) hx hb dX2_sum_0 (by decide) ?_
  refine lv_istore_n (lv' := [(3, .int 0), (0, .ref h), (1, .ref h2), (2, .ref h2)]) hx hb dX2_sum_1 rfl hl (by decide) rfl (fun ls_407 hl_407 => ?_)
  clear hl
  refine g_up (N := 8) B_X2_sum_same_2 (st : Nat → Int32) (Inv := fun i_0 z_423 H_0 locs_0 ls_0 => lv_has ls_0 6 [(3, .int (nI i_0)), (0, .ref h), (1, .ref h2), (2, .ref h2)] ∧ va_P E.1 vwCl [(h, .inr (4, [.ref qw, .ref qs])), (qw, .inl (E.2.1, 64, .inl wd)), (qs, .inl (E.2.1, 8, .inl z_423)), (h2, .inr (6, [.ref a2, .int q.1])), (a2, .inl (E.2.1, n2, .inl q.2))] H_0 ∧ va_D A [(h, .inr (4, [.ref qw, .ref qs])), (qw, .inl (E.2.1, 64, .inl wd)), (qs, .inl (E.2.1, 8, .inl z_423)), (h2, .inr (6, [.ref a2, .int q.1])), (a2, .inl (E.2.1, n2, .inl q.2))] ∧ va_S A s.heap H_0 locs_0) (G := fun H_0 locs_0 ls_0 => W _ _ _ _ _ _ _ _ _ _ H_0 locs_0 _ _ _ (F0 _ 2 ls_0 [])) ?_ ?_ ⟨lv_sub hl_407 [0, 1, 2, 3] rfl, hP, hD, hS⟩
  · intro j_424 i_424 z_424 H_424 locs_424 ls_424 hij_424 hz_424 hI_424 ih_424
    obtain ⟨hl_424, hP_424, hD_424, hS_424⟩ := hI_424
    replace hl_424 : lv_has ls_424 6 [(3, .int (nI i_424)), (0, .ref h), (1, .ref h2), (2, .ref h2)] := hl_424
    replace hP_424 : va_P E.1 vwCl [(h, .inr (4, [.ref qw, .ref qs])), (qw, .inl (E.2.1, 64, .inl wd)), (qs, .inl (E.2.1, 8, .inl z_424)), (h2, .inr (6, [.ref a2, .int q.1])), (a2, .inl (E.2.1, n2, .inl q.2))] H_424 := hP_424
    replace hD_424 : va_D A [(h, .inr (4, [.ref qw, .ref qs])), (qw, .inl (E.2.1, 64, .inl wd)), (qs, .inl (E.2.1, 8, .inl z_424)), (h2, .inr (6, [.ref a2, .int q.1])), (a2, .inl (E.2.1, n2, .inl q.2))] := hD_424
    clear hl_407 hP hD hS
    refine lv_iload_n hx hb dX2_sum_2 rfl (lv_at hl_424 0 rfl) ?_
    refine lv_bipush (v := 8) hx hb dX2_sum_3 (by decide) ?_
    refine lv_icmp_ge (tgt := 25) hx hb dX2_sum_5 (by decide) (fun c_425 => (by have c_425 := (nI_leI (a := 8) (b := i_424) (by omega) (by omega)).mp c_425; exfalso; omega)) (fun c_425 => ?_)
    replace c_425 : ¬ 8 ≤ i_424 := (not_congr (nI_leI (a := 8) (b := i_424) (by omega) (by omega))).mp c_425
    refine lv_aload_n hx hb dX2_sum_8 rfl (lv_at hl_424 1 rfl) ?_
    refine va_get (D := E.1) (ci := 4) (v := .ref qs) (C := RX2) (T := TX2) (N := 2) hx hb hts in_X2 hown hK hP_424 0 rfl rfl 1 (by decide) w_0 (fun _ h9 => h9) rfl dX2_sum_9 ?_
    refine lv_iload_n hx hb dX2_sum_12 rfl (lv_at hl_424 0 rfl) ?_
    refine va_gets (v := .ref (E.2.2.2 4)) hx hb (hV.2.2 4 (by decide)).1 hS_424 hown w_1 (fun _ h9 => h9) dX2_sum_13 ?_
    refine lv_iload_n hx hb dX2_sum_16 rfl (lv_at hl_424 0 rfl) ?_
    refine va_ti (v := .int (gTf 4 i_424)) hx hb (hV.2.2 4 (by decide)).2 hS_424 (vp_in_nI (n := i_424) (N := 8) (by omega) (by omega)) (g_tv (by omega)) dX2_sum_17 ?_
    refine g_iast (e0 := i_424) hx hb hK hP_424 hD_424 hS_424 2 0 rfl rfl (by omega) (by omega) dX2_sum_18 (fun H_426 locs_426 hP_426 hD_426 hS_426 => ?_)
    replace hP_426 : va_P E.1 vwCl [(h, .inr (4, [.ref qw, .ref qs])), (qw, .inl (E.2.1, 64, .inl wd)), (qs, .inl (E.2.1, 8, .inl (upd z_424 i_424 (gTf 4 i_424)))), (h2, .inr (6, [.ref a2, .int q.1])), (a2, .inl (E.2.1, n2, .inl q.2))] H_426 := hP_426
    replace hD_426 : va_D A [(h, .inr (4, [.ref qw, .ref qs])), (qw, .inl (E.2.1, 64, .inl wd)), (qs, .inl (E.2.1, 8, .inl (upd z_424 i_424 (gTf 4 i_424)))), (h2, .inr (6, [.ref a2, .int q.1])), (a2, .inl (E.2.1, n2, .inl q.2))] := hD_426
    clear hP_424 hD_424 hS_424
    refine lv_iinc (v := (nI (i_424 + 1))) (lv' := [(3, .int (nI (i_424 + 1))), (0, .ref h), (1, .ref h2), (2, .ref h2)]) hx hb dX2_sum_19 hl_424 (k := 0) rfl (nI_add _ 1) (by decide) rfl (fun ls_427 hl_427 => ?_)
    clear hl_424
    refine lv_goto (tgt := 2) hx hb dX2_sum_22 (by decide) ?_
    exact ih_424 ((upd z_424 i_424 (gTf 4 i_424)) : Nat → Int32) _ _ _ (((show B_X2_sum_same_2 i_424 z_424 = _ from rfl).symm.trans (congrArg (B_X2_sum_same_2 i_424) hz_424)).trans (itr_s _ _ _).symm) ⟨lv_sub hl_427 [0, 1, 2, 3] rfl, (hP_426.sub [0, 1, 2, 3, 4] rfl), (hD_426.sub [0, 1, 2, 3, 4] (by decide) rfl), hS_426⟩
  · intro z_428 H_428 locs_428 ls_428 hz_428 hI_428
    obtain ⟨hl_428, hP_428, hD_428, hS_428⟩ := hI_428
    replace hl_428 : lv_has ls_428 6 [(3, .int (nI 8)), (0, .ref h), (1, .ref h2), (2, .ref h2)] := hl_428
    replace hP_428 : va_P E.1 vwCl [(h, .inr (4, [.ref qw, .ref qs])), (qw, .inl (E.2.1, 64, .inl wd)), (qs, .inl (E.2.1, 8, .inl z_428)), (h2, .inr (6, [.ref a2, .int q.1])), (a2, .inl (E.2.1, n2, .inl q.2))] H_428 := hP_428
    replace hD_428 : va_D A [(h, .inr (4, [.ref qw, .ref qs])), (qw, .inl (E.2.1, 64, .inl wd)), (qs, .inl (E.2.1, 8, .inl z_428)), (h2, .inr (6, [.ref a2, .int q.1])), (a2, .inl (E.2.1, n2, .inl q.2))] := hD_428
    clear hl_407 hP hD hS
    refine lv_iload_n hx hb dX2_sum_2 rfl (lv_at hl_428 0 rfl) ?_
    refine lv_bipush (v := 8) hx hb dX2_sum_3 (by decide) ?_
    refine lv_icmp_ge (tgt := 25) hx hb dX2_sum_5 (by decide) (fun c_429 => ?_) (fun c_429 => (by have c_429 := (not_congr (nI_leI (a := 8) (b := 8) (by omega) (by omega))).mp c_429; exfalso; omega))
    replace c_429 : 8 ≤ 8 := (nI_leI (a := 8) (b := 8) (by omega) (by omega)).mp c_429
    refine lv_aload_n hx hb dX2_sum_25 rfl (lv_at hl_428 2 rfl) ?_
    refine gVi hF hl_428 hV hP_428 hD_428 hS_428 hA [3] [0, 1, 2, 4] (wc := [(h2, .inr (6, [.ref a2, .int q.1]))]) (wr := [(h, .inr (4, [.ref qw, .ref qs])), (qw, .inl (E.2.1, 64, .inl wd)), (qs, .inl (E.2.1, 8, .inl z_428)), (a2, .inl (E.2.1, n2, .inl q.2))]) rfl rfl rfl (by decide) 0 6 rfl rfl rfl (k_X5_count E l h2 a2 q) (cwV 0 hts gX2_sum_X5_count rfl rfl rfl (by decide +kernel) ⟨Nat.le_of_ble_eq_true rfl, Nat.le_of_ble_eq_true rfl⟩) rfl rfl rfl (Nat.le_of_ble_eq_true rfl) dX2_sum_26 ⟨Nat.le_of_ble_eq_true rfl, Nat.le_of_ble_eq_true rfl⟩ (fun r_430 _ H_431 locs_431 hu_430 hP_431 hD_431 hS_431 => ?_)
    have er_430 : r_430 = F_X5_count q := hu_430
    clear hu_430
    replace hP_431 : va_P E.1 vwCl [(h, .inr (4, [.ref qw, .ref qs])), (qw, .inl (E.2.1, 64, .inl wd)), (qs, .inl (E.2.1, 8, .inl z_428)), (a2, .inl (E.2.1, n2, .inl q.2)), (h2, .inr (6, [.ref a2, .int q.1]))] H_431 := hP_431
    replace hD_431 : va_D A [(h, .inr (4, [.ref qw, .ref qs])), (qw, .inl (E.2.1, 64, .inl wd)), (qs, .inl (E.2.1, 8, .inl z_428)), (a2, .inl (E.2.1, n2, .inl q.2)), (h2, .inr (6, [.ref a2, .int q.1]))] := hD_431
    clear hP_428 hD_428 hS_428
    refine lv_bipush (v := 8) hx hb dX2_sum_29 (by decide) ?_
    refine lv_iadd hx hb dX2_sum_31 ?_
    refine lv_bipush (v := 64) hx hb dX2_sum_32 (by decide) ?_
    refine lv_idiv hx hb dX2_sum_34 (by decide) ?_
    refine lv_iconst (v := 1) hx hb dX2_sum_35 (by decide) ?_
    refine lv_iadd hx hb dX2_sum_36 ?_
    refine lv_istore_n (lv' := [(3, .int (((r_430 + 8) / 64) + 1)), (0, .ref h), (1, .ref h2), (2, .ref h2)]) hx hb dX2_sum_37 rfl hl_428 (by decide) rfl (fun ls_432 hl_432 => ?_)
    clear hl_428
    refine lv_iconst (v := 0) hx hb dX2_sum_38 (by decide) ?_
    refine lv_istore (lv' := [(4, .int 0), (3, .int (((r_430 + 8) / 64) + 1)), (0, .ref h), (1, .ref h2), (2, .ref h2)]) hx hb dX2_sum_39 hl_432 (by decide) rfl (fun ls_433 hl_433 => ?_)
    clear hl_432
    have hcl_494 := g_clamp_lt (((r_430 + 8) / 64) + 1)
    refine g_up (N := ((((r_430 + 8) / 64) + 1).toNatClampNeg)) (B_X2_sum_same_41 n2 q r_430) ((wd, z_428) : (Nat → Int32) × (Nat → Int32)) (Inv := fun i_0 z_495 H_0 locs_0 ls_0 => lv_has ls_0 6 [(4, .int (nI i_0)), (3, .int (((r_430 + 8) / 64) + 1)), (0, .ref h), (1, .ref h2), (2, .ref h2)] ∧ va_P E.1 vwCl [(h, .inr (4, [.ref qw, .ref qs])), (qw, .inl (E.2.1, 64, .inl z_495.1)), (qs, .inl (E.2.1, 8, .inl z_495.2)), (a2, .inl (E.2.1, n2, .inl q.2)), (h2, .inr (6, [.ref a2, .int q.1]))] H_0 ∧ va_D A [(h, .inr (4, [.ref qw, .ref qs])), (qw, .inl (E.2.1, 64, .inl z_495.1)), (qs, .inl (E.2.1, 8, .inl z_495.2)), (a2, .inl (E.2.1, n2, .inl q.2)), (h2, .inr (6, [.ref a2, .int q.1]))] ∧ va_S A s.heap H_0 locs_0) (G := fun H_0 locs_0 ls_0 => W _ _ _ _ _ _ _ _ _ _ H_0 locs_0 _ _ _ (F0 _ 41 ls_0 [])) ?_ ?_ ⟨lv_sub hl_433 [0, 1, 2, 3, 4] rfl, hP_431, hD_431, hS_431⟩
    · intro j_496 i_496 z_496 H_496 locs_496 ls_496 hij_496 hz_496 hI_496 ih_496
      obtain ⟨hl_496, hP_496, hD_496, hS_496⟩ := hI_496
      replace hl_496 : lv_has ls_496 6 [(4, .int (nI i_496)), (3, .int (((r_430 + 8) / 64) + 1)), (0, .ref h), (1, .ref h2), (2, .ref h2)] := hl_496
      replace hP_496 : va_P E.1 vwCl [(h, .inr (4, [.ref qw, .ref qs])), (qw, .inl (E.2.1, 64, .inl z_496.1)), (qs, .inl (E.2.1, 8, .inl z_496.2)), (a2, .inl (E.2.1, n2, .inl q.2)), (h2, .inr (6, [.ref a2, .int q.1]))] H_496 := hP_496
      replace hD_496 : va_D A [(h, .inr (4, [.ref qw, .ref qs])), (qw, .inl (E.2.1, 64, .inl z_496.1)), (qs, .inl (E.2.1, 8, .inl z_496.2)), (a2, .inl (E.2.1, n2, .inl q.2)), (h2, .inr (6, [.ref a2, .int q.1]))] := hD_496
      clear hl_433 hP_431 hD_431 hS_431
      refine lv_iload hx hb dX2_sum_41 (lv_at hl_496 0 rfl) ?_
      refine lv_iload_n hx hb dX2_sum_43 rfl (lv_at hl_496 1 rfl) ?_
      refine lv_icmp_ge (tgt := 93) hx hb dX2_sum_44 (by decide) (fun c_497 => (by have c_497 := (g_rle (by omega)).mp c_497; exfalso; omega)) (fun c_497 => ?_)
      replace c_497 : ¬ (((r_430 + 8) / 64) + 1).toNatClampNeg ≤ i_496 := (not_congr (g_rle (by omega))).mp c_497
      refine lv_aload_n hx hb dX2_sum_47 rfl (lv_at hl_496 2 rfl) ?_
      refine lv_aload_n hx hb dX2_sum_48 rfl (lv_at hl_496 3 rfl) ?_
      refine lv_bipush (v := 64) hx hb dX2_sum_49 (by decide) ?_
      refine lv_iload hx hb dX2_sum_51 (lv_at hl_496 0 rfl) ?_
      refine lv_imul hx hb dX2_sum_53 ?_
      refine lv_topi (fun y_498 ey_498 => ?_)
      obtain rfl : y_498 = (nI (64 * i_496)) := ey_498.trans (pk_mul _ _)
      refine gVv hF hl_496 hV hP_496 hD_496 hS_496 hA [0, 1, 4, 3] [2] (wc := [(h, .inr (4, [.ref qw, .ref qs])), (qw, .inl (E.2.1, 64, .inl z_496.1)), (h2, .inr (6, [.ref a2, .int q.1])), (a2, .inl (E.2.1, n2, .inl q.2))]) (wr := [(qs, .inl (E.2.1, 8, .inl z_496.2))]) rfl rfl rfl (by decide) 0 4 rfl rfl rfl (k_X2_load E l h h2 qw qs a2 n2 z_496.1 q (nI (64 * i_496)) (by omega)) (cwV 2 hts gX2_sum_X2_load rfl rfl rfl (by decide +kernel) ⟨Nat.le_of_ble_eq_true rfl, Nat.le_of_ble_eq_true rfl⟩) rfl rfl rfl (Nat.le_of_ble_eq_true rfl) dX2_sum_54 ⟨Nat.le_of_ble_eq_true rfl, Nat.le_of_ble_eq_true rfl⟩ (fun u_499 H_500 locs_500 hu_499 hP_500 hD_500 hS_500 => ?_)
      replace hu_499 : u_499 = F_X2_load n2 z_496.1 q (nI (64 * i_496)) := hu_499
      replace hP_500 : va_P E.1 vwCl [(qs, .inl (E.2.1, 8, .inl z_496.2)), (h, .inr (4, [.ref qw, .ref qs])), (qw, .inl (E.2.1, 64, .inl u_499)), (h2, .inr (6, [.ref a2, .int q.1])), (a2, .inl (E.2.1, n2, .inl q.2))] H_500 := hP_500
      replace hD_500 : va_D A [(qs, .inl (E.2.1, 8, .inl z_496.2)), (h, .inr (4, [.ref qw, .ref qs])), (qw, .inl (E.2.1, 64, .inl u_499)), (h2, .inr (6, [.ref a2, .int q.1])), (a2, .inl (E.2.1, n2, .inl q.2))] := hD_500
      clear hP_496 hD_496 hS_496
      refine lv_iload hx hb dX2_sum_57 (lv_at hl_496 0 rfl) ?_
      refine lv_iload_n hx hb dX2_sum_59 rfl (lv_at hl_496 1 rfl) ?_
      refine lv_iconst (v := 1) hx hb dX2_sum_60 (by decide) ?_
      refine lv_isub hx hb dX2_sum_61 ?_
      refine lv_icmp_ne (tgt := 79) hx hb dX2_sum_62 (by decide) (fun c_501 => ?_) (fun c_501 => ?_)
      · replace c_501 : ¬ ((nI i_496) = ((((r_430 + 8) / 64) + 1) - 1)) := c_501
        refine lv_aload_n hx hb dX2_sum_79 rfl (lv_at hl_496 2 rfl) ?_
        refine gVv hF hl_496 hV hP_500 hD_500 hS_500 hA [1, 2] [0, 3, 4] (wc := [(h, .inr (4, [.ref qw, .ref qs])), (qw, .inl (E.2.1, 64, .inl u_499))]) (wr := [(qs, .inl (E.2.1, 8, .inl z_496.2)), (h2, .inr (6, [.ref a2, .int q.1])), (a2, .inl (E.2.1, n2, .inl q.2))]) rfl rfl rfl (by decide) 0 4 rfl rfl rfl (k_X2_stretch E l h qw qs u_499) (cwV 0 hts gX2_sum_X2_stretch rfl rfl rfl (by decide +kernel) ⟨Nat.le_of_ble_eq_true rfl, Nat.le_of_ble_eq_true rfl⟩) rfl rfl rfl (Nat.le_of_ble_eq_true rfl) dX2_sum_80 ⟨Nat.le_of_ble_eq_true rfl, Nat.le_of_ble_eq_true rfl⟩ (fun u_502 H_503 locs_503 hu_502 hP_503 hD_503 hS_503 => ?_)
        replace hu_502 : u_502 = F_X2_stretch u_499 := hu_502
        replace hP_503 : va_P E.1 vwCl [(qs, .inl (E.2.1, 8, .inl z_496.2)), (h2, .inr (6, [.ref a2, .int q.1])), (a2, .inl (E.2.1, n2, .inl q.2)), (h, .inr (4, [.ref qw, .ref qs])), (qw, .inl (E.2.1, 64, .inl u_502))] H_503 := hP_503
        replace hD_503 : va_D A [(qs, .inl (E.2.1, 8, .inl z_496.2)), (h2, .inr (6, [.ref a2, .int q.1])), (a2, .inl (E.2.1, n2, .inl q.2)), (h, .inr (4, [.ref qw, .ref qs])), (qw, .inl (E.2.1, 64, .inl u_502))] := hD_503
        clear hP_500 hD_500 hS_500
        refine lv_aload_n hx hb dX2_sum_83 rfl (lv_at hl_496 2 rfl) ?_
        refine gVv hF hl_496 hV hP_503 hD_503 hS_503 hA [3, 4, 0] [1, 2] (wc := [(h, .inr (4, [.ref qw, .ref qs])), (qw, .inl (E.2.1, 64, .inl u_502)), (qs, .inl (E.2.1, 8, .inl z_496.2))]) (wr := [(h2, .inr (6, [.ref a2, .int q.1])), (a2, .inl (E.2.1, n2, .inl q.2))]) rfl rfl rfl (by decide) 0 4 rfl rfl rfl (k_X2_mix E l h qw qs u_502 z_496.2) (cwV 0 hts gX2_sum_X2_mix rfl rfl rfl (by decide +kernel) ⟨Nat.le_of_ble_eq_true rfl, Nat.le_of_ble_eq_true rfl⟩) rfl rfl rfl (Nat.le_of_ble_eq_true rfl) dX2_sum_84 ⟨Nat.le_of_ble_eq_true rfl, Nat.le_of_ble_eq_true rfl⟩ (fun u_504 H_505 locs_505 hu_504 hP_505 hD_505 hS_505 => ?_)
        replace hu_504 : u_504 = F_X2_mix u_502 z_496.2 := hu_504
        replace hP_505 : va_P E.1 vwCl [(h2, .inr (6, [.ref a2, .int q.1])), (a2, .inl (E.2.1, n2, .inl q.2)), (h, .inr (4, [.ref qw, .ref qs])), (qw, .inl (E.2.1, 64, .inl u_502)), (qs, .inl (E.2.1, 8, .inl u_504))] H_505 := hP_505
        replace hD_505 : va_D A [(h2, .inr (6, [.ref a2, .int q.1])), (a2, .inl (E.2.1, n2, .inl q.2)), (h, .inr (4, [.ref qw, .ref qs])), (qw, .inl (E.2.1, 64, .inl u_502)), (qs, .inl (E.2.1, 8, .inl u_504))] := hD_505
        clear hP_503 hD_503 hS_503
        refine lv_iinc (v := (nI (i_496 + 1))) (lv' := [(4, .int (nI (i_496 + 1))), (3, .int (((r_430 + 8) / 64) + 1)), (0, .ref h), (1, .ref h2), (2, .ref h2)]) hx hb dX2_sum_87 hl_496 (k := 0) rfl (nI_add _ 1) (by decide) rfl (fun ls_506 hl_506 => ?_)
        clear hl_496
        refine lv_goto (tgt := 41) hx hb dX2_sum_90 (by decide) ?_
        exact ih_496 ((u_502, u_504) : (Nat → Int32) × (Nat → Int32)) _ _ _ (((show (B_X2_sum_same_41 n2 q r_430) i_496 z_496 = _ from (gLet_eq hu_499 ((if_neg c_501).trans (gLet_eq hu_502 (gLet_eq hu_504 rfl))))).symm.trans (congrArg ((B_X2_sum_same_41 n2 q r_430) i_496) hz_496)).trans (itr_s _ _ _).symm) ⟨lv_sub hl_506 [0, 1, 2, 3, 4] rfl, (hP_505.sub [2, 3, 4, 1, 0] rfl), (hD_505.sub [2, 3, 4, 1, 0] (by decide) rfl), hS_505⟩
      · replace c_501 : (nI i_496) = ((((r_430 + 8) / 64) + 1) - 1) := c_501
        refine lv_aload_n hx hb dX2_sum_65 rfl (lv_at hl_496 2 rfl) ?_
        refine va_get (D := E.1) (ci := 4) (v := .ref qw) (C := RX2) (T := TX2) (N := 2) hx hb hts in_X2 hown hK hP_500 1 rfl rfl 0 (by decide) w_2 (fun _ h9 => h9) rfl dX2_sum_66 ?_
        refine lv_bipush (v := 15) hx hb dX2_sum_69 (by decide) ?_
        refine lv_bipush (v := 8) hx hb dX2_sum_71 (by decide) ?_
        refine lv_aload_n hx hb dX2_sum_73 rfl (lv_at hl_496 3 rfl) ?_
        refine gVi hF hl_496 hV hP_500 hD_500 hS_500 hA [3] [0, 1, 2, 4] (wc := [(h2, .inr (6, [.ref a2, .int q.1]))]) (wr := [(qs, .inl (E.2.1, 8, .inl z_496.2)), (h, .inr (4, [.ref qw, .ref qs])), (qw, .inl (E.2.1, 64, .inl u_499)), (a2, .inl (E.2.1, n2, .inl q.2))]) rfl rfl rfl (by decide) 0 6 rfl rfl rfl (k_X5_count E l h2 a2 q) (cwV 0 hts gX2_sum_X5_count rfl rfl rfl (by decide +kernel) ⟨Nat.le_of_ble_eq_true rfl, Nat.le_of_ble_eq_true rfl⟩) rfl rfl rfl (Nat.le_of_ble_eq_true rfl) dX2_sum_74 ⟨Nat.le_of_ble_eq_true rfl, Nat.le_of_ble_eq_true rfl⟩ (fun r_507 _ H_508 locs_508 hu_507 hP_508 hD_508 hS_508 => ?_)
        have er_507 : r_507 = F_X5_count q := hu_507
        clear hu_507
        replace hP_508 : va_P E.1 vwCl [(qs, .inl (E.2.1, 8, .inl z_496.2)), (h, .inr (4, [.ref qw, .ref qs])), (qw, .inl (E.2.1, 64, .inl u_499)), (a2, .inl (E.2.1, n2, .inl q.2)), (h2, .inr (6, [.ref a2, .int q.1]))] H_508 := hP_508
        replace hD_508 : va_D A [(qs, .inl (E.2.1, 8, .inl z_496.2)), (h, .inr (4, [.ref qw, .ref qs])), (qw, .inl (E.2.1, 64, .inl u_499)), (a2, .inl (E.2.1, n2, .inl q.2)), (h2, .inr (6, [.ref a2, .int q.1]))] := hD_508
        clear hP_500 hD_500 hS_500
        refine lv_imul hx hb dX2_sum_77 ?_
        refine g_iast (e0 := 15) hx hb hK hP_508 hD_508 hS_508 2 0 rfl rfl (by omega) (by omega) dX2_sum_78 (fun H_509 locs_509 hP_509 hD_509 hS_509 => ?_)
        replace hP_509 : va_P E.1 vwCl [(qs, .inl (E.2.1, 8, .inl z_496.2)), (h, .inr (4, [.ref qw, .ref qs])), (qw, .inl (E.2.1, 64, .inl (upd u_499 15 (8 * r_507)))), (a2, .inl (E.2.1, n2, .inl q.2)), (h2, .inr (6, [.ref a2, .int q.1]))] H_509 := hP_509
        replace hD_509 : va_D A [(qs, .inl (E.2.1, 8, .inl z_496.2)), (h, .inr (4, [.ref qw, .ref qs])), (qw, .inl (E.2.1, 64, .inl (upd u_499 15 (8 * r_507)))), (a2, .inl (E.2.1, n2, .inl q.2)), (h2, .inr (6, [.ref a2, .int q.1]))] := hD_509
        clear hP_508 hD_508 hS_508
        refine lv_aload_n hx hb dX2_sum_79 rfl (lv_at hl_496 2 rfl) ?_
        refine gVv hF hl_496 hV hP_509 hD_509 hS_509 hA [1, 2] [0, 3, 4] (wc := [(h, .inr (4, [.ref qw, .ref qs])), (qw, .inl (E.2.1, 64, .inl (upd u_499 15 (8 * r_507))))]) (wr := [(qs, .inl (E.2.1, 8, .inl z_496.2)), (a2, .inl (E.2.1, n2, .inl q.2)), (h2, .inr (6, [.ref a2, .int q.1]))]) rfl rfl rfl (by decide) 0 4 rfl rfl rfl (k_X2_stretch E l h qw qs (upd u_499 15 (8 * r_507))) (cwV 0 hts gX2_sum_X2_stretch rfl rfl rfl (by decide +kernel) ⟨Nat.le_of_ble_eq_true rfl, Nat.le_of_ble_eq_true rfl⟩) rfl rfl rfl (Nat.le_of_ble_eq_true rfl) dX2_sum_80 ⟨Nat.le_of_ble_eq_true rfl, Nat.le_of_ble_eq_true rfl⟩ (fun u_510 H_511 locs_511 hu_510 hP_511 hD_511 hS_511 => ?_)
        replace hu_510 : u_510 = F_X2_stretch (upd u_499 15 (8 * r_507)) := hu_510
        replace hP_511 : va_P E.1 vwCl [(qs, .inl (E.2.1, 8, .inl z_496.2)), (a2, .inl (E.2.1, n2, .inl q.2)), (h2, .inr (6, [.ref a2, .int q.1])), (h, .inr (4, [.ref qw, .ref qs])), (qw, .inl (E.2.1, 64, .inl u_510))] H_511 := hP_511
        replace hD_511 : va_D A [(qs, .inl (E.2.1, 8, .inl z_496.2)), (a2, .inl (E.2.1, n2, .inl q.2)), (h2, .inr (6, [.ref a2, .int q.1])), (h, .inr (4, [.ref qw, .ref qs])), (qw, .inl (E.2.1, 64, .inl u_510))] := hD_511
        clear hP_509 hD_509 hS_509
        refine lv_aload_n hx hb dX2_sum_83 rfl (lv_at hl_496 2 rfl) ?_
        refine gVv hF hl_496 hV hP_511 hD_511 hS_511 hA [3, 4, 0] [1, 2] (wc := [(h, .inr (4, [.ref qw, .ref qs])), (qw, .inl (E.2.1, 64, .inl u_510)), (qs, .inl (E.2.1, 8, .inl z_496.2))]) (wr := [(a2, .inl (E.2.1, n2, .inl q.2)), (h2, .inr (6, [.ref a2, .int q.1]))]) rfl rfl rfl (by decide) 0 4 rfl rfl rfl (k_X2_mix E l h qw qs u_510 z_496.2) (cwV 0 hts gX2_sum_X2_mix rfl rfl rfl (by decide +kernel) ⟨Nat.le_of_ble_eq_true rfl, Nat.le_of_ble_eq_true rfl⟩) rfl rfl rfl (Nat.le_of_ble_eq_true rfl) dX2_sum_84 ⟨Nat.le_of_ble_eq_true rfl, Nat.le_of_ble_eq_true rfl⟩ (fun u_512 H_513 locs_513 hu_512 hP_513 hD_513 hS_513 => ?_)
        replace hu_512 : u_512 = F_X2_mix u_510 z_496.2 := hu_512
        replace hP_513 : va_P E.1 vwCl [(a2, .inl (E.2.1, n2, .inl q.2)), (h2, .inr (6, [.ref a2, .int q.1])), (h, .inr (4, [.ref qw, .ref qs])), (qw, .inl (E.2.1, 64, .inl u_510)), (qs, .inl (E.2.1, 8, .inl u_512))] H_513 := hP_513
        replace hD_513 : va_D A [(a2, .inl (E.2.1, n2, .inl q.2)), (h2, .inr (6, [.ref a2, .int q.1])), (h, .inr (4, [.ref qw, .ref qs])), (qw, .inl (E.2.1, 64, .inl u_510)), (qs, .inl (E.2.1, 8, .inl u_512))] := hD_513
        clear hP_511 hD_511 hS_511
        refine lv_iinc (v := (nI (i_496 + 1))) (lv' := [(4, .int (nI (i_496 + 1))), (3, .int (((r_430 + 8) / 64) + 1)), (0, .ref h), (1, .ref h2), (2, .ref h2)]) hx hb dX2_sum_87 hl_496 (k := 0) rfl (nI_add _ 1) (by decide) rfl (fun ls_514 hl_514 => ?_)
        clear hl_496
        refine lv_goto (tgt := 41) hx hb dX2_sum_90 (by decide) ?_
        exact ih_496 ((u_510, u_512) : (Nat → Int32) × (Nat → Int32)) _ _ _ (((show (B_X2_sum_same_41 n2 q r_430) i_496 z_496 = _ from (gLet_eq hu_499 ((if_pos c_501).trans (gLet_eq er_507 (gLet_eq hu_510 (gLet_eq hu_512 rfl)))))).symm.trans (congrArg ((B_X2_sum_same_41 n2 q r_430) i_496) hz_496)).trans (itr_s _ _ _).symm) ⟨lv_sub hl_514 [0, 1, 2, 3, 4] rfl, (hP_513.sub [2, 3, 4, 0, 1] rfl), (hD_513.sub [2, 3, 4, 0, 1] (by decide) rfl), hS_513⟩
    · intro z_515 H_515 locs_515 ls_515 hz_515 hI_515
      obtain ⟨hl_515, hP_515, hD_515, hS_515⟩ := hI_515
      replace hl_515 : lv_has ls_515 6 [(4, .int (nI (((((r_430 + 8) / 64) + 1).toNatClampNeg)))), (3, .int (((r_430 + 8) / 64) + 1)), (0, .ref h), (1, .ref h2), (2, .ref h2)] := hl_515
      replace hP_515 : va_P E.1 vwCl [(h, .inr (4, [.ref qw, .ref qs])), (qw, .inl (E.2.1, 64, .inl z_515.1)), (qs, .inl (E.2.1, 8, .inl z_515.2)), (a2, .inl (E.2.1, n2, .inl q.2)), (h2, .inr (6, [.ref a2, .int q.1]))] H_515 := hP_515
      replace hD_515 : va_D A [(h, .inr (4, [.ref qw, .ref qs])), (qw, .inl (E.2.1, 64, .inl z_515.1)), (qs, .inl (E.2.1, 8, .inl z_515.2)), (a2, .inl (E.2.1, n2, .inl q.2)), (h2, .inr (6, [.ref a2, .int q.1]))] := hD_515
      clear hl_433 hP_431 hD_431 hS_431
      refine lv_iload hx hb dX2_sum_41 (lv_at hl_515 0 rfl) ?_
      refine lv_iload_n hx hb dX2_sum_43 rfl (lv_at hl_515 1 rfl) ?_
      refine lv_icmp_ge (tgt := 93) hx hb dX2_sum_44 (by decide) (fun c_516 => ?_) (fun c_516 => (by have c_516 := (not_congr (g_rle (by omega))).mp c_516; exfalso; omega))
      replace c_516 : (((r_430 + 8) / 64) + 1).toNatClampNeg ≤ ((((r_430 + 8) / 64) + 1).toNatClampNeg) := (g_rle (by omega)).mp c_516
      refine lv_aload_n hx hb dX2_sum_93 rfl (lv_at hl_515 4 rfl) ?_
      refine gVv hF hl_515 hV hP_515 hD_515 hS_515 hA [4] [0, 1, 2, 3] (wc := [(h2, .inr (6, [.ref a2, .int q.1]))]) (wr := [(h, .inr (4, [.ref qw, .ref qs])), (qw, .inl (E.2.1, 64, .inl z_515.1)), (qs, .inl (E.2.1, 8, .inl z_515.2)), (a2, .inl (E.2.1, n2, .inl q.2))]) rfl rfl rfl (by decide) 0 6 rfl rfl rfl (k_X5_clear E l h2 a2 q) (cwV 0 hts gX2_sum_X5_clear rfl rfl rfl (by decide +kernel) ⟨Nat.le_of_ble_eq_true rfl, Nat.le_of_ble_eq_true rfl⟩) rfl rfl rfl (Nat.le_of_ble_eq_true rfl) dX2_sum_94 ⟨Nat.le_of_ble_eq_true rfl, Nat.le_of_ble_eq_true rfl⟩ (fun u_517 H_518 locs_518 hu_517 hP_518 hD_518 hS_518 => ?_)
      replace hu_517 : u_517 = F_X5_clear q := hu_517
      replace hP_518 : va_P E.1 vwCl [(h, .inr (4, [.ref qw, .ref qs])), (qw, .inl (E.2.1, 64, .inl z_515.1)), (qs, .inl (E.2.1, 8, .inl z_515.2)), (a2, .inl (E.2.1, n2, .inl q.2)), (h2, .inr (6, [.ref a2, .int u_517.1]))] H_518 := hP_518
      replace hD_518 : va_D A [(h, .inr (4, [.ref qw, .ref qs])), (qw, .inl (E.2.1, 64, .inl z_515.1)), (qs, .inl (E.2.1, 8, .inl z_515.2)), (a2, .inl (E.2.1, n2, .inl q.2)), (h2, .inr (6, [.ref a2, .int u_517.1]))] := hD_518
      clear hP_515 hD_515 hS_515
      refine lv_iconst (v := 0) hx hb dX2_sum_97 (by decide) ?_
      refine lv_istore (lv' := [(4, .int 0), (3, .int (((r_430 + 8) / 64) + 1)), (0, .ref h), (1, .ref h2), (2, .ref h2)]) hx hb dX2_sum_98 hl_515 (by decide) rfl (fun ls_519 hl_519 => ?_)
      clear hl_515
      refine g_up (N := 8) (B_X2_sum_same_100 n2 z_515) ((u_517.1, q.2) : gRow) (Inv := fun i_0 z_586 H_0 locs_0 ls_0 => lv_has ls_0 6 [(4, .int (nI i_0)), (3, .int (((r_430 + 8) / 64) + 1)), (0, .ref h), (1, .ref h2), (2, .ref h2)] ∧ va_P E.1 vwCl [(h, .inr (4, [.ref qw, .ref qs])), (qw, .inl (E.2.1, 64, .inl z_515.1)), (qs, .inl (E.2.1, 8, .inl z_515.2)), (a2, .inl (E.2.1, n2, .inl z_586.2)), (h2, .inr (6, [.ref a2, .int z_586.1]))] H_0 ∧ va_D A [(h, .inr (4, [.ref qw, .ref qs])), (qw, .inl (E.2.1, 64, .inl z_515.1)), (qs, .inl (E.2.1, 8, .inl z_515.2)), (a2, .inl (E.2.1, n2, .inl z_586.2)), (h2, .inr (6, [.ref a2, .int z_586.1]))] ∧ va_S A s.heap H_0 locs_0) (G := fun H_0 locs_0 ls_0 => W _ _ _ _ _ _ _ _ _ _ H_0 locs_0 _ _ _ (F0 _ 100 ls_0 [])) ?_ ?_ ⟨lv_sub hl_519 [0, 1, 2, 3, 4] rfl, hP_518, hD_518, hS_518⟩
      · intro j_587 i_587 z_587 H_587 locs_587 ls_587 hij_587 hz_587 hI_587 ih_587
        obtain ⟨hl_587, hP_587, hD_587, hS_587⟩ := hI_587
        replace hl_587 : lv_has ls_587 6 [(4, .int (nI i_587)), (3, .int (((r_430 + 8) / 64) + 1)), (0, .ref h), (1, .ref h2), (2, .ref h2)] := hl_587
        replace hP_587 : va_P E.1 vwCl [(h, .inr (4, [.ref qw, .ref qs])), (qw, .inl (E.2.1, 64, .inl z_515.1)), (qs, .inl (E.2.1, 8, .inl z_515.2)), (a2, .inl (E.2.1, n2, .inl z_587.2)), (h2, .inr (6, [.ref a2, .int z_587.1]))] H_587 := hP_587
        replace hD_587 : va_D A [(h, .inr (4, [.ref qw, .ref qs])), (qw, .inl (E.2.1, 64, .inl z_515.1)), (qs, .inl (E.2.1, 8, .inl z_515.2)), (a2, .inl (E.2.1, n2, .inl z_587.2)), (h2, .inr (6, [.ref a2, .int z_587.1]))] := hD_587
        clear hl_519 hP_518 hD_518 hS_518
        refine lv_iload hx hb dX2_sum_100 (lv_at hl_587 0 rfl) ?_
        refine lv_bipush (v := 8) hx hb dX2_sum_102 (by decide) ?_
        refine lv_icmp_ge (tgt := 142) hx hb dX2_sum_104 (by decide) (fun c_588 => (by have c_588 := (nI_leI (a := 8) (b := i_587) (by omega) (by omega)).mp c_588; exfalso; omega)) (fun c_588 => ?_)
        replace c_588 : ¬ 8 ≤ i_587 := (not_congr (nI_leI (a := 8) (b := i_587) (by omega) (by omega))).mp c_588
        refine lv_bipush (v := 24) hx hb dX2_sum_107 (by decide) ?_
        refine lv_istore (lv' := [(5, .int 24), (4, .int (nI i_587)), (3, .int (((r_430 + 8) / 64) + 1)), (0, .ref h), (1, .ref h2), (2, .ref h2)]) hx hb dX2_sum_109 hl_587 (by decide) rfl (fun ls_589 hl_589 => ?_)
        clear hl_587
        refine lv_iload hx hb dX2_sum_111 (lv_at hl_589 0 rfl) ?_
        refine lv_if_lt (tgt := 136) hx hb dX2_sum_113 (by decide) (fun c_590 => absurd c_590 (by decide)) (fun c_590 => ?_)
        refine lv_aload_n hx hb dX2_sum_116 rfl (lv_at hl_589 5 rfl) ?_
        refine lv_aload_n hx hb dX2_sum_117 rfl (lv_at hl_589 3 rfl) ?_
        refine va_get (D := E.1) (ci := 4) (v := .ref qs) (C := RX2) (T := TX2) (N := 2) hx hb hts in_X2 hown hK hP_587 0 rfl rfl 1 (by decide) w_0 (fun _ h9 => h9) rfl dX2_sum_118 ?_
        refine lv_iload hx hb dX2_sum_121 (lv_at hl_589 1 rfl) ?_
        refine g_iald (e0 := i_587) hx hb hK hP_587 2 0 rfl rfl (by omega) (by omega) dX2_sum_123 ?_
        refine lv_iload hx hb dX2_sum_124 (lv_at hl_589 0 rfl) ?_
        refine lv_iushr (v := g_us (z_515.2 i_587) 24) hx hb dX2_sum_126 rfl ?_
        refine gVv hF hl_589 hV hP_587 hD_587 hS_587 hA [4, 3] [0, 1, 2] (wc := [(h2, .inr (6, [.ref a2, .int z_587.1])), (a2, .inl (E.2.1, n2, .inl z_587.2))]) (wr := [(h, .inr (4, [.ref qw, .ref qs])), (qw, .inl (E.2.1, 64, .inl z_515.1)), (qs, .inl (E.2.1, 8, .inl z_515.2))]) rfl rfl rfl (by decide) 0 6 rfl rfl rfl (k_X5_add E l h2 a2 n2 z_587 (g_us (z_515.2 i_587) 24) (by omega)) (cwV 1 hts gX2_sum_X5_add rfl rfl rfl (by decide +kernel) ⟨Nat.le_of_ble_eq_true rfl, Nat.le_of_ble_eq_true rfl⟩) rfl rfl rfl (Nat.le_of_ble_eq_true rfl) dX2_sum_127 ⟨Nat.le_of_ble_eq_true rfl, Nat.le_of_ble_eq_true rfl⟩ (fun u_591 H_592 locs_592 hu_591 hP_592 hD_592 hS_592 => ?_)
        replace hu_591 : u_591 = F_X5_add n2 z_587 (g_us (z_515.2 i_587) 24) := hu_591
        replace hP_592 : va_P E.1 vwCl [(h, .inr (4, [.ref qw, .ref qs])), (qw, .inl (E.2.1, 64, .inl z_515.1)), (qs, .inl (E.2.1, 8, .inl z_515.2)), (h2, .inr (6, [.ref a2, .int u_591.1])), (a2, .inl (E.2.1, n2, .inl u_591.2))] H_592 := hP_592
        replace hD_592 : va_D A [(h, .inr (4, [.ref qw, .ref qs])), (qw, .inl (E.2.1, 64, .inl z_515.1)), (qs, .inl (E.2.1, 8, .inl z_515.2)), (h2, .inr (6, [.ref a2, .int u_591.1])), (a2, .inl (E.2.1, n2, .inl u_591.2))] := hD_592
        clear hP_587 hD_587 hS_587
        refine lv_iinc (v := 16) (lv' := [(5, .int 16), (4, .int (nI i_587)), (3, .int (((r_430 + 8) / 64) + 1)), (0, .ref h), (1, .ref h2), (2, .ref h2)]) hx hb dX2_sum_130 hl_589 (k := 0) rfl (by decide) (by decide) rfl (fun ls_593 hl_593 => ?_)
        clear hl_589
        refine lv_goto (tgt := 111) hx hb dX2_sum_133 (by decide) ?_
        refine lv_iload hx hb dX2_sum_111 (lv_at hl_593 0 rfl) ?_
        refine lv_if_lt (tgt := 136) hx hb dX2_sum_113 (by decide) (fun c_594 => absurd c_594 (by decide)) (fun c_594 => ?_)
        refine lv_aload_n hx hb dX2_sum_116 rfl (lv_at hl_593 5 rfl) ?_
        refine lv_aload_n hx hb dX2_sum_117 rfl (lv_at hl_593 3 rfl) ?_
        refine va_get (D := E.1) (ci := 4) (v := .ref qs) (C := RX2) (T := TX2) (N := 2) hx hb hts in_X2 hown hK hP_592 0 rfl rfl 1 (by decide) w_0 (fun _ h9 => h9) rfl dX2_sum_118 ?_
        refine lv_iload hx hb dX2_sum_121 (lv_at hl_593 1 rfl) ?_
        refine g_iald (e0 := i_587) hx hb hK hP_592 2 0 rfl rfl (by omega) (by omega) dX2_sum_123 ?_
        refine lv_iload hx hb dX2_sum_124 (lv_at hl_593 0 rfl) ?_
        refine lv_iushr (v := g_us (z_515.2 i_587) 16) hx hb dX2_sum_126 rfl ?_
        refine gVv hF hl_593 hV hP_592 hD_592 hS_592 hA [3, 4] [0, 1, 2] (wc := [(h2, .inr (6, [.ref a2, .int u_591.1])), (a2, .inl (E.2.1, n2, .inl u_591.2))]) (wr := [(h, .inr (4, [.ref qw, .ref qs])), (qw, .inl (E.2.1, 64, .inl z_515.1)), (qs, .inl (E.2.1, 8, .inl z_515.2))]) rfl rfl rfl (by decide) 0 6 rfl rfl rfl (k_X5_add E l h2 a2 n2 u_591 (g_us (z_515.2 i_587) 16) (by omega)) (cwV 1 hts gX2_sum_X5_add rfl rfl rfl (by decide +kernel) ⟨Nat.le_of_ble_eq_true rfl, Nat.le_of_ble_eq_true rfl⟩) rfl rfl rfl (Nat.le_of_ble_eq_true rfl) dX2_sum_127 ⟨Nat.le_of_ble_eq_true rfl, Nat.le_of_ble_eq_true rfl⟩ (fun u_595 H_596 locs_596 hu_595 hP_596 hD_596 hS_596 => ?_)
        replace hu_595 : u_595 = F_X5_add n2 u_591 (g_us (z_515.2 i_587) 16) := hu_595
        replace hP_596 : va_P E.1 vwCl [(h, .inr (4, [.ref qw, .ref qs])), (qw, .inl (E.2.1, 64, .inl z_515.1)), (qs, .inl (E.2.1, 8, .inl z_515.2)), (h2, .inr (6, [.ref a2, .int u_595.1])), (a2, .inl (E.2.1, n2, .inl u_595.2))] H_596 := hP_596
        replace hD_596 : va_D A [(h, .inr (4, [.ref qw, .ref qs])), (qw, .inl (E.2.1, 64, .inl z_515.1)), (qs, .inl (E.2.1, 8, .inl z_515.2)), (h2, .inr (6, [.ref a2, .int u_595.1])), (a2, .inl (E.2.1, n2, .inl u_595.2))] := hD_596
        clear hP_592 hD_592 hS_592
        refine lv_iinc (v := 8) (lv' := [(5, .int 8), (4, .int (nI i_587)), (3, .int (((r_430 + 8) / 64) + 1)), (0, .ref h), (1, .ref h2), (2, .ref h2)]) hx hb dX2_sum_130 hl_593 (k := 0) rfl (by decide) (by decide) rfl (fun ls_597 hl_597 => ?_)
        clear hl_593
        refine lv_goto (tgt := 111) hx hb dX2_sum_133 (by decide) ?_
        refine lv_iload hx hb dX2_sum_111 (lv_at hl_597 0 rfl) ?_
        refine lv_if_lt (tgt := 136) hx hb dX2_sum_113 (by decide) (fun c_598 => absurd c_598 (by decide)) (fun c_598 => ?_)
        refine lv_aload_n hx hb dX2_sum_116 rfl (lv_at hl_597 5 rfl) ?_
        refine lv_aload_n hx hb dX2_sum_117 rfl (lv_at hl_597 3 rfl) ?_
        refine va_get (D := E.1) (ci := 4) (v := .ref qs) (C := RX2) (T := TX2) (N := 2) hx hb hts in_X2 hown hK hP_596 0 rfl rfl 1 (by decide) w_0 (fun _ h9 => h9) rfl dX2_sum_118 ?_
        refine lv_iload hx hb dX2_sum_121 (lv_at hl_597 1 rfl) ?_
        refine g_iald (e0 := i_587) hx hb hK hP_596 2 0 rfl rfl (by omega) (by omega) dX2_sum_123 ?_
        refine lv_iload hx hb dX2_sum_124 (lv_at hl_597 0 rfl) ?_
        refine lv_iushr (v := g_us (z_515.2 i_587) 8) hx hb dX2_sum_126 rfl ?_
        refine gVv hF hl_597 hV hP_596 hD_596 hS_596 hA [3, 4] [0, 1, 2] (wc := [(h2, .inr (6, [.ref a2, .int u_595.1])), (a2, .inl (E.2.1, n2, .inl u_595.2))]) (wr := [(h, .inr (4, [.ref qw, .ref qs])), (qw, .inl (E.2.1, 64, .inl z_515.1)), (qs, .inl (E.2.1, 8, .inl z_515.2))]) rfl rfl rfl (by decide) 0 6 rfl rfl rfl (k_X5_add E l h2 a2 n2 u_595 (g_us (z_515.2 i_587) 8) (by omega)) (cwV 1 hts gX2_sum_X5_add rfl rfl rfl (by decide +kernel) ⟨Nat.le_of_ble_eq_true rfl, Nat.le_of_ble_eq_true rfl⟩) rfl rfl rfl (Nat.le_of_ble_eq_true rfl) dX2_sum_127 ⟨Nat.le_of_ble_eq_true rfl, Nat.le_of_ble_eq_true rfl⟩ (fun u_599 H_600 locs_600 hu_599 hP_600 hD_600 hS_600 => ?_)
        replace hu_599 : u_599 = F_X5_add n2 u_595 (g_us (z_515.2 i_587) 8) := hu_599
        replace hP_600 : va_P E.1 vwCl [(h, .inr (4, [.ref qw, .ref qs])), (qw, .inl (E.2.1, 64, .inl z_515.1)), (qs, .inl (E.2.1, 8, .inl z_515.2)), (h2, .inr (6, [.ref a2, .int u_599.1])), (a2, .inl (E.2.1, n2, .inl u_599.2))] H_600 := hP_600
        replace hD_600 : va_D A [(h, .inr (4, [.ref qw, .ref qs])), (qw, .inl (E.2.1, 64, .inl z_515.1)), (qs, .inl (E.2.1, 8, .inl z_515.2)), (h2, .inr (6, [.ref a2, .int u_599.1])), (a2, .inl (E.2.1, n2, .inl u_599.2))] := hD_600
        clear hP_596 hD_596 hS_596
        refine lv_iinc (v := 0) (lv' := [(5, .int 0), (4, .int (nI i_587)), (3, .int (((r_430 + 8) / 64) + 1)), (0, .ref h), (1, .ref h2), (2, .ref h2)]) hx hb dX2_sum_130 hl_597 (k := 0) rfl (by decide) (by decide) rfl (fun ls_601 hl_601 => ?_)
        clear hl_597
        refine lv_goto (tgt := 111) hx hb dX2_sum_133 (by decide) ?_
        refine lv_iload hx hb dX2_sum_111 (lv_at hl_601 0 rfl) ?_
        refine lv_if_lt (tgt := 136) hx hb dX2_sum_113 (by decide) (fun c_602 => absurd c_602 (by decide)) (fun c_602 => ?_)
        refine lv_aload_n hx hb dX2_sum_116 rfl (lv_at hl_601 5 rfl) ?_
        refine lv_aload_n hx hb dX2_sum_117 rfl (lv_at hl_601 3 rfl) ?_
        refine va_get (D := E.1) (ci := 4) (v := .ref qs) (C := RX2) (T := TX2) (N := 2) hx hb hts in_X2 hown hK hP_600 0 rfl rfl 1 (by decide) w_0 (fun _ h9 => h9) rfl dX2_sum_118 ?_
        refine lv_iload hx hb dX2_sum_121 (lv_at hl_601 1 rfl) ?_
        refine g_iald (e0 := i_587) hx hb hK hP_600 2 0 rfl rfl (by omega) (by omega) dX2_sum_123 ?_
        refine lv_iload hx hb dX2_sum_124 (lv_at hl_601 0 rfl) ?_
        refine lv_iushr (v := g_us (z_515.2 i_587) 0) hx hb dX2_sum_126 rfl ?_
        refine gVv hF hl_601 hV hP_600 hD_600 hS_600 hA [3, 4] [0, 1, 2] (wc := [(h2, .inr (6, [.ref a2, .int u_599.1])), (a2, .inl (E.2.1, n2, .inl u_599.2))]) (wr := [(h, .inr (4, [.ref qw, .ref qs])), (qw, .inl (E.2.1, 64, .inl z_515.1)), (qs, .inl (E.2.1, 8, .inl z_515.2))]) rfl rfl rfl (by decide) 0 6 rfl rfl rfl (k_X5_add E l h2 a2 n2 u_599 (g_us (z_515.2 i_587) 0) (by omega)) (cwV 1 hts gX2_sum_X5_add rfl rfl rfl (by decide +kernel) ⟨Nat.le_of_ble_eq_true rfl, Nat.le_of_ble_eq_true rfl⟩) rfl rfl rfl (Nat.le_of_ble_eq_true rfl) dX2_sum_127 ⟨Nat.le_of_ble_eq_true rfl, Nat.le_of_ble_eq_true rfl⟩ (fun u_603 H_604 locs_604 hu_603 hP_604 hD_604 hS_604 => ?_)
        replace hu_603 : u_603 = F_X5_add n2 u_599 (g_us (z_515.2 i_587) 0) := hu_603
        replace hP_604 : va_P E.1 vwCl [(h, .inr (4, [.ref qw, .ref qs])), (qw, .inl (E.2.1, 64, .inl z_515.1)), (qs, .inl (E.2.1, 8, .inl z_515.2)), (h2, .inr (6, [.ref a2, .int u_603.1])), (a2, .inl (E.2.1, n2, .inl u_603.2))] H_604 := hP_604
        replace hD_604 : va_D A [(h, .inr (4, [.ref qw, .ref qs])), (qw, .inl (E.2.1, 64, .inl z_515.1)), (qs, .inl (E.2.1, 8, .inl z_515.2)), (h2, .inr (6, [.ref a2, .int u_603.1])), (a2, .inl (E.2.1, n2, .inl u_603.2))] := hD_604
        clear hP_600 hD_600 hS_600
        refine lv_iinc (v := (-8)) (lv' := [(5, .int (-8)), (4, .int (nI i_587)), (3, .int (((r_430 + 8) / 64) + 1)), (0, .ref h), (1, .ref h2), (2, .ref h2)]) hx hb dX2_sum_130 hl_601 (k := 0) rfl (by decide) (by decide) rfl (fun ls_605 hl_605 => ?_)
        clear hl_601
        refine lv_goto (tgt := 111) hx hb dX2_sum_133 (by decide) ?_
        refine lv_iload hx hb dX2_sum_111 (lv_at hl_605 0 rfl) ?_
        refine lv_if_lt (tgt := 136) hx hb dX2_sum_113 (by decide) (fun c_606 => ?_) (fun c_606 => absurd (by decide) c_606)
        refine lv_iinc (v := (nI (i_587 + 1))) (lv' := [(4, .int (nI (i_587 + 1))), (5, .int (-8)), (3, .int (((r_430 + 8) / 64) + 1)), (0, .ref h), (1, .ref h2), (2, .ref h2)]) hx hb dX2_sum_136 hl_605 (k := 1) rfl (nI_add _ 1) (by decide) rfl (fun ls_607 hl_607 => ?_)
        clear hl_605
        refine lv_goto (tgt := 100) hx hb dX2_sum_139 (by decide) ?_
        exact ih_587 (u_603 : gRow) _ _ _ (((show (B_X2_sum_same_100 n2 z_515) i_587 z_587 = _ from (gLet_eq hu_591 (gLet_eq hu_595 (gLet_eq hu_599 (gLet_eq hu_603 rfl))))).symm.trans (congrArg ((B_X2_sum_same_100 n2 z_515) i_587) hz_587)).trans (itr_s _ _ _).symm) ⟨lv_sub hl_607 [0, 2, 3, 4, 5] rfl, (hP_604.sub [0, 1, 2, 4, 3] rfl), (hD_604.sub [0, 1, 2, 4, 3] (by decide) rfl), hS_604⟩
      · intro z_608 H_608 locs_608 ls_608 hz_608 hI_608
        obtain ⟨hl_608, hP_608, hD_608, hS_608⟩ := hI_608
        replace hl_608 : lv_has ls_608 6 [(4, .int (nI 8)), (3, .int (((r_430 + 8) / 64) + 1)), (0, .ref h), (1, .ref h2), (2, .ref h2)] := hl_608
        replace hP_608 : va_P E.1 vwCl [(h, .inr (4, [.ref qw, .ref qs])), (qw, .inl (E.2.1, 64, .inl z_515.1)), (qs, .inl (E.2.1, 8, .inl z_515.2)), (a2, .inl (E.2.1, n2, .inl z_608.2)), (h2, .inr (6, [.ref a2, .int z_608.1]))] H_608 := hP_608
        replace hD_608 : va_D A [(h, .inr (4, [.ref qw, .ref qs])), (qw, .inl (E.2.1, 64, .inl z_515.1)), (qs, .inl (E.2.1, 8, .inl z_515.2)), (a2, .inl (E.2.1, n2, .inl z_608.2)), (h2, .inr (6, [.ref a2, .int z_608.1]))] := hD_608
        clear hl_519 hP_518 hD_518 hS_518
        refine lv_iload hx hb dX2_sum_100 (lv_at hl_608 0 rfl) ?_
        refine lv_bipush (v := 8) hx hb dX2_sum_102 (by decide) ?_
        refine lv_icmp_ge (tgt := 142) hx hb dX2_sum_104 (by decide) (fun c_609 => ?_) (fun c_609 => absurd c_429 ((not_congr (nI_leI (a := 8) (b := 8) (by omega) (by omega))).mp c_609))
        replace c_609 : 8 ≤ 8 := (nI_leI (a := 8) (b := 8) (by omega) (by omega)).mp c_609
        have hpost : ((z_515.1, z_515.2, z_608) : (Nat → Int32) × (Nat → Int32) × gRow) = F_X2_sum_same n2 wd st q := (show F_X2_sum_same n2 wd st q = ((z_515.1, z_515.2, z_608) : (Nat → Int32) × (Nat → Int32) × gRow) from (gLet_eq hz_428 (gLet_eq er_430 (gLet_eq hz_515 (gLet_eq hu_517 (gLet_eq hz_608 rfl)))))).symm
        have hP9 := hP_608.sub (ws' := [(h, .inr (4, [.ref qw, .ref qs])), (qw, .inl (E.2.1, 64, .inl z_515.1)), (qs, .inl (E.2.1, 8, .inl z_515.2)), (h2, .inr (6, [.ref a2, .int z_608.1])), (a2, .inl (E.2.1, n2, .inl z_608.2))]) [0, 1, 2, 4, 3] rfl
        have hD9 := hD_608.sub (ws' := [(h, .inr (4, [.ref qw, .ref qs])), (qw, .inl (E.2.1, 64, .inl z_515.1)), (qs, .inl (E.2.1, 8, .inl z_515.2)), (h2, .inr (6, [.ref a2, .int z_608.1])), (a2, .inl (E.2.1, n2, .inl z_608.2))]) [0, 1, 2, 4, 3] (by decide) rfl
        exact W.vret hx hb hr (fun t ht hW => ⟨⟨(z_515.1, z_515.2, z_608), rfl, hpost, by rw [ht]; exact hP9, hD9⟩, hS_608.F ht⟩) hS_608.2.2 dX2_sum_142
