set_option maxHeartbeats 4000000 in
set_option maxRecDepth 100000 in
theorem k_X9_isOpen_e (E : gE) (l : Launch) (hv huser howner htried hident htape hsecret qent hnoe asecret : Nat) (rv : Nat) (given : Int32) (perm : Int32) (plain : Int32) (Xsecret : gRow) : gMi E l yX9_isOpen wsX9_isOpen ({ frames := 1, cells := 0, slots := 0, locals := 20 }) 0 0 [.ref hv] [(hv, .inr (10, [.int (nI rv), .ref huser, .ref howner, .ref htried, .ref hident, .ref htape, .int given, .ref hsecret, .ref qent, .ref hnoe, .int perm, .int plain])), (hsecret, .inr (6, [.ref asecret, .int Xsecret.1]))] (fun (rr : Int32) (_ : Unit) => rr = F_X9_isOpen_e Xsecret) (fun (_ : Unit) => [(hv, .inr (10, [.int (nI rv), .ref huser, .ref howner, .ref htried, .ref hident, .ref htape, .int given, .ref hsecret, .ref qent, .ref hnoe, .int perm, .int plain])), (hsecret, .inr (6, [.ref asecret, .int Xsecret.1]))]) := by
  intro sz
  refine Met.ofW (cc := cX9_isOpen) (maxL := 1) (ret := (some .boolean)) (by decide) rfl ?_
  intro p e s m args below meth c s₁ B hml hv
  obtain ⟨rfl, hsz, hP, hV, hD0⟩ := hv
  have hx := B.exec
  have hb := B.bytes
  have hr := B.returns
  have hts := atoms_spec (ws := wsX9_isOpen) B.pre
  have hown : s.vm.findClass RX9 = some m.cls := findClass_of_methodNamed B.named
  have hlocks := B.notSynchronized
  subst hsz
  have hD := hD0.self (sz := s.heap.size)
  clear hD0
  generalize hAe : va_A [(hv, .inr (10, [.int (nI rv), .ref huser, .ref howner, .ref htried, .ref hident, .ref htape, .int given, .ref hsecret, .ref qent, .ref hnoe, .int perm, .int plain])), (hsecret, .inr (6, [.ref asecret, .int Xsecret.1]))] s.heap.size = A at hD hV ⊢
  have hA : ∀ q : Nat, s.heap.size ≤ q → A q := fun q h => by rw [← hAe]; exact Or.inr h
  have hS : va_S A s.heap s.heap [] := va_S.rf
  have hK := hV.1
  have hF : CallFix p m c cX9_isOpen 1 s _ wsX9_isOpen RX9 := ⟨hx, hb, hml, hown, hts⟩
  have hl := lv_entry [.ref hv] (n := 1) (Nat.le_of_ble_eq_true rfl)
  rw [lg_entry_eq]
  generalize (lg_sl [.ref hv] ++ List.replicate (1 - (lg_sl [.ref hv]).length) Slot.unset).toArray = ls at hl ⊢
  have hl : lv_has ls 1 [(0, .ref hv)] := hl
  have in_X9 : ∀ w ∈ wsX90, w ∈ wsX9_isOpen := by decide +kernel
  have w_0 := hts (.fieldLink RX9 32 "CryptRows$Vault" "secret" "LCryptRows$Row;") (by decide +kernel)
  refine lv_aload_n hx hb dX9_isOpen_0 rfl (lv_at hl 0 rfl) ?_
  refine va_get (D := E.1) (ci := 10) (v := .ref hsecret) (C := RX9) (T := TX9) (N := 12) hx hb hts in_X9 hown hK hP 0 rfl rfl 7 (by decide) w_0 (fun _ h9 => h9) rfl dX9_isOpen_1 ?_
  refine gVi hF hl hV hP hD hS hA [1] [0] (wc := [(hsecret, .inr (6, [.ref asecret, .int Xsecret.1]))]) (wr := [(hv, .inr (10, [.int (nI rv), .ref huser, .ref howner, .ref htried, .ref hident, .ref htape, .int given, .ref hsecret, .ref qent, .ref hnoe, .int perm, .int plain]))]) rfl rfl rfl (by decide) 0 6 rfl rfl rfl (k_X5_count E l hsecret asecret Xsecret) (cwV 0 hts gX9_isOpen_X5_count rfl rfl rfl (by decide +kernel) ⟨Nat.le_of_ble_eq_true rfl, Nat.le_of_ble_eq_true rfl⟩) rfl rfl rfl (Nat.le_of_ble_eq_true rfl) dX9_isOpen_4 ⟨Nat.le_of_ble_eq_true rfl, Nat.le_of_ble_eq_true rfl⟩ (fun r_7 _ H_8 locs_8 hu_7 hP_8 hD_8 hS_8 => ?_)
  have er_7 : r_7 = F_X5_count Xsecret := hu_7
  clear hu_7
  replace hP_8 : va_P E.1 vwCl [(hv, .inr (10, [.int (nI rv), .ref huser, .ref howner, .ref htried, .ref hident, .ref htape, .int given, .ref hsecret, .ref qent, .ref hnoe, .int perm, .int plain])), (hsecret, .inr (6, [.ref asecret, .int Xsecret.1]))] H_8 := hP_8
  replace hD_8 : va_D A [(hv, .inr (10, [.int (nI rv), .ref huser, .ref howner, .ref htried, .ref hident, .ref htape, .int given, .ref hsecret, .ref qent, .ref hnoe, .int perm, .int plain])), (hsecret, .inr (6, [.ref asecret, .int Xsecret.1]))] := hD_8
  clear hP hD hS
  refine lv_if_le (tgt := 14) hx hb dX9_isOpen_7 (by decide) (fun c_9 => ?_) (fun c_9 => ?_)
  · replace c_9 : r_7 ≤ 0 := c_9
    refine lv_iconst (v := 0) hx hb dX9_isOpen_14 (by decide) ?_
    have hpost : (0 : Int32) = F_X9_isOpen_e Xsecret := (show F_X9_isOpen_e Xsecret = (0 : Int32) from (gLet_eq er_7 ((if_pos c_9).trans rfl))).symm
    have hP9 := hP_8.sub (ws' := [(hv, .inr (10, [.int (nI rv), .ref huser, .ref howner, .ref htried, .ref hident, .ref htape, .int given, .ref hsecret, .ref qent, .ref hnoe, .int perm, .int plain])), (hsecret, .inr (6, [.ref asecret, .int Xsecret.1]))]) [0, 1] rfl
    have hD9 := hD_8.sub (ws' := [(hv, .inr (10, [.int (nI rv), .ref huser, .ref howner, .ref htried, .ref hident, .ref htape, .int given, .ref hsecret, .ref qent, .ref hnoe, .int perm, .int plain])), (hsecret, .inr (6, [.ref asecret, .int Xsecret.1]))]) [0, 1] (by decide) rfl
    exact W.zret (v := 0) hx hb hr rfl (fun t ht hW => ⟨⟨0, (), rfl, hpost, by rw [ht]; exact hP9, hD9⟩, hS_8.F ht⟩) hS_8.2.2 dX9_isOpen_15
  · replace c_9 : ¬ (r_7 ≤ 0) := c_9
    refine lv_iconst (v := 1) hx hb dX9_isOpen_10 (by decide) ?_
    refine lv_goto (tgt := 15) hx hb dX9_isOpen_11 (by decide) ?_
    have hpost : (1 : Int32) = F_X9_isOpen_e Xsecret := (show F_X9_isOpen_e Xsecret = (1 : Int32) from (gLet_eq er_7 ((if_neg c_9).trans rfl))).symm
    have hP9 := hP_8.sub (ws' := [(hv, .inr (10, [.int (nI rv), .ref huser, .ref howner, .ref htried, .ref hident, .ref htape, .int given, .ref hsecret, .ref qent, .ref hnoe, .int perm, .int plain])), (hsecret, .inr (6, [.ref asecret, .int Xsecret.1]))]) [0, 1] rfl
    have hD9 := hD_8.sub (ws' := [(hv, .inr (10, [.int (nI rv), .ref huser, .ref howner, .ref htried, .ref hident, .ref htape, .int given, .ref hsecret, .ref qent, .ref hnoe, .int perm, .int plain])), (hsecret, .inr (6, [.ref asecret, .int Xsecret.1]))]) [0, 1] (by decide) rfl
    exact W.zret (v := 1) hx hb hr rfl (fun t ht hW => ⟨⟨1, (), rfl, hpost, by rw [ht]; exact hP9, hD9⟩, hS_8.F ht⟩) hS_8.2.2 dX9_isOpen_15
set_option maxHeartbeats 4000000 in
set_option maxRecDepth 100000 in
theorem k_X9_entryRow_e0 (E : gE) (l : Launch) (hv huser howner htried hident htape hsecret qent hnoe he0 he1 : Nat) (rv : Nat) (given : Int32) (perm : Int32) (plain : Int32) : gMr E l yX9_entryRow wsX9_entryRow ({ frames := 0, cells := 0, slots := 0, locals := 0 }) 0 0 [.ref hv, .int 0] [(hv, .inr (10, [.int (nI rv), .ref huser, .ref howner, .ref htried, .ref hident, .ref htape, .int given, .ref hsecret, .ref qent, .ref hnoe, .int perm, .int plain])), (qent, .inl (E.2.2.1, 2, .inr (.inr (.inr (.inr (gEnt [he0, he1]))))))] he0 (fun (_ : Unit) => True) (fun (_ : Unit) => [(hv, .inr (10, [.int (nI rv), .ref huser, .ref howner, .ref htried, .ref hident, .ref htape, .int given, .ref hsecret, .ref qent, .ref hnoe, .int perm, .int plain])), (qent, .inl (E.2.2.1, 2, .inr (.inr (.inr (.inr (gEnt [he0, he1]))))))]) := by
  intro sz
  refine Met.ofW (cc := cX9_entryRow) (maxL := 2) (ret := (some (.object "CryptRows$Row"))) (by decide) rfl ?_
  intro p e s m args below meth c s₁ B hml hv
  obtain ⟨rfl, hsz, hP, hV, hD0⟩ := hv
  have hx := B.exec
  have hb := B.bytes
  have hr := B.returns
  have hts := atoms_spec (ws := wsX9_entryRow) B.pre
  have hown : s.vm.findClass RX9 = some m.cls := findClass_of_methodNamed B.named
  have hlocks := B.notSynchronized
  subst hsz
  have hD := hD0.self (sz := s.heap.size)
  clear hD0
  generalize hAe : va_A [(hv, .inr (10, [.int (nI rv), .ref huser, .ref howner, .ref htried, .ref hident, .ref htape, .int given, .ref hsecret, .ref qent, .ref hnoe, .int perm, .int plain])), (qent, .inl (E.2.2.1, 2, .inr (.inr (.inr (.inr (gEnt [he0, he1]))))))] s.heap.size = A at hD hV ⊢
  have hA : ∀ q : Nat, s.heap.size ≤ q → A q := fun q h => by rw [← hAe]; exact Or.inr h
  have hS : va_S A s.heap s.heap [] := va_S.rf
  have hK := hV.1
  have hF : CallFix p m c cX9_entryRow 2 s _ wsX9_entryRow RX9 := ⟨hx, hb, hml, hown, hts⟩
  have hl := lv_entry [.ref hv, .int 0] (n := 2) (Nat.le_of_ble_eq_true rfl)
  rw [lg_entry_eq]
  generalize (lg_sl [.ref hv, .int 0] ++ List.replicate (2 - (lg_sl [.ref hv, .int 0]).length) Slot.unset).toArray = ls at hl ⊢
  have hl : lv_has ls 2 [(0, .ref hv), (1, .int 0)] := hl
  have in_X9 : ∀ w ∈ wsX90, w ∈ wsX9_entryRow := by decide +kernel
  have w_0 := hts (.fieldLink RX9 42 "CryptRows$Vault" "entries" "[LCryptRows$Row;") (by decide +kernel)
  refine lv_iload_n hx hb dX9_entryRow_0 rfl (lv_at hl 1 rfl) ?_
  refine lv_if_lt (tgt := 22) hx hb dX9_entryRow_1 (by decide) (fun c_5 => absurd c_5 (by decide)) (fun c_5 => ?_)
  refine lv_iload_n hx hb dX9_entryRow_4 rfl (lv_at hl 1 rfl) ?_
  refine lv_aload_n hx hb dX9_entryRow_5 rfl (lv_at hl 0 rfl) ?_
  refine va_get (D := E.1) (ci := 10) (v := .ref qent) (C := RX9) (T := TX9) (N := 12) hx hb hts in_X9 hown hK hP 0 rfl rfl 8 (by decide) w_0 (fun _ h9 => h9) rfl dX9_entryRow_6 ?_
  refine va_alen (v := 2) hx hb hK hP 1 1 rfl rfl rfl dX9_entryRow_9 ?_
  refine lv_icmp_ge (tgt := 22) hx hb dX9_entryRow_10 (by decide) (fun c_6 => absurd c_6 (by decide)) (fun c_6 => ?_)
  refine lv_aload_n hx hb dX9_entryRow_13 rfl (lv_at hl 0 rfl) ?_
  refine va_get (D := E.1) (ci := 10) (v := .ref qent) (C := RX9) (T := TX9) (N := 12) hx hb hts in_X9 hown hK hP 0 rfl rfl 8 (by decide) w_0 (fun _ h9 => h9) rfl dX9_entryRow_14 ?_
  refine lv_iload_n hx hb dX9_entryRow_17 rfl (lv_at hl 1 rfl) ?_
  refine g_aald (e0 := 0) (r := he0) hx hb hK hP 1 1 rfl rfl (by omega) (by omega) rfl dX9_entryRow_18 ?_
  refine lv_ifnonnull (tgt := 27) hx hb dX9_entryRow_19 (by decide) ?_
  refine lv_aload_n hx hb dX9_entryRow_27 rfl (lv_at hl 0 rfl) ?_
  refine va_get (D := E.1) (ci := 10) (v := .ref qent) (C := RX9) (T := TX9) (N := 12) hx hb hts in_X9 hown hK hP 0 rfl rfl 8 (by decide) w_0 (fun _ h9 => h9) rfl dX9_entryRow_28 ?_
  refine lv_iload_n hx hb dX9_entryRow_31 rfl (lv_at hl 1 rfl) ?_
  refine g_aald (e0 := 0) (r := he0) hx hb hK hP 1 1 rfl rfl (by omega) (by omega) rfl dX9_entryRow_32 ?_
  have hP9 := hP.sub (ws' := [(hv, .inr (10, [.int (nI rv), .ref huser, .ref howner, .ref htried, .ref hident, .ref htape, .int given, .ref hsecret, .ref qent, .ref hnoe, .int perm, .int plain])), (qent, .inl (E.2.2.1, 2, .inr (.inr (.inr (.inr (gEnt [he0, he1]))))))]) [0, 1] rfl
  have hD9 := hD.sub (ws' := [(hv, .inr (10, [.int (nI rv), .ref huser, .ref howner, .ref htried, .ref hident, .ref htape, .int given, .ref hsecret, .ref qent, .ref hnoe, .int perm, .int plain])), (qent, .inl (E.2.2.1, 2, .inr (.inr (.inr (.inr (gEnt [he0, he1]))))))]) [0, 1] (by decide) rfl
  exact W.aret (v := .ref he0) hx hb hr (Or.inl ⟨_, rfl⟩) (Or.inr ⟨_, rfl⟩) (fun t ht hW => ⟨⟨(), _, rfl, trivial, rfl, by rw [ht]; exact hP9, hD9⟩, hS.F ht⟩) hS.2.2 dX9_entryRow_33
set_option maxHeartbeats 4000000 in
set_option maxRecDepth 100000 in
theorem k_X9_entryRow_e1 (E : gE) (l : Launch) (hv huser howner htried hident htape hsecret qent hnoe he0 he1 : Nat) (rv : Nat) (given : Int32) (perm : Int32) (plain : Int32) : gMr E l yX9_entryRow wsX9_entryRow ({ frames := 0, cells := 0, slots := 0, locals := 0 }) 0 0 [.ref hv, .int 1] [(hv, .inr (10, [.int (nI rv), .ref huser, .ref howner, .ref htried, .ref hident, .ref htape, .int given, .ref hsecret, .ref qent, .ref hnoe, .int perm, .int plain])), (qent, .inl (E.2.2.1, 2, .inr (.inr (.inr (.inr (gEnt [he0, he1]))))))] he1 (fun (_ : Unit) => True) (fun (_ : Unit) => [(hv, .inr (10, [.int (nI rv), .ref huser, .ref howner, .ref htried, .ref hident, .ref htape, .int given, .ref hsecret, .ref qent, .ref hnoe, .int perm, .int plain])), (qent, .inl (E.2.2.1, 2, .inr (.inr (.inr (.inr (gEnt [he0, he1]))))))]) := by
  intro sz
  refine Met.ofW (cc := cX9_entryRow) (maxL := 2) (ret := (some (.object "CryptRows$Row"))) (by decide) rfl ?_
  intro p e s m args below meth c s₁ B hml hv
  obtain ⟨rfl, hsz, hP, hV, hD0⟩ := hv
  have hx := B.exec
  have hb := B.bytes
  have hr := B.returns
  have hts := atoms_spec (ws := wsX9_entryRow) B.pre
  have hown : s.vm.findClass RX9 = some m.cls := findClass_of_methodNamed B.named
  have hlocks := B.notSynchronized
  subst hsz
  have hD := hD0.self (sz := s.heap.size)
  clear hD0
  generalize hAe : va_A [(hv, .inr (10, [.int (nI rv), .ref huser, .ref howner, .ref htried, .ref hident, .ref htape, .int given, .ref hsecret, .ref qent, .ref hnoe, .int perm, .int plain])), (qent, .inl (E.2.2.1, 2, .inr (.inr (.inr (.inr (gEnt [he0, he1]))))))] s.heap.size = A at hD hV ⊢
  have hA : ∀ q : Nat, s.heap.size ≤ q → A q := fun q h => by rw [← hAe]; exact Or.inr h
  have hS : va_S A s.heap s.heap [] := va_S.rf
  have hK := hV.1
  have hF : CallFix p m c cX9_entryRow 2 s _ wsX9_entryRow RX9 := ⟨hx, hb, hml, hown, hts⟩
  have hl := lv_entry [.ref hv, .int 1] (n := 2) (Nat.le_of_ble_eq_true rfl)
  rw [lg_entry_eq]
  generalize (lg_sl [.ref hv, .int 1] ++ List.replicate (2 - (lg_sl [.ref hv, .int 1]).length) Slot.unset).toArray = ls at hl ⊢
  have hl : lv_has ls 2 [(0, .ref hv), (1, .int 1)] := hl
  have in_X9 : ∀ w ∈ wsX90, w ∈ wsX9_entryRow := by decide +kernel
  have w_0 := hts (.fieldLink RX9 42 "CryptRows$Vault" "entries" "[LCryptRows$Row;") (by decide +kernel)
  refine lv_iload_n hx hb dX9_entryRow_0 rfl (lv_at hl 1 rfl) ?_
  refine lv_if_lt (tgt := 22) hx hb dX9_entryRow_1 (by decide) (fun c_5 => absurd c_5 (by decide)) (fun c_5 => ?_)
  refine lv_iload_n hx hb dX9_entryRow_4 rfl (lv_at hl 1 rfl) ?_
  refine lv_aload_n hx hb dX9_entryRow_5 rfl (lv_at hl 0 rfl) ?_
  refine va_get (D := E.1) (ci := 10) (v := .ref qent) (C := RX9) (T := TX9) (N := 12) hx hb hts in_X9 hown hK hP 0 rfl rfl 8 (by decide) w_0 (fun _ h9 => h9) rfl dX9_entryRow_6 ?_
  refine va_alen (v := 2) hx hb hK hP 1 1 rfl rfl rfl dX9_entryRow_9 ?_
  refine lv_icmp_ge (tgt := 22) hx hb dX9_entryRow_10 (by decide) (fun c_6 => absurd c_6 (by decide)) (fun c_6 => ?_)
  refine lv_aload_n hx hb dX9_entryRow_13 rfl (lv_at hl 0 rfl) ?_
  refine va_get (D := E.1) (ci := 10) (v := .ref qent) (C := RX9) (T := TX9) (N := 12) hx hb hts in_X9 hown hK hP 0 rfl rfl 8 (by decide) w_0 (fun _ h9 => h9) rfl dX9_entryRow_14 ?_
  refine lv_iload_n hx hb dX9_entryRow_17 rfl (lv_at hl 1 rfl) ?_
  refine g_aald (e0 := 1) (r := he1) hx hb hK hP 1 1 rfl rfl (by omega) (by omega) rfl dX9_entryRow_18 ?_
  refine lv_ifnonnull (tgt := 27) hx hb dX9_entryRow_19 (by decide) ?_
  refine lv_aload_n hx hb dX9_entryRow_27 rfl (lv_at hl 0 rfl) ?_
  refine va_get (D := E.1) (ci := 10) (v := .ref qent) (C := RX9) (T := TX9) (N := 12) hx hb hts in_X9 hown hK hP 0 rfl rfl 8 (by decide) w_0 (fun _ h9 => h9) rfl dX9_entryRow_28 ?_
  refine lv_iload_n hx hb dX9_entryRow_31 rfl (lv_at hl 1 rfl) ?_
  refine g_aald (e0 := 1) (r := he1) hx hb hK hP 1 1 rfl rfl (by omega) (by omega) rfl dX9_entryRow_32 ?_
  have hP9 := hP.sub (ws' := [(hv, .inr (10, [.int (nI rv), .ref huser, .ref howner, .ref htried, .ref hident, .ref htape, .int given, .ref hsecret, .ref qent, .ref hnoe, .int perm, .int plain])), (qent, .inl (E.2.2.1, 2, .inr (.inr (.inr (.inr (gEnt [he0, he1]))))))]) [0, 1] rfl
  have hD9 := hD.sub (ws' := [(hv, .inr (10, [.int (nI rv), .ref huser, .ref howner, .ref htried, .ref hident, .ref htape, .int given, .ref hsecret, .ref qent, .ref hnoe, .int perm, .int plain])), (qent, .inl (E.2.2.1, 2, .inr (.inr (.inr (.inr (gEnt [he0, he1]))))))]) [0, 1] (by decide) rfl
  exact W.aret (v := .ref he1) hx hb hr (Or.inl ⟨_, rfl⟩) (Or.inr ⟨_, rfl⟩) (fun t ht hW => ⟨⟨(), _, rfl, trivial, rfl, by rw [ht]; exact hP9, hD9⟩, hS.F ht⟩) hS.2.2 dX9_entryRow_33
set_option maxHeartbeats 4000000 in
set_option maxRecDepth 100000 in
theorem k_X9_entryRow_en (E : gE) (l : Launch) (hv huser howner htried hident htape hsecret qent hnoe he0 he1 : Nat) (rv : Nat) (given : Int32) (perm : Int32) (plain : Int32) (which : Int32) (hw : which < 0 ∨ 2 ≤ which) : gMr E l yX9_entryRow wsX9_entryRow ({ frames := 0, cells := 0, slots := 0, locals := 0 }) 0 0 [.ref hv, .int which] [(hv, .inr (10, [.int (nI rv), .ref huser, .ref howner, .ref htried, .ref hident, .ref htape, .int given, .ref hsecret, .ref qent, .ref hnoe, .int perm, .int plain])), (qent, .inl (E.2.2.1, 2, .inr (.inr (.inr (.inr (gEnt [he0, he1]))))))] hnoe (fun (_ : Unit) => True) (fun (_ : Unit) => [(hv, .inr (10, [.int (nI rv), .ref huser, .ref howner, .ref htried, .ref hident, .ref htape, .int given, .ref hsecret, .ref qent, .ref hnoe, .int perm, .int plain])), (qent, .inl (E.2.2.1, 2, .inr (.inr (.inr (.inr (gEnt [he0, he1]))))))]) := by
  intro sz
  refine Met.ofW (cc := cX9_entryRow) (maxL := 2) (ret := (some (.object "CryptRows$Row"))) (by decide) rfl ?_
  intro p e s m args below meth c s₁ B hml hv
  obtain ⟨rfl, hsz, hP, hV, hD0⟩ := hv
  have hx := B.exec
  have hb := B.bytes
  have hr := B.returns
  have hts := atoms_spec (ws := wsX9_entryRow) B.pre
  have hown : s.vm.findClass RX9 = some m.cls := findClass_of_methodNamed B.named
  have hlocks := B.notSynchronized
  subst hsz
  have hD := hD0.self (sz := s.heap.size)
  clear hD0
  generalize hAe : va_A [(hv, .inr (10, [.int (nI rv), .ref huser, .ref howner, .ref htried, .ref hident, .ref htape, .int given, .ref hsecret, .ref qent, .ref hnoe, .int perm, .int plain])), (qent, .inl (E.2.2.1, 2, .inr (.inr (.inr (.inr (gEnt [he0, he1]))))))] s.heap.size = A at hD hV ⊢
  have hA : ∀ q : Nat, s.heap.size ≤ q → A q := fun q h => by rw [← hAe]; exact Or.inr h
  have hS : va_S A s.heap s.heap [] := va_S.rf
  have hK := hV.1
  have hF : CallFix p m c cX9_entryRow 2 s _ wsX9_entryRow RX9 := ⟨hx, hb, hml, hown, hts⟩
  have hl := lv_entry [.ref hv, .int which] (n := 2) (Nat.le_of_ble_eq_true rfl)
  rw [lg_entry_eq]
  generalize (lg_sl [.ref hv, .int which] ++ List.replicate (2 - (lg_sl [.ref hv, .int which]).length) Slot.unset).toArray = ls at hl ⊢
  have hl : lv_has ls 2 [(0, .ref hv), (1, .int which)] := hl
  have in_X9 : ∀ w ∈ wsX90, w ∈ wsX9_entryRow := by decide +kernel
  have w_0 := hts (.fieldLink RX9 35 "CryptRows$Vault" "noEntry" "LCryptRows$Row;") (by decide +kernel)
  have w_1 := hts (.fieldLink RX9 42 "CryptRows$Vault" "entries" "[LCryptRows$Row;") (by decide +kernel)
  refine lv_iload_n hx hb dX9_entryRow_0 rfl (lv_at hl 1 rfl) ?_
  refine lv_if_lt (tgt := 22) hx hb dX9_entryRow_1 (by decide) (fun c_5 => ?_) (fun c_5 => ?_)
  · replace c_5 : which < 0 := c_5
    refine lv_aload_n hx hb dX9_entryRow_22 rfl (lv_at hl 0 rfl) ?_
    refine va_get (D := E.1) (ci := 10) (v := .ref hnoe) (C := RX9) (T := TX9) (N := 12) hx hb hts in_X9 hown hK hP 0 rfl rfl 9 (by decide) w_0 (fun _ h9 => h9) rfl dX9_entryRow_23 ?_
    have hP9 := hP.sub (ws' := [(hv, .inr (10, [.int (nI rv), .ref huser, .ref howner, .ref htried, .ref hident, .ref htape, .int given, .ref hsecret, .ref qent, .ref hnoe, .int perm, .int plain])), (qent, .inl (E.2.2.1, 2, .inr (.inr (.inr (.inr (gEnt [he0, he1]))))))]) [0, 1] rfl
    have hD9 := hD.sub (ws' := [(hv, .inr (10, [.int (nI rv), .ref huser, .ref howner, .ref htried, .ref hident, .ref htape, .int given, .ref hsecret, .ref qent, .ref hnoe, .int perm, .int plain])), (qent, .inl (E.2.2.1, 2, .inr (.inr (.inr (.inr (gEnt [he0, he1]))))))]) [0, 1] (by decide) rfl
    exact W.aret (v := .ref hnoe) hx hb hr (Or.inl ⟨_, rfl⟩) (Or.inr ⟨_, rfl⟩) (fun t ht hW => ⟨⟨(), _, rfl, trivial, rfl, by rw [ht]; exact hP9, hD9⟩, hS.F ht⟩) hS.2.2 dX9_entryRow_26
  · replace c_5 : ¬ (which < 0) := c_5
    refine lv_iload_n hx hb dX9_entryRow_4 rfl (lv_at hl 1 rfl) ?_
    refine lv_aload_n hx hb dX9_entryRow_5 rfl (lv_at hl 0 rfl) ?_
    refine va_get (D := E.1) (ci := 10) (v := .ref qent) (C := RX9) (T := TX9) (N := 12) hx hb hts in_X9 hown hK hP 0 rfl rfl 8 (by decide) w_1 (fun _ h9 => h9) rfl dX9_entryRow_6 ?_
    refine va_alen (v := 2) hx hb hK hP 1 1 rfl rfl rfl dX9_entryRow_9 ?_
    refine lv_icmp_ge (tgt := 22) hx hb dX9_entryRow_10 (by decide) (fun c_6 => ?_) (fun c_6 => (by exfalso; rcases hw with q8 | q8; exact absurd q8 c_5; exact absurd q8 c_6))
    replace c_6 : 2 ≤ which := c_6
    refine lv_aload_n hx hb dX9_entryRow_22 rfl (lv_at hl 0 rfl) ?_
    refine va_get (D := E.1) (ci := 10) (v := .ref hnoe) (C := RX9) (T := TX9) (N := 12) hx hb hts in_X9 hown hK hP 0 rfl rfl 9 (by decide) w_0 (fun _ h9 => h9) rfl dX9_entryRow_23 ?_
    have hP9 := hP.sub (ws' := [(hv, .inr (10, [.int (nI rv), .ref huser, .ref howner, .ref htried, .ref hident, .ref htape, .int given, .ref hsecret, .ref qent, .ref hnoe, .int perm, .int plain])), (qent, .inl (E.2.2.1, 2, .inr (.inr (.inr (.inr (gEnt [he0, he1]))))))]) [0, 1] rfl
    have hD9 := hD.sub (ws' := [(hv, .inr (10, [.int (nI rv), .ref huser, .ref howner, .ref htried, .ref hident, .ref htape, .int given, .ref hsecret, .ref qent, .ref hnoe, .int perm, .int plain])), (qent, .inl (E.2.2.1, 2, .inr (.inr (.inr (.inr (gEnt [he0, he1]))))))]) [0, 1] (by decide) rfl
    exact W.aret (v := .ref hnoe) hx hb hr (Or.inl ⟨_, rfl⟩) (Or.inr ⟨_, rfl⟩) (fun t ht hW => ⟨⟨(), _, rfl, trivial, rfl, by rw [ht]; exact hP9, hD9⟩, hS.F ht⟩) hS.2.2 dX9_entryRow_26
set_option maxHeartbeats 4000000 in
set_option maxRecDepth 100000 in
theorem k_X9_entryCount_e (E : gE) (l : Launch) (hv huser howner htried hident htape hsecret qent hnoe he0 he1 : Nat) (rv : Nat) (given : Int32) (perm : Int32) (plain : Int32) : gMi E l yX9_entryCount wsX9_entryCount ({ frames := 0, cells := 0, slots := 0, locals := 0 }) 0 0 [.ref hv] [(hv, .inr (10, [.int (nI rv), .ref huser, .ref howner, .ref htried, .ref hident, .ref htape, .int given, .ref hsecret, .ref qent, .ref hnoe, .int perm, .int plain])), (qent, .inl (E.2.2.1, 2, .inr (.inr (.inr (.inr (gEnt [he0, he1]))))))] (fun (rr : Int32) (_ : Unit) => rr = F_X9_entryCount_e) (fun (_ : Unit) => [(hv, .inr (10, [.int (nI rv), .ref huser, .ref howner, .ref htried, .ref hident, .ref htape, .int given, .ref hsecret, .ref qent, .ref hnoe, .int perm, .int plain])), (qent, .inl (E.2.2.1, 2, .inr (.inr (.inr (.inr (gEnt [he0, he1]))))))]) := by
  intro sz
  refine Met.ofW (cc := cX9_entryCount) (maxL := 1) (ret := (some .int)) (by decide) rfl ?_
  intro p e s m args below meth c s₁ B hml hv
  obtain ⟨rfl, hsz, hP, hV, hD0⟩ := hv
  have hx := B.exec
  have hb := B.bytes
  have hr := B.returns
  have hts := atoms_spec (ws := wsX9_entryCount) B.pre
  have hown : s.vm.findClass RX9 = some m.cls := findClass_of_methodNamed B.named
  have hlocks := B.notSynchronized
  subst hsz
  have hD := hD0.self (sz := s.heap.size)
  clear hD0
  generalize hAe : va_A [(hv, .inr (10, [.int (nI rv), .ref huser, .ref howner, .ref htried, .ref hident, .ref htape, .int given, .ref hsecret, .ref qent, .ref hnoe, .int perm, .int plain])), (qent, .inl (E.2.2.1, 2, .inr (.inr (.inr (.inr (gEnt [he0, he1]))))))] s.heap.size = A at hD hV ⊢
  have hA : ∀ q : Nat, s.heap.size ≤ q → A q := fun q h => by rw [← hAe]; exact Or.inr h
  have hS : va_S A s.heap s.heap [] := va_S.rf
  have hK := hV.1
  have hF : CallFix p m c cX9_entryCount 1 s _ wsX9_entryCount RX9 := ⟨hx, hb, hml, hown, hts⟩
  have hl := lv_entry [.ref hv] (n := 1) (Nat.le_of_ble_eq_true rfl)
  rw [lg_entry_eq]
  generalize (lg_sl [.ref hv] ++ List.replicate (1 - (lg_sl [.ref hv]).length) Slot.unset).toArray = ls at hl ⊢
  have hl : lv_has ls 1 [(0, .ref hv)] := hl
  have in_X9 : ∀ w ∈ wsX90, w ∈ wsX9_entryCount := by decide +kernel
  have w_0 := hts (.fieldLink RX9 42 "CryptRows$Vault" "entries" "[LCryptRows$Row;") (by decide +kernel)
  refine lv_aload_n hx hb dX9_entryCount_0 rfl (lv_at hl 0 rfl) ?_
  refine va_get (D := E.1) (ci := 10) (v := .ref qent) (C := RX9) (T := TX9) (N := 12) hx hb hts in_X9 hown hK hP 0 rfl rfl 8 (by decide) w_0 (fun _ h9 => h9) rfl dX9_entryCount_1 ?_
  refine va_alen (v := 2) hx hb hK hP 1 1 rfl rfl rfl dX9_entryCount_4 ?_
  have hpost : (2 : Int32) = F_X9_entryCount_e := (show F_X9_entryCount_e = (2 : Int32) from rfl).symm
  have hP9 := hP.sub (ws' := [(hv, .inr (10, [.int (nI rv), .ref huser, .ref howner, .ref htried, .ref hident, .ref htape, .int given, .ref hsecret, .ref qent, .ref hnoe, .int perm, .int plain])), (qent, .inl (E.2.2.1, 2, .inr (.inr (.inr (.inr (gEnt [he0, he1]))))))]) [0, 1] rfl
  have hD9 := hD.sub (ws' := [(hv, .inr (10, [.int (nI rv), .ref huser, .ref howner, .ref htried, .ref hident, .ref htape, .int given, .ref hsecret, .ref qent, .ref hnoe, .int perm, .int plain])), (qent, .inl (E.2.2.1, 2, .inr (.inr (.inr (.inr (gEnt [he0, he1]))))))]) [0, 1] (by decide) rfl
  exact W.iret (v := 2) hx hb hr (fun t ht hW => ⟨⟨2, (), rfl, hpost, by rw [ht]; exact hP9, hD9⟩, hS.F ht⟩) hS.2.2 dX9_entryCount_5
set_option maxHeartbeats 4000000 in
set_option maxRecDepth 100000 in
theorem k_X9_tapeLeft_e (E : gE) (l : Launch) (hv huser howner htried hident htape hsecret qent hnoe atape : Nat) (rv : Nat) (given : Int32) (perm : Int32) (plain : Int32) (Xtape : gRow) : gMi E l yX9_tapeLeft wsX9_tapeLeft ({ frames := 1, cells := 0, slots := 0, locals := 20 }) 0 0 [.ref hv] [(hv, .inr (10, [.int (nI rv), .ref huser, .ref howner, .ref htried, .ref hident, .ref htape, .int given, .ref hsecret, .ref qent, .ref hnoe, .int perm, .int plain])), (htape, .inr (6, [.ref atape, .int Xtape.1]))] (fun (rr : Int32) (_ : Unit) => rr = F_X9_tapeLeft_e given Xtape) (fun (_ : Unit) => [(hv, .inr (10, [.int (nI rv), .ref huser, .ref howner, .ref htried, .ref hident, .ref htape, .int given, .ref hsecret, .ref qent, .ref hnoe, .int perm, .int plain])), (htape, .inr (6, [.ref atape, .int Xtape.1]))]) := by
  intro sz
  refine Met.ofW (cc := cX9_tapeLeft) (maxL := 1) (ret := (some .int)) (by decide) rfl ?_
  intro p e s m args below meth c s₁ B hml hv
  obtain ⟨rfl, hsz, hP, hV, hD0⟩ := hv
  have hx := B.exec
  have hb := B.bytes
  have hr := B.returns
  have hts := atoms_spec (ws := wsX9_tapeLeft) B.pre
  have hown : s.vm.findClass RX9 = some m.cls := findClass_of_methodNamed B.named
  have hlocks := B.notSynchronized
  subst hsz
  have hD := hD0.self (sz := s.heap.size)
  clear hD0
  generalize hAe : va_A [(hv, .inr (10, [.int (nI rv), .ref huser, .ref howner, .ref htried, .ref hident, .ref htape, .int given, .ref hsecret, .ref qent, .ref hnoe, .int perm, .int plain])), (htape, .inr (6, [.ref atape, .int Xtape.1]))] s.heap.size = A at hD hV ⊢
  have hA : ∀ q : Nat, s.heap.size ≤ q → A q := fun q h => by rw [← hAe]; exact Or.inr h
  have hS : va_S A s.heap s.heap [] := va_S.rf
  have hK := hV.1
  have hF : CallFix p m c cX9_tapeLeft 1 s _ wsX9_tapeLeft RX9 := ⟨hx, hb, hml, hown, hts⟩
  have hl := lv_entry [.ref hv] (n := 1) (Nat.le_of_ble_eq_true rfl)
  rw [lg_entry_eq]
  generalize (lg_sl [.ref hv] ++ List.replicate (1 - (lg_sl [.ref hv]).length) Slot.unset).toArray = ls at hl ⊢
  have hl : lv_has ls 1 [(0, .ref hv)] := hl
  have in_X9 : ∀ w ∈ wsX90, w ∈ wsX9_tapeLeft := by decide +kernel
  have w_0 := hts (.fieldLink RX9 29 "CryptRows$Vault" "tape" "LCryptRows$Row;") (by decide +kernel)
  have w_1 := hts (.fieldLink RX9 54 "CryptRows$Vault" "tapeGiven" "I") (by decide +kernel)
  refine lv_aload_n hx hb dX9_tapeLeft_0 rfl (lv_at hl 0 rfl) ?_
  refine va_get (D := E.1) (ci := 10) (v := .ref htape) (C := RX9) (T := TX9) (N := 12) hx hb hts in_X9 hown hK hP 0 rfl rfl 5 (by decide) w_0 (fun _ h9 => h9) rfl dX9_tapeLeft_1 ?_
  refine gVi hF hl hV hP hD hS hA [1] [0] (wc := [(htape, .inr (6, [.ref atape, .int Xtape.1]))]) (wr := [(hv, .inr (10, [.int (nI rv), .ref huser, .ref howner, .ref htried, .ref hident, .ref htape, .int given, .ref hsecret, .ref qent, .ref hnoe, .int perm, .int plain]))]) rfl rfl rfl (by decide) 0 6 rfl rfl rfl (k_X5_count E l htape atape Xtape) (cwV 0 hts gX9_tapeLeft_X5_count rfl rfl rfl (by decide +kernel) ⟨Nat.le_of_ble_eq_true rfl, Nat.le_of_ble_eq_true rfl⟩) rfl rfl rfl (Nat.le_of_ble_eq_true rfl) dX9_tapeLeft_4 ⟨Nat.le_of_ble_eq_true rfl, Nat.le_of_ble_eq_true rfl⟩ (fun r_5 _ H_6 locs_6 hu_5 hP_6 hD_6 hS_6 => ?_)
  have er_5 : r_5 = F_X5_count Xtape := hu_5
  clear hu_5
  replace hP_6 : va_P E.1 vwCl [(hv, .inr (10, [.int (nI rv), .ref huser, .ref howner, .ref htried, .ref hident, .ref htape, .int given, .ref hsecret, .ref qent, .ref hnoe, .int perm, .int plain])), (htape, .inr (6, [.ref atape, .int Xtape.1]))] H_6 := hP_6
  replace hD_6 : va_D A [(hv, .inr (10, [.int (nI rv), .ref huser, .ref howner, .ref htried, .ref hident, .ref htape, .int given, .ref hsecret, .ref qent, .ref hnoe, .int perm, .int plain])), (htape, .inr (6, [.ref atape, .int Xtape.1]))] := hD_6
  clear hP hD hS
  refine lv_aload_n hx hb dX9_tapeLeft_7 rfl (lv_at hl 0 rfl) ?_
  refine va_get (D := E.1) (ci := 10) (v := .int given) (C := RX9) (T := TX9) (N := 12) hx hb hts in_X9 hown hK hP_6 0 rfl rfl 6 (by decide) w_1 (fun _ h9 => h9) rfl dX9_tapeLeft_8 ?_
  refine lv_isub hx hb dX9_tapeLeft_11 ?_
  have hpost : ((r_5 - given) : Int32) = F_X9_tapeLeft_e given Xtape := (show F_X9_tapeLeft_e given Xtape = ((r_5 - given) : Int32) from (gLet_eq er_5 rfl)).symm
  have hP9 := hP_6.sub (ws' := [(hv, .inr (10, [.int (nI rv), .ref huser, .ref howner, .ref htried, .ref hident, .ref htape, .int given, .ref hsecret, .ref qent, .ref hnoe, .int perm, .int plain])), (htape, .inr (6, [.ref atape, .int Xtape.1]))]) [0, 1] rfl
  have hD9 := hD_6.sub (ws' := [(hv, .inr (10, [.int (nI rv), .ref huser, .ref howner, .ref htried, .ref hident, .ref htape, .int given, .ref hsecret, .ref qent, .ref hnoe, .int perm, .int plain])), (htape, .inr (6, [.ref atape, .int Xtape.1]))]) [0, 1] (by decide) rfl
  exact W.iret (v := (r_5 - given)) hx hb hr (fun t ht hW => ⟨⟨(r_5 - given), (), rfl, hpost, by rw [ht]; exact hP9, hD9⟩, hS_6.F ht⟩) hS_6.2.2 dX9_tapeLeft_12
set_option maxHeartbeats 4000000 in
set_option maxRecDepth 100000 in
theorem k_X9_giveTape_e (E : gE) (l : Launch) (hv h2 huser howner htried hident htape hsecret qent hnoe atape a2 : Nat) (n2 : Nat) (rv : Nat) (given : Int32) (perm : Int32) (plain : Int32) (Xtape : gRow) (q : gRow) (bytes : Int32) (hn2 : n2 < 2147483648) : gMv E l yX9_giveTape wsX9_giveTape ({ frames := 2, cells := 0, slots := 0, locals := 45 }) 0 0 [.ref hv, .int bytes, .ref h2] [(hv, .inr (10, [.int (nI rv), .ref huser, .ref howner, .ref htried, .ref hident, .ref htape, .int given, .ref hsecret, .ref qent, .ref hnoe, .int perm, .int plain])), (htape, .inr (6, [.ref atape, .int Xtape.1])), (atape, .inl (E.2.1, 400, .inl Xtape.2)), (h2, .inr (6, [.ref a2, .int q.1])), (a2, .inl (E.2.1, n2, .inl q.2))] (fun (uu : Int32 × gRow) => uu = F_X9_giveTape_e n2 given Xtape q bytes) (fun (uu : Int32 × gRow) => [(hv, .inr (10, [.int (nI rv), .ref huser, .ref howner, .ref htried, .ref hident, .ref htape, .int uu.1, .ref hsecret, .ref qent, .ref hnoe, .int perm, .int plain])), (htape, .inr (6, [.ref atape, .int Xtape.1])), (atape, .inl (E.2.1, 400, .inl Xtape.2)), (h2, .inr (6, [.ref a2, .int uu.2.1])), (a2, .inl (E.2.1, n2, .inl uu.2.2))]) := by
  intro sz
  refine Met.ofW (cc := cX9_giveTape) (maxL := 4) (ret := none) (by decide) rfl ?_
  intro p e s m args below meth c s₁ B hml hv
  obtain ⟨rfl, hsz, hP, hV, hD0⟩ := hv
  have hx := B.exec
  have hb := B.bytes
  have hr := B.returns
  have hts := atoms_spec (ws := wsX9_giveTape) B.pre
  have hown : s.vm.findClass RX9 = some m.cls := findClass_of_methodNamed B.named
  have hlocks := B.notSynchronized
  subst hsz
  have hD := hD0.self (sz := s.heap.size)
  clear hD0
  generalize hAe : va_A [(hv, .inr (10, [.int (nI rv), .ref huser, .ref howner, .ref htried, .ref hident, .ref htape, .int given, .ref hsecret, .ref qent, .ref hnoe, .int perm, .int plain])), (htape, .inr (6, [.ref atape, .int Xtape.1])), (atape, .inl (E.2.1, 400, .inl Xtape.2)), (h2, .inr (6, [.ref a2, .int q.1])), (a2, .inl (E.2.1, n2, .inl q.2))] s.heap.size = A at hD hV ⊢
  have hA : ∀ q : Nat, s.heap.size ≤ q → A q := fun q h => by rw [← hAe]; exact Or.inr h
  have hS : va_S A s.heap s.heap [] := va_S.rf
  have hK := hV.1
  have hF : CallFix p m c cX9_giveTape 4 s _ wsX9_giveTape RX9 := ⟨hx, hb, hml, hown, hts⟩
  have hl := lv_entry [.ref hv, .int bytes, .ref h2] (n := 4) (Nat.le_of_ble_eq_true rfl)
  rw [lg_entry_eq]
  generalize (lg_sl [.ref hv, .int bytes, .ref h2] ++ List.replicate (4 - (lg_sl [.ref hv, .int bytes, .ref h2]).length) Slot.unset).toArray = ls at hl ⊢
  have hl : lv_has ls 4 [(0, .ref hv), (1, .int bytes), (2, .ref h2)] := hl
  have in_X9 : ∀ w ∈ wsX90, w ∈ wsX9_giveTape := by decide +kernel
  have w_0 := hts (.methodLink RX9 60 Lib.Math.min.name) (by decide +kernel)
  have w_1 := hts (.static Lib.Math.min.name) (by decide +kernel)
  have w_2 := hts (.initialized "java/lang/Math") (by decide +kernel)
  have w_3 := hts (.code Lib.Math.min.name Lib.Math.min.code 2 (some .int)) (by decide +kernel)
  have w_4 := hts (.fieldLink RX9 29 "CryptRows$Vault" "tape" "LCryptRows$Row;") (by decide +kernel)
  have w_5 := hts (.fieldLink RX9 54 "CryptRows$Vault" "tapeGiven" "I") (by decide +kernel)
  refine lv_iload_n hx hb dX9_giveTape_0 rfl (lv_at hl 1 rfl) ?_
  refine lv_aload_n hx hb dX9_giveTape_1 rfl (lv_at hl 0 rfl) ?_
  refine gVi hF hl hV hP hD hS hA [0, 1] [2, 3, 4] (wc := [(hv, .inr (10, [.int (nI rv), .ref huser, .ref howner, .ref htried, .ref hident, .ref htape, .int given, .ref hsecret, .ref qent, .ref hnoe, .int perm, .int plain])), (htape, .inr (6, [.ref atape, .int Xtape.1]))]) (wr := [(atape, .inl (E.2.1, 400, .inl Xtape.2)), (h2, .inr (6, [.ref a2, .int q.1])), (a2, .inl (E.2.1, n2, .inl q.2))]) rfl rfl rfl (by decide) 0 10 rfl rfl rfl (k_X9_tapeLeft_e E l hv huser howner htried hident htape hsecret qent hnoe atape rv given perm plain Xtape) (cwV 0 hts gX9_giveTape_X9_tapeLeft rfl rfl rfl (by decide +kernel) ⟨Nat.le_of_ble_eq_true rfl, Nat.le_of_ble_eq_true rfl⟩) rfl rfl rfl (Nat.le_of_ble_eq_true rfl) dX9_giveTape_2 ⟨Nat.le_of_ble_eq_true rfl, Nat.le_of_ble_eq_true rfl⟩ (fun r_15 _ H_16 locs_16 hu_15 hP_16 hD_16 hS_16 => ?_)
  have er_15 : r_15 = F_X9_tapeLeft_e given Xtape := hu_15
  clear hu_15
  replace hP_16 : va_P E.1 vwCl [(atape, .inl (E.2.1, 400, .inl Xtape.2)), (h2, .inr (6, [.ref a2, .int q.1])), (a2, .inl (E.2.1, n2, .inl q.2)), (hv, .inr (10, [.int (nI rv), .ref huser, .ref howner, .ref htried, .ref hident, .ref htape, .int given, .ref hsecret, .ref qent, .ref hnoe, .int perm, .int plain])), (htape, .inr (6, [.ref atape, .int Xtape.1]))] H_16 := hP_16
  replace hD_16 : va_D A [(atape, .inl (E.2.1, 400, .inl Xtape.2)), (h2, .inr (6, [.ref a2, .int q.1])), (a2, .inl (E.2.1, n2, .inl q.2)), (hv, .inr (10, [.int (nI rv), .ref huser, .ref howner, .ref htried, .ref hident, .ref htape, .int given, .ref hsecret, .ref qent, .ref hnoe, .int perm, .int plain])), (htape, .inr (6, [.ref atape, .int Xtape.1]))] := hD_16
  clear hP hD hS
  refine va_mmin hx hb (hml.trans hl.1.symm) hown w_0 w_1 w_2 w_3 (by decide) (Nat.le_of_ble_eq_true rfl) (by omega) (by omega) dX9_giveTape_5 ?_
  refine lv_topi (fun v_17 ev_17 => ?_)
  refine lv_istore_n (lv' := [(3, .int v_17), (0, .ref hv), (1, .int bytes), (2, .ref h2)]) hx hb dX9_giveTape_8 rfl hl (by decide) rfl (fun ls_18 hl_18 => ?_)
  clear hl
  refine lv_aload_n hx hb dX9_giveTape_9 rfl (lv_at hl_18 3 rfl) ?_
  refine lv_aload_n hx hb dX9_giveTape_10 rfl (lv_at hl_18 1 rfl) ?_
  refine va_get (D := E.1) (ci := 10) (v := .ref htape) (C := RX9) (T := TX9) (N := 12) hx hb hts in_X9 hown hK hP_16 3 rfl rfl 5 (by decide) w_4 (fun _ h9 => h9) rfl dX9_giveTape_11 ?_
  refine lv_aload_n hx hb dX9_giveTape_14 rfl (lv_at hl_18 1 rfl) ?_
  refine va_get (D := E.1) (ci := 10) (v := .int given) (C := RX9) (T := TX9) (N := 12) hx hb hts in_X9 hown hK hP_16 3 rfl rfl 6 (by decide) w_5 (fun _ h9 => h9) rfl dX9_giveTape_15 ?_
  refine lv_iload_n hx hb dX9_giveTape_18 rfl (lv_at hl_18 0 rfl) ?_
  refine gVv hF hl_18 hV hP_16 hD_16 hS_16 hA [1, 2, 4, 0] [3] (wc := [(h2, .inr (6, [.ref a2, .int q.1])), (a2, .inl (E.2.1, n2, .inl q.2)), (htape, .inr (6, [.ref atape, .int Xtape.1])), (atape, .inl (E.2.1, 400, .inl Xtape.2))]) (wr := [(hv, .inr (10, [.int (nI rv), .ref huser, .ref howner, .ref htried, .ref hident, .ref htape, .int given, .ref hsecret, .ref qent, .ref hnoe, .int perm, .int plain]))]) rfl rfl rfl (by decide) 0 6 rfl rfl rfl (k_X5_addPart E l h2 htape a2 atape n2 400 q Xtape given v_17 (by omega) (by omega)) (cwV 3 hts gX9_giveTape_X5_addPart rfl rfl rfl (by decide +kernel) ⟨Nat.le_of_ble_eq_true rfl, Nat.le_of_ble_eq_true rfl⟩) rfl rfl rfl (Nat.le_of_ble_eq_true rfl) dX9_giveTape_19 ⟨Nat.le_of_ble_eq_true rfl, Nat.le_of_ble_eq_true rfl⟩ (fun u_19 H_20 locs_20 hu_19 hP_20 hD_20 hS_20 => ?_)
  replace hu_19 : u_19 = F_X5_addPart n2 400 q Xtape given v_17 := hu_19
  replace hP_20 : va_P E.1 vwCl [(hv, .inr (10, [.int (nI rv), .ref huser, .ref howner, .ref htried, .ref hident, .ref htape, .int given, .ref hsecret, .ref qent, .ref hnoe, .int perm, .int plain])), (h2, .inr (6, [.ref a2, .int u_19.1])), (a2, .inl (E.2.1, n2, .inl u_19.2)), (htape, .inr (6, [.ref atape, .int Xtape.1])), (atape, .inl (E.2.1, 400, .inl Xtape.2))] H_20 := hP_20
  replace hD_20 : va_D A [(hv, .inr (10, [.int (nI rv), .ref huser, .ref howner, .ref htried, .ref hident, .ref htape, .int given, .ref hsecret, .ref qent, .ref hnoe, .int perm, .int plain])), (h2, .inr (6, [.ref a2, .int u_19.1])), (a2, .inl (E.2.1, n2, .inl u_19.2)), (htape, .inr (6, [.ref atape, .int Xtape.1])), (atape, .inl (E.2.1, 400, .inl Xtape.2))] := hD_20
  clear hP_16 hD_16 hS_16
  refine lv_aload_n hx hb dX9_giveTape_22 rfl (lv_at hl_18 1 rfl) ?_
  refine lv_dup hx hb dX9_giveTape_23 rfl ?_
  refine va_get (D := E.1) (ci := 10) (v := .int given) (C := RX9) (T := TX9) (N := 12) hx hb hts in_X9 hown hK hP_20 0 rfl rfl 6 (by decide) w_5 (fun _ h9 => h9) rfl dX9_giveTape_24 ?_
  refine lv_iload_n hx hb dX9_giveTape_27 rfl (lv_at hl_18 0 rfl) ?_
  refine lv_iadd hx hb dX9_giveTape_28 ?_
  refine va_put (D := E.1) (ci := 10) (v := .int (given + v_17)) (ty := .int) (C := RX9) (T := TX9) (N := 12) hx hb hts in_X9 tyX9 tyX9_ok nmX9 hown hK hP_20 hD_20 hS_20 0 rfl rfl 6 (by decide) w_5 (fun _ h9 => h9) rfl (by decide +kernel) rfl rfl (Nat.le_of_ble_eq_true rfl) dX9_giveTape_29 (fun H_21 locs_21 hP_21 hD_21 hS_21 => ?_)
  replace hP_21 : va_P E.1 vwCl [(hv, .inr (10, [.int (nI rv), .ref huser, .ref howner, .ref htried, .ref hident, .ref htape, .int (given + v_17), .ref hsecret, .ref qent, .ref hnoe, .int perm, .int plain])), (h2, .inr (6, [.ref a2, .int u_19.1])), (a2, .inl (E.2.1, n2, .inl u_19.2)), (htape, .inr (6, [.ref atape, .int Xtape.1])), (atape, .inl (E.2.1, 400, .inl Xtape.2))] H_21 := hP_21
  replace hD_21 : va_D A [(hv, .inr (10, [.int (nI rv), .ref huser, .ref howner, .ref htried, .ref hident, .ref htape, .int (given + v_17), .ref hsecret, .ref qent, .ref hnoe, .int perm, .int plain])), (h2, .inr (6, [.ref a2, .int u_19.1])), (a2, .inl (E.2.1, n2, .inl u_19.2)), (htape, .inr (6, [.ref atape, .int Xtape.1])), (atape, .inl (E.2.1, 400, .inl Xtape.2))] := hD_21
  clear hP_20 hD_20 hS_20
  have hpost : (((given + v_17), u_19) : Int32 × gRow) = F_X9_giveTape_e n2 given Xtape q bytes := (show F_X9_giveTape_e n2 given Xtape q bytes = (((given + v_17), u_19) : Int32 × gRow) from (gLet_eq er_15 (gLet_eq ev_17 (gLet_eq hu_19 rfl)))).symm
  have hP9 := hP_21.sub (ws' := [(hv, .inr (10, [.int (nI rv), .ref huser, .ref howner, .ref htried, .ref hident, .ref htape, .int (given + v_17), .ref hsecret, .ref qent, .ref hnoe, .int perm, .int plain])), (htape, .inr (6, [.ref atape, .int Xtape.1])), (atape, .inl (E.2.1, 400, .inl Xtape.2)), (h2, .inr (6, [.ref a2, .int u_19.1])), (a2, .inl (E.2.1, n2, .inl u_19.2))]) [0, 3, 4, 1, 2] rfl
  have hD9 := hD_21.sub (ws' := [(hv, .inr (10, [.int (nI rv), .ref huser, .ref howner, .ref htried, .ref hident, .ref htape, .int (given + v_17), .ref hsecret, .ref qent, .ref hnoe, .int perm, .int plain])), (htape, .inr (6, [.ref atape, .int Xtape.1])), (atape, .inl (E.2.1, 400, .inl Xtape.2)), (h2, .inr (6, [.ref a2, .int u_19.1])), (a2, .inl (E.2.1, n2, .inl u_19.2))]) [0, 3, 4, 1, 2] (by decide) rfl
  exact W.vret hx hb hr (fun t ht hW => ⟨⟨((given + v_17), u_19), rfl, hpost, by rw [ht]; exact hP9, hD9⟩, hS_21.F ht⟩) hS_21.2.2 dX9_giveTape_32
set_option maxHeartbeats 4000000 in
set_option maxRecDepth 100000 in
theorem k_X9_keyBytes_e (E : gE) (l : Launch) (hv huser howner htried hident htape hsecret qent hnoe : Nat) (rv : Nat) (given : Int32) (perm : Int32) (plain : Int32) (h5rv : rv ≤ 5) : gMi E l yX9_keyBytes wsX9_keyBytes ({ frames := 0, cells := 0, slots := 0, locals := 0 }) 0 0 [.ref hv] [(hv, .inr (10, [.int (nI rv), .ref huser, .ref howner, .ref htried, .ref hident, .ref htape, .int given, .ref hsecret, .ref qent, .ref hnoe, .int perm, .int plain]))] (fun (rr : Int32) (_ : Unit) => rr = F_X9_keyBytes_e rv) (fun (_ : Unit) => [(hv, .inr (10, [.int (nI rv), .ref huser, .ref howner, .ref htried, .ref hident, .ref htape, .int given, .ref hsecret, .ref qent, .ref hnoe, .int perm, .int plain]))]) := by
  intro sz
  refine Met.ofW (cc := cX9_keyBytes) (maxL := 1) (ret := (some .int)) (by decide) rfl ?_
  intro p e s m args below meth c s₁ B hml hv
  obtain ⟨rfl, hsz, hP, hV, hD0⟩ := hv
  have hx := B.exec
  have hb := B.bytes
  have hr := B.returns
  have hts := atoms_spec (ws := wsX9_keyBytes) B.pre
  have hown : s.vm.findClass RX9 = some m.cls := findClass_of_methodNamed B.named
  have hlocks := B.notSynchronized
  subst hsz
  have hD := hD0.self (sz := s.heap.size)
  clear hD0
  generalize hAe : va_A [(hv, .inr (10, [.int (nI rv), .ref huser, .ref howner, .ref htried, .ref hident, .ref htape, .int given, .ref hsecret, .ref qent, .ref hnoe, .int perm, .int plain]))] s.heap.size = A at hD hV ⊢
  have hA : ∀ q : Nat, s.heap.size ≤ q → A q := fun q h => by rw [← hAe]; exact Or.inr h
  have hS : va_S A s.heap s.heap [] := va_S.rf
  have hK := hV.1
  have hF : CallFix p m c cX9_keyBytes 1 s _ wsX9_keyBytes RX9 := ⟨hx, hb, hml, hown, hts⟩
  have hl := lv_entry [.ref hv] (n := 1) (Nat.le_of_ble_eq_true rfl)
  rw [lg_entry_eq]
  generalize (lg_sl [.ref hv] ++ List.replicate (1 - (lg_sl [.ref hv]).length) Slot.unset).toArray = ls at hl ⊢
  have hl : lv_has ls 1 [(0, .ref hv)] := hl
  have in_X9 : ∀ w ∈ wsX90, w ∈ wsX9_keyBytes := by decide +kernel
  have w_0 := hts (.fieldLink RX9 38 "CryptRows$Vault" "revision" "I") (by decide +kernel)
  refine lv_aload_n hx hb dX9_keyBytes_0 rfl (lv_at hl 0 rfl) ?_
  refine va_get (D := E.1) (ci := 10) (v := .int (nI rv)) (C := RX9) (T := TX9) (N := 12) hx hb hts in_X9 hown hK hP 0 rfl rfl 0 (by decide) w_0 (fun _ h9 => h9) rfl dX9_keyBytes_1 ?_
  refine lv_iconst (v := 2) hx hb dX9_keyBytes_4 (by decide) ?_
  refine lv_icmp_ne (tgt := 12) hx hb dX9_keyBytes_5 (by decide) (fun c_5 => ?_) (fun c_5 => ?_)
  · replace c_5 : ¬ rv = 2 := (not_congr (nI_eq (a := rv) (b := 2) (by omega) (by omega))).mp c_5
    refine lv_aload_n hx hb dX9_keyBytes_12 rfl (lv_at hl 0 rfl) ?_
    refine va_get (D := E.1) (ci := 10) (v := .int (nI rv)) (C := RX9) (T := TX9) (N := 12) hx hb hts in_X9 hown hK hP 0 rfl rfl 0 (by decide) w_0 (fun _ h9 => h9) rfl dX9_keyBytes_13 ?_
    refine lv_iconst (v := 5) hx hb dX9_keyBytes_16 (by decide) ?_
    refine lv_icmp_ne (tgt := 25) hx hb dX9_keyBytes_17 (by decide) (fun c_6 => ?_) (fun c_6 => ?_)
    · replace c_6 : ¬ rv = 5 := (not_congr (nI_eq (a := rv) (b := 5) (by omega) (by omega))).mp c_6
      refine lv_bipush (v := 16) hx hb dX9_keyBytes_25 (by decide) ?_
      have hpost : (16 : Int32) = F_X9_keyBytes_e rv := (show F_X9_keyBytes_e rv = (16 : Int32) from ((if_neg c_5).trans ((if_neg c_6).trans rfl))).symm
      have hP9 := hP.sub (ws' := [(hv, .inr (10, [.int (nI rv), .ref huser, .ref howner, .ref htried, .ref hident, .ref htape, .int given, .ref hsecret, .ref qent, .ref hnoe, .int perm, .int plain]))]) [0] rfl
      have hD9 := hD.sub (ws' := [(hv, .inr (10, [.int (nI rv), .ref huser, .ref howner, .ref htried, .ref hident, .ref htape, .int given, .ref hsecret, .ref qent, .ref hnoe, .int perm, .int plain]))]) [0] (by decide) rfl
      exact W.iret (v := 16) hx hb hr (fun t ht hW => ⟨⟨16, (), rfl, hpost, by rw [ht]; exact hP9, hD9⟩, hS.F ht⟩) hS.2.2 dX9_keyBytes_27
    · replace c_6 : rv = 5 := (nI_eq (a := rv) (b := 5) (by omega) (by omega)).mp c_6
      refine lv_bipush (v := 32) hx hb dX9_keyBytes_20 (by decide) ?_
      refine lv_goto (tgt := 27) hx hb dX9_keyBytes_22 (by decide) ?_
      have hpost : (32 : Int32) = F_X9_keyBytes_e rv := (show F_X9_keyBytes_e rv = (32 : Int32) from ((if_neg c_5).trans ((if_pos c_6).trans rfl))).symm
      have hP9 := hP.sub (ws' := [(hv, .inr (10, [.int (nI rv), .ref huser, .ref howner, .ref htried, .ref hident, .ref htape, .int given, .ref hsecret, .ref qent, .ref hnoe, .int perm, .int plain]))]) [0] rfl
      have hD9 := hD.sub (ws' := [(hv, .inr (10, [.int (nI rv), .ref huser, .ref howner, .ref htried, .ref hident, .ref htape, .int given, .ref hsecret, .ref qent, .ref hnoe, .int perm, .int plain]))]) [0] (by decide) rfl
      exact W.iret (v := 32) hx hb hr (fun t ht hW => ⟨⟨32, (), rfl, hpost, by rw [ht]; exact hP9, hD9⟩, hS.F ht⟩) hS.2.2 dX9_keyBytes_27
  · replace c_5 : rv = 2 := (nI_eq (a := rv) (b := 2) (by omega) (by omega)).mp c_5
    refine lv_iconst (v := 5) hx hb dX9_keyBytes_8 (by decide) ?_
    refine lv_goto (tgt := 27) hx hb dX9_keyBytes_9 (by decide) ?_
    have hpost : (5 : Int32) = F_X9_keyBytes_e rv := (show F_X9_keyBytes_e rv = (5 : Int32) from ((if_pos c_5).trans rfl)).symm
    have hP9 := hP.sub (ws' := [(hv, .inr (10, [.int (nI rv), .ref huser, .ref howner, .ref htried, .ref hident, .ref htape, .int given, .ref hsecret, .ref qent, .ref hnoe, .int perm, .int plain]))]) [0] rfl
    have hD9 := hD.sub (ws' := [(hv, .inr (10, [.int (nI rv), .ref huser, .ref howner, .ref htried, .ref hident, .ref htape, .int given, .ref hsecret, .ref qent, .ref hnoe, .int perm, .int plain]))]) [0] (by decide) rfl
    exact W.iret (v := 5) hx hb hr (fun t ht hW => ⟨⟨5, (), rfl, hpost, by rw [ht]; exact hP9, hD9⟩, hS.F ht⟩) hS.2.2 dX9_keyBytes_27
set_option maxHeartbeats 4000000 in
set_option maxRecDepth 100000 in
theorem k_X9_isMade_e (E : gE) (l : Launch) (hv huser howner htried hident htape hsecret qent hnoe he0 he1 ae0 : Nat) (rv : Nat) (given : Int32) (perm : Int32) (plain : Int32) (Xe0 : gRow) : gMi E l yX9_isMade wsX9_isMade ({ frames := 1, cells := 0, slots := 0, locals := 21 }) 0 0 [.ref hv] [(hv, .inr (10, [.int (nI rv), .ref huser, .ref howner, .ref htried, .ref hident, .ref htape, .int given, .ref hsecret, .ref qent, .ref hnoe, .int perm, .int plain])), (qent, .inl (E.2.2.1, 2, .inr (.inr (.inr (.inr (gEnt [he0, he1])))))), (he0, .inr (6, [.ref ae0, .int Xe0.1]))] (fun (rr : Int32) (_ : Unit) => rr = F_X9_isMade_e Xe0) (fun (_ : Unit) => [(hv, .inr (10, [.int (nI rv), .ref huser, .ref howner, .ref htried, .ref hident, .ref htape, .int given, .ref hsecret, .ref qent, .ref hnoe, .int perm, .int plain])), (qent, .inl (E.2.2.1, 2, .inr (.inr (.inr (.inr (gEnt [he0, he1])))))), (he0, .inr (6, [.ref ae0, .int Xe0.1]))]) := by
  intro sz
  refine Met.ofW (cc := cX9_isMade) (maxL := 1) (ret := (some .boolean)) (by decide) rfl ?_
  intro p e s m args below meth c s₁ B hml hv
  obtain ⟨rfl, hsz, hP, hV, hD0⟩ := hv
  have hx := B.exec
  have hb := B.bytes
  have hr := B.returns
  have hts := atoms_spec (ws := wsX9_isMade) B.pre
  have hown : s.vm.findClass RX9 = some m.cls := findClass_of_methodNamed B.named
  have hlocks := B.notSynchronized
  subst hsz
  have hD := hD0.self (sz := s.heap.size)
  clear hD0
  generalize hAe : va_A [(hv, .inr (10, [.int (nI rv), .ref huser, .ref howner, .ref htried, .ref hident, .ref htape, .int given, .ref hsecret, .ref qent, .ref hnoe, .int perm, .int plain])), (qent, .inl (E.2.2.1, 2, .inr (.inr (.inr (.inr (gEnt [he0, he1])))))), (he0, .inr (6, [.ref ae0, .int Xe0.1]))] s.heap.size = A at hD hV ⊢
  have hA : ∀ q : Nat, s.heap.size ≤ q → A q := fun q h => by rw [← hAe]; exact Or.inr h
  have hS : va_S A s.heap s.heap [] := va_S.rf
  have hK := hV.1
  have hF : CallFix p m c cX9_isMade 1 s _ wsX9_isMade RX9 := ⟨hx, hb, hml, hown, hts⟩
  have hl := lv_entry [.ref hv] (n := 1) (Nat.le_of_ble_eq_true rfl)
  rw [lg_entry_eq]
  generalize (lg_sl [.ref hv] ++ List.replicate (1 - (lg_sl [.ref hv]).length) Slot.unset).toArray = ls at hl ⊢
  have hl : lv_has ls 1 [(0, .ref hv)] := hl
  refine lv_aload_n hx hb dX9_isMade_0 rfl (lv_at hl 0 rfl) ?_
  refine lv_iconst (v := 0) hx hb dX9_isMade_1 (by decide) ?_
  refine gVr hF hl hV hP hD hS hA [0, 1] [2] (wc := [(hv, .inr (10, [.int (nI rv), .ref huser, .ref howner, .ref htried, .ref hident, .ref htape, .int given, .ref hsecret, .ref qent, .ref hnoe, .int perm, .int plain])), (qent, .inl (E.2.2.1, 2, .inr (.inr (.inr (.inr (gEnt [he0, he1]))))))]) (wr := [(he0, .inr (6, [.ref ae0, .int Xe0.1]))]) rfl rfl rfl (by decide) 0 10 rfl rfl rfl (k_X9_entryRow_e0 E l hv huser howner htried hident htape hsecret qent hnoe he0 he1 rv given perm plain) (cwV 1 hts gX9_isMade_X9_entryRow rfl rfl rfl (by decide +kernel) ⟨Nat.le_of_ble_eq_true rfl, Nat.le_of_ble_eq_true rfl⟩) rfl rfl rfl (Nat.le_of_ble_eq_true rfl) dX9_isMade_2 ⟨Nat.le_of_ble_eq_true rfl, Nat.le_of_ble_eq_true rfl⟩ (fun _ H_12 locs_12 hu_11 hP_12 hD_12 hS_12 => ?_)
  clear hu_11
  replace hP_12 : va_P E.1 vwCl [(he0, .inr (6, [.ref ae0, .int Xe0.1])), (hv, .inr (10, [.int (nI rv), .ref huser, .ref howner, .ref htried, .ref hident, .ref htape, .int given, .ref hsecret, .ref qent, .ref hnoe, .int perm, .int plain])), (qent, .inl (E.2.2.1, 2, .inr (.inr (.inr (.inr (gEnt [he0, he1]))))))] H_12 := hP_12
  replace hD_12 : va_D A [(he0, .inr (6, [.ref ae0, .int Xe0.1])), (hv, .inr (10, [.int (nI rv), .ref huser, .ref howner, .ref htried, .ref hident, .ref htape, .int given, .ref hsecret, .ref qent, .ref hnoe, .int perm, .int plain])), (qent, .inl (E.2.2.1, 2, .inr (.inr (.inr (.inr (gEnt [he0, he1]))))))] := hD_12
  clear hP hD hS
  refine gVi hF hl hV hP_12 hD_12 hS_12 hA [0] [1, 2] (wc := [(he0, .inr (6, [.ref ae0, .int Xe0.1]))]) (wr := [(hv, .inr (10, [.int (nI rv), .ref huser, .ref howner, .ref htried, .ref hident, .ref htape, .int given, .ref hsecret, .ref qent, .ref hnoe, .int perm, .int plain])), (qent, .inl (E.2.2.1, 2, .inr (.inr (.inr (.inr (gEnt [he0, he1]))))))]) rfl rfl rfl (by decide) 0 6 rfl rfl rfl (k_X5_count E l he0 ae0 Xe0) (cwV 0 hts gX9_isMade_X5_count rfl rfl rfl (by decide +kernel) ⟨Nat.le_of_ble_eq_true rfl, Nat.le_of_ble_eq_true rfl⟩) rfl rfl rfl (Nat.le_of_ble_eq_true rfl) dX9_isMade_5 ⟨Nat.le_of_ble_eq_true rfl, Nat.le_of_ble_eq_true rfl⟩ (fun r_13 _ H_14 locs_14 hu_13 hP_14 hD_14 hS_14 => ?_)
  have er_13 : r_13 = F_X5_count Xe0 := hu_13
  clear hu_13
  replace hP_14 : va_P E.1 vwCl [(hv, .inr (10, [.int (nI rv), .ref huser, .ref howner, .ref htried, .ref hident, .ref htape, .int given, .ref hsecret, .ref qent, .ref hnoe, .int perm, .int plain])), (qent, .inl (E.2.2.1, 2, .inr (.inr (.inr (.inr (gEnt [he0, he1])))))), (he0, .inr (6, [.ref ae0, .int Xe0.1]))] H_14 := hP_14
  replace hD_14 : va_D A [(hv, .inr (10, [.int (nI rv), .ref huser, .ref howner, .ref htried, .ref hident, .ref htape, .int given, .ref hsecret, .ref qent, .ref hnoe, .int perm, .int plain])), (qent, .inl (E.2.2.1, 2, .inr (.inr (.inr (.inr (gEnt [he0, he1])))))), (he0, .inr (6, [.ref ae0, .int Xe0.1]))] := hD_14
  clear hP_12 hD_12 hS_12
  refine lv_if_le (tgt := 15) hx hb dX9_isMade_8 (by decide) (fun c_15 => ?_) (fun c_15 => ?_)
  · replace c_15 : r_13 ≤ 0 := c_15
    refine lv_iconst (v := 0) hx hb dX9_isMade_15 (by decide) ?_
    have hpost : (0 : Int32) = F_X9_isMade_e Xe0 := (show F_X9_isMade_e Xe0 = (0 : Int32) from (gLet_eq er_13 ((if_pos c_15).trans rfl))).symm
    have hP9 := hP_14.sub (ws' := [(hv, .inr (10, [.int (nI rv), .ref huser, .ref howner, .ref htried, .ref hident, .ref htape, .int given, .ref hsecret, .ref qent, .ref hnoe, .int perm, .int plain])), (qent, .inl (E.2.2.1, 2, .inr (.inr (.inr (.inr (gEnt [he0, he1])))))), (he0, .inr (6, [.ref ae0, .int Xe0.1]))]) [0, 1, 2] rfl
    have hD9 := hD_14.sub (ws' := [(hv, .inr (10, [.int (nI rv), .ref huser, .ref howner, .ref htried, .ref hident, .ref htape, .int given, .ref hsecret, .ref qent, .ref hnoe, .int perm, .int plain])), (qent, .inl (E.2.2.1, 2, .inr (.inr (.inr (.inr (gEnt [he0, he1])))))), (he0, .inr (6, [.ref ae0, .int Xe0.1]))]) [0, 1, 2] (by decide) rfl
    exact W.zret (v := 0) hx hb hr rfl (fun t ht hW => ⟨⟨0, (), rfl, hpost, by rw [ht]; exact hP9, hD9⟩, hS_14.F ht⟩) hS_14.2.2 dX9_isMade_16
  · replace c_15 : ¬ (r_13 ≤ 0) := c_15
    refine lv_iconst (v := 1) hx hb dX9_isMade_11 (by decide) ?_
    refine lv_goto (tgt := 16) hx hb dX9_isMade_12 (by decide) ?_
    have hpost : (1 : Int32) = F_X9_isMade_e Xe0 := (show F_X9_isMade_e Xe0 = (1 : Int32) from (gLet_eq er_13 ((if_neg c_15).trans rfl))).symm
    have hP9 := hP_14.sub (ws' := [(hv, .inr (10, [.int (nI rv), .ref huser, .ref howner, .ref htried, .ref hident, .ref htape, .int given, .ref hsecret, .ref qent, .ref hnoe, .int perm, .int plain])), (qent, .inl (E.2.2.1, 2, .inr (.inr (.inr (.inr (gEnt [he0, he1])))))), (he0, .inr (6, [.ref ae0, .int Xe0.1]))]) [0, 1, 2] rfl
    have hD9 := hD_14.sub (ws' := [(hv, .inr (10, [.int (nI rv), .ref huser, .ref howner, .ref htried, .ref hident, .ref htape, .int given, .ref hsecret, .ref qent, .ref hnoe, .int perm, .int plain])), (qent, .inl (E.2.2.1, 2, .inr (.inr (.inr (.inr (gEnt [he0, he1])))))), (he0, .inr (6, [.ref ae0, .int Xe0.1]))]) [0, 1, 2] (by decide) rfl
    exact W.zret (v := 1) hx hb hr rfl (fun t ht hW => ⟨⟨1, (), rfl, hpost, by rw [ht]; exact hP9, hD9⟩, hS_14.F ht⟩) hS_14.2.2 dX9_isMade_16
set_option maxHeartbeats 4000000 in
set_option maxRecDepth 100000 in
theorem k_X9_isOpen_l (E : gE) (l : Launch) (hv huser howner htried hident htape hsecret qent hnoe asecret : Nat) (given : Int32) (perm : Int32) (plain : Int32) (Xsecret : gRow) : gMi E l yX9_isOpen wsX9_isOpen ({ frames := 1, cells := 0, slots := 0, locals := 20 }) 0 0 [.ref hv] [(hv, .inr (10, [.int 5, .ref huser, .ref howner, .ref htried, .ref hident, .ref htape, .int given, .ref hsecret, .ref qent, .ref hnoe, .int perm, .int plain])), (hsecret, .inr (6, [.ref asecret, .int Xsecret.1]))] (fun (rr : Int32) (_ : Unit) => rr = F_X9_isOpen_l Xsecret) (fun (_ : Unit) => [(hv, .inr (10, [.int 5, .ref huser, .ref howner, .ref htried, .ref hident, .ref htape, .int given, .ref hsecret, .ref qent, .ref hnoe, .int perm, .int plain])), (hsecret, .inr (6, [.ref asecret, .int Xsecret.1]))]) := by
  intro sz
  refine Met.ofW (cc := cX9_isOpen) (maxL := 1) (ret := (some .boolean)) (by decide) rfl ?_
  intro p e s m args below meth c s₁ B hml hv
  obtain ⟨rfl, hsz, hP, hV, hD0⟩ := hv
  have hx := B.exec
  have hb := B.bytes
  have hr := B.returns
  have hts := atoms_spec (ws := wsX9_isOpen) B.pre
  have hown : s.vm.findClass RX9 = some m.cls := findClass_of_methodNamed B.named
  have hlocks := B.notSynchronized
  subst hsz
  have hD := hD0.self (sz := s.heap.size)
  clear hD0
  generalize hAe : va_A [(hv, .inr (10, [.int 5, .ref huser, .ref howner, .ref htried, .ref hident, .ref htape, .int given, .ref hsecret, .ref qent, .ref hnoe, .int perm, .int plain])), (hsecret, .inr (6, [.ref asecret, .int Xsecret.1]))] s.heap.size = A at hD hV ⊢
  have hA : ∀ q : Nat, s.heap.size ≤ q → A q := fun q h => by rw [← hAe]; exact Or.inr h
  have hS : va_S A s.heap s.heap [] := va_S.rf
  have hK := hV.1
  have hF : CallFix p m c cX9_isOpen 1 s _ wsX9_isOpen RX9 := ⟨hx, hb, hml, hown, hts⟩
  have hl := lv_entry [.ref hv] (n := 1) (Nat.le_of_ble_eq_true rfl)
  rw [lg_entry_eq]
  generalize (lg_sl [.ref hv] ++ List.replicate (1 - (lg_sl [.ref hv]).length) Slot.unset).toArray = ls at hl ⊢
  have hl : lv_has ls 1 [(0, .ref hv)] := hl
  have in_X9 : ∀ w ∈ wsX90, w ∈ wsX9_isOpen := by decide +kernel
  have w_0 := hts (.fieldLink RX9 32 "CryptRows$Vault" "secret" "LCryptRows$Row;") (by decide +kernel)
  refine lv_aload_n hx hb dX9_isOpen_0 rfl (lv_at hl 0 rfl) ?_
  refine va_get (D := E.1) (ci := 10) (v := .ref hsecret) (C := RX9) (T := TX9) (N := 12) hx hb hts in_X9 hown hK hP 0 rfl rfl 7 (by decide) w_0 (fun _ h9 => h9) rfl dX9_isOpen_1 ?_
  refine gVi hF hl hV hP hD hS hA [1] [0] (wc := [(hsecret, .inr (6, [.ref asecret, .int Xsecret.1]))]) (wr := [(hv, .inr (10, [.int 5, .ref huser, .ref howner, .ref htried, .ref hident, .ref htape, .int given, .ref hsecret, .ref qent, .ref hnoe, .int perm, .int plain]))]) rfl rfl rfl (by decide) 0 6 rfl rfl rfl (k_X5_count E l hsecret asecret Xsecret) (cwV 0 hts gX9_isOpen_X5_count rfl rfl rfl (by decide +kernel) ⟨Nat.le_of_ble_eq_true rfl, Nat.le_of_ble_eq_true rfl⟩) rfl rfl rfl (Nat.le_of_ble_eq_true rfl) dX9_isOpen_4 ⟨Nat.le_of_ble_eq_true rfl, Nat.le_of_ble_eq_true rfl⟩ (fun r_7 _ H_8 locs_8 hu_7 hP_8 hD_8 hS_8 => ?_)
  have er_7 : r_7 = F_X5_count Xsecret := hu_7
  clear hu_7
  replace hP_8 : va_P E.1 vwCl [(hv, .inr (10, [.int 5, .ref huser, .ref howner, .ref htried, .ref hident, .ref htape, .int given, .ref hsecret, .ref qent, .ref hnoe, .int perm, .int plain])), (hsecret, .inr (6, [.ref asecret, .int Xsecret.1]))] H_8 := hP_8
  replace hD_8 : va_D A [(hv, .inr (10, [.int 5, .ref huser, .ref howner, .ref htried, .ref hident, .ref htape, .int given, .ref hsecret, .ref qent, .ref hnoe, .int perm, .int plain])), (hsecret, .inr (6, [.ref asecret, .int Xsecret.1]))] := hD_8
  clear hP hD hS
  refine lv_if_le (tgt := 14) hx hb dX9_isOpen_7 (by decide) (fun c_9 => ?_) (fun c_9 => ?_)
  · replace c_9 : r_7 ≤ 0 := c_9
    refine lv_iconst (v := 0) hx hb dX9_isOpen_14 (by decide) ?_
    have hpost : (0 : Int32) = F_X9_isOpen_l Xsecret := (show F_X9_isOpen_l Xsecret = (0 : Int32) from (gLet_eq er_7 ((if_pos c_9).trans rfl))).symm
    have hP9 := hP_8.sub (ws' := [(hv, .inr (10, [.int 5, .ref huser, .ref howner, .ref htried, .ref hident, .ref htape, .int given, .ref hsecret, .ref qent, .ref hnoe, .int perm, .int plain])), (hsecret, .inr (6, [.ref asecret, .int Xsecret.1]))]) [0, 1] rfl
    have hD9 := hD_8.sub (ws' := [(hv, .inr (10, [.int 5, .ref huser, .ref howner, .ref htried, .ref hident, .ref htape, .int given, .ref hsecret, .ref qent, .ref hnoe, .int perm, .int plain])), (hsecret, .inr (6, [.ref asecret, .int Xsecret.1]))]) [0, 1] (by decide) rfl
    exact W.zret (v := 0) hx hb hr rfl (fun t ht hW => ⟨⟨0, (), rfl, hpost, by rw [ht]; exact hP9, hD9⟩, hS_8.F ht⟩) hS_8.2.2 dX9_isOpen_15
  · replace c_9 : ¬ (r_7 ≤ 0) := c_9
    refine lv_iconst (v := 1) hx hb dX9_isOpen_10 (by decide) ?_
    refine lv_goto (tgt := 15) hx hb dX9_isOpen_11 (by decide) ?_
    have hpost : (1 : Int32) = F_X9_isOpen_l Xsecret := (show F_X9_isOpen_l Xsecret = (1 : Int32) from (gLet_eq er_7 ((if_neg c_9).trans rfl))).symm
    have hP9 := hP_8.sub (ws' := [(hv, .inr (10, [.int 5, .ref huser, .ref howner, .ref htried, .ref hident, .ref htape, .int given, .ref hsecret, .ref qent, .ref hnoe, .int perm, .int plain])), (hsecret, .inr (6, [.ref asecret, .int Xsecret.1]))]) [0, 1] rfl
    have hD9 := hD_8.sub (ws' := [(hv, .inr (10, [.int 5, .ref huser, .ref howner, .ref htried, .ref hident, .ref htape, .int given, .ref hsecret, .ref qent, .ref hnoe, .int perm, .int plain])), (hsecret, .inr (6, [.ref asecret, .int Xsecret.1]))]) [0, 1] (by decide) rfl
    exact W.zret (v := 1) hx hb hr rfl (fun t ht hW => ⟨⟨1, (), rfl, hpost, by rw [ht]; exact hP9, hD9⟩, hS_8.F ht⟩) hS_8.2.2 dX9_isOpen_15
set_option maxHeartbeats 4000000 in
set_option maxRecDepth 100000 in
theorem k_X9_entryRow_l0 (E : gE) (l : Launch) (hv huser howner htried hident htape hsecret qent hnoe he0 he1 he2 he3 he4 : Nat) (given : Int32) (perm : Int32) (plain : Int32) : gMr E l yX9_entryRow wsX9_entryRow ({ frames := 0, cells := 0, slots := 0, locals := 0 }) 0 0 [.ref hv, .int 0] [(hv, .inr (10, [.int 5, .ref huser, .ref howner, .ref htried, .ref hident, .ref htape, .int given, .ref hsecret, .ref qent, .ref hnoe, .int perm, .int plain])), (qent, .inl (E.2.2.1, 5, .inr (.inr (.inr (.inr (gEnt [he0, he1, he2, he3, he4]))))))] he0 (fun (_ : Unit) => True) (fun (_ : Unit) => [(hv, .inr (10, [.int 5, .ref huser, .ref howner, .ref htried, .ref hident, .ref htape, .int given, .ref hsecret, .ref qent, .ref hnoe, .int perm, .int plain])), (qent, .inl (E.2.2.1, 5, .inr (.inr (.inr (.inr (gEnt [he0, he1, he2, he3, he4]))))))]) := by
  intro sz
  refine Met.ofW (cc := cX9_entryRow) (maxL := 2) (ret := (some (.object "CryptRows$Row"))) (by decide) rfl ?_
  intro p e s m args below meth c s₁ B hml hv
  obtain ⟨rfl, hsz, hP, hV, hD0⟩ := hv
  have hx := B.exec
  have hb := B.bytes
  have hr := B.returns
  have hts := atoms_spec (ws := wsX9_entryRow) B.pre
  have hown : s.vm.findClass RX9 = some m.cls := findClass_of_methodNamed B.named
  have hlocks := B.notSynchronized
  subst hsz
  have hD := hD0.self (sz := s.heap.size)
  clear hD0
  generalize hAe : va_A [(hv, .inr (10, [.int 5, .ref huser, .ref howner, .ref htried, .ref hident, .ref htape, .int given, .ref hsecret, .ref qent, .ref hnoe, .int perm, .int plain])), (qent, .inl (E.2.2.1, 5, .inr (.inr (.inr (.inr (gEnt [he0, he1, he2, he3, he4]))))))] s.heap.size = A at hD hV ⊢
  have hA : ∀ q : Nat, s.heap.size ≤ q → A q := fun q h => by rw [← hAe]; exact Or.inr h
  have hS : va_S A s.heap s.heap [] := va_S.rf
  have hK := hV.1
  have hF : CallFix p m c cX9_entryRow 2 s _ wsX9_entryRow RX9 := ⟨hx, hb, hml, hown, hts⟩
  have hl := lv_entry [.ref hv, .int 0] (n := 2) (Nat.le_of_ble_eq_true rfl)
  rw [lg_entry_eq]
  generalize (lg_sl [.ref hv, .int 0] ++ List.replicate (2 - (lg_sl [.ref hv, .int 0]).length) Slot.unset).toArray = ls at hl ⊢
  have hl : lv_has ls 2 [(0, .ref hv), (1, .int 0)] := hl
  have in_X9 : ∀ w ∈ wsX90, w ∈ wsX9_entryRow := by decide +kernel
  have w_0 := hts (.fieldLink RX9 42 "CryptRows$Vault" "entries" "[LCryptRows$Row;") (by decide +kernel)
  refine lv_iload_n hx hb dX9_entryRow_0 rfl (lv_at hl 1 rfl) ?_
  refine lv_if_lt (tgt := 22) hx hb dX9_entryRow_1 (by decide) (fun c_5 => absurd c_5 (by decide)) (fun c_5 => ?_)
  refine lv_iload_n hx hb dX9_entryRow_4 rfl (lv_at hl 1 rfl) ?_
  refine lv_aload_n hx hb dX9_entryRow_5 rfl (lv_at hl 0 rfl) ?_
  refine va_get (D := E.1) (ci := 10) (v := .ref qent) (C := RX9) (T := TX9) (N := 12) hx hb hts in_X9 hown hK hP 0 rfl rfl 8 (by decide) w_0 (fun _ h9 => h9) rfl dX9_entryRow_6 ?_
  refine va_alen (v := 5) hx hb hK hP 1 1 rfl rfl rfl dX9_entryRow_9 ?_
  refine lv_icmp_ge (tgt := 22) hx hb dX9_entryRow_10 (by decide) (fun c_6 => absurd c_6 (by decide)) (fun c_6 => ?_)
  refine lv_aload_n hx hb dX9_entryRow_13 rfl (lv_at hl 0 rfl) ?_
  refine va_get (D := E.1) (ci := 10) (v := .ref qent) (C := RX9) (T := TX9) (N := 12) hx hb hts in_X9 hown hK hP 0 rfl rfl 8 (by decide) w_0 (fun _ h9 => h9) rfl dX9_entryRow_14 ?_
  refine lv_iload_n hx hb dX9_entryRow_17 rfl (lv_at hl 1 rfl) ?_
  refine g_aald (e0 := 0) (r := he0) hx hb hK hP 1 1 rfl rfl (by omega) (by omega) rfl dX9_entryRow_18 ?_
  refine lv_ifnonnull (tgt := 27) hx hb dX9_entryRow_19 (by decide) ?_
  refine lv_aload_n hx hb dX9_entryRow_27 rfl (lv_at hl 0 rfl) ?_
  refine va_get (D := E.1) (ci := 10) (v := .ref qent) (C := RX9) (T := TX9) (N := 12) hx hb hts in_X9 hown hK hP 0 rfl rfl 8 (by decide) w_0 (fun _ h9 => h9) rfl dX9_entryRow_28 ?_
  refine lv_iload_n hx hb dX9_entryRow_31 rfl (lv_at hl 1 rfl) ?_
  refine g_aald (e0 := 0) (r := he0) hx hb hK hP 1 1 rfl rfl (by omega) (by omega) rfl dX9_entryRow_32 ?_
  have hP9 := hP.sub (ws' := [(hv, .inr (10, [.int 5, .ref huser, .ref howner, .ref htried, .ref hident, .ref htape, .int given, .ref hsecret, .ref qent, .ref hnoe, .int perm, .int plain])), (qent, .inl (E.2.2.1, 5, .inr (.inr (.inr (.inr (gEnt [he0, he1, he2, he3, he4]))))))]) [0, 1] rfl
  have hD9 := hD.sub (ws' := [(hv, .inr (10, [.int 5, .ref huser, .ref howner, .ref htried, .ref hident, .ref htape, .int given, .ref hsecret, .ref qent, .ref hnoe, .int perm, .int plain])), (qent, .inl (E.2.2.1, 5, .inr (.inr (.inr (.inr (gEnt [he0, he1, he2, he3, he4]))))))]) [0, 1] (by decide) rfl
  exact W.aret (v := .ref he0) hx hb hr (Or.inl ⟨_, rfl⟩) (Or.inr ⟨_, rfl⟩) (fun t ht hW => ⟨⟨(), _, rfl, trivial, rfl, by rw [ht]; exact hP9, hD9⟩, hS.F ht⟩) hS.2.2 dX9_entryRow_33
set_option maxHeartbeats 4000000 in
set_option maxRecDepth 100000 in
theorem k_X9_entryRow_l1 (E : gE) (l : Launch) (hv huser howner htried hident htape hsecret qent hnoe he0 he1 he2 he3 he4 : Nat) (given : Int32) (perm : Int32) (plain : Int32) : gMr E l yX9_entryRow wsX9_entryRow ({ frames := 0, cells := 0, slots := 0, locals := 0 }) 0 0 [.ref hv, .int 1] [(hv, .inr (10, [.int 5, .ref huser, .ref howner, .ref htried, .ref hident, .ref htape, .int given, .ref hsecret, .ref qent, .ref hnoe, .int perm, .int plain])), (qent, .inl (E.2.2.1, 5, .inr (.inr (.inr (.inr (gEnt [he0, he1, he2, he3, he4]))))))] he1 (fun (_ : Unit) => True) (fun (_ : Unit) => [(hv, .inr (10, [.int 5, .ref huser, .ref howner, .ref htried, .ref hident, .ref htape, .int given, .ref hsecret, .ref qent, .ref hnoe, .int perm, .int plain])), (qent, .inl (E.2.2.1, 5, .inr (.inr (.inr (.inr (gEnt [he0, he1, he2, he3, he4]))))))]) := by
  intro sz
  refine Met.ofW (cc := cX9_entryRow) (maxL := 2) (ret := (some (.object "CryptRows$Row"))) (by decide) rfl ?_
  intro p e s m args below meth c s₁ B hml hv
  obtain ⟨rfl, hsz, hP, hV, hD0⟩ := hv
  have hx := B.exec
  have hb := B.bytes
  have hr := B.returns
  have hts := atoms_spec (ws := wsX9_entryRow) B.pre
  have hown : s.vm.findClass RX9 = some m.cls := findClass_of_methodNamed B.named
  have hlocks := B.notSynchronized
  subst hsz
  have hD := hD0.self (sz := s.heap.size)
  clear hD0
  generalize hAe : va_A [(hv, .inr (10, [.int 5, .ref huser, .ref howner, .ref htried, .ref hident, .ref htape, .int given, .ref hsecret, .ref qent, .ref hnoe, .int perm, .int plain])), (qent, .inl (E.2.2.1, 5, .inr (.inr (.inr (.inr (gEnt [he0, he1, he2, he3, he4]))))))] s.heap.size = A at hD hV ⊢
  have hA : ∀ q : Nat, s.heap.size ≤ q → A q := fun q h => by rw [← hAe]; exact Or.inr h
  have hS : va_S A s.heap s.heap [] := va_S.rf
  have hK := hV.1
  have hF : CallFix p m c cX9_entryRow 2 s _ wsX9_entryRow RX9 := ⟨hx, hb, hml, hown, hts⟩
  have hl := lv_entry [.ref hv, .int 1] (n := 2) (Nat.le_of_ble_eq_true rfl)
  rw [lg_entry_eq]
  generalize (lg_sl [.ref hv, .int 1] ++ List.replicate (2 - (lg_sl [.ref hv, .int 1]).length) Slot.unset).toArray = ls at hl ⊢
  have hl : lv_has ls 2 [(0, .ref hv), (1, .int 1)] := hl
  have in_X9 : ∀ w ∈ wsX90, w ∈ wsX9_entryRow := by decide +kernel
  have w_0 := hts (.fieldLink RX9 42 "CryptRows$Vault" "entries" "[LCryptRows$Row;") (by decide +kernel)
  refine lv_iload_n hx hb dX9_entryRow_0 rfl (lv_at hl 1 rfl) ?_
  refine lv_if_lt (tgt := 22) hx hb dX9_entryRow_1 (by decide) (fun c_5 => absurd c_5 (by decide)) (fun c_5 => ?_)
  refine lv_iload_n hx hb dX9_entryRow_4 rfl (lv_at hl 1 rfl) ?_
  refine lv_aload_n hx hb dX9_entryRow_5 rfl (lv_at hl 0 rfl) ?_
  refine va_get (D := E.1) (ci := 10) (v := .ref qent) (C := RX9) (T := TX9) (N := 12) hx hb hts in_X9 hown hK hP 0 rfl rfl 8 (by decide) w_0 (fun _ h9 => h9) rfl dX9_entryRow_6 ?_
  refine va_alen (v := 5) hx hb hK hP 1 1 rfl rfl rfl dX9_entryRow_9 ?_
  refine lv_icmp_ge (tgt := 22) hx hb dX9_entryRow_10 (by decide) (fun c_6 => absurd c_6 (by decide)) (fun c_6 => ?_)
  refine lv_aload_n hx hb dX9_entryRow_13 rfl (lv_at hl 0 rfl) ?_
  refine va_get (D := E.1) (ci := 10) (v := .ref qent) (C := RX9) (T := TX9) (N := 12) hx hb hts in_X9 hown hK hP 0 rfl rfl 8 (by decide) w_0 (fun _ h9 => h9) rfl dX9_entryRow_14 ?_
  refine lv_iload_n hx hb dX9_entryRow_17 rfl (lv_at hl 1 rfl) ?_
  refine g_aald (e0 := 1) (r := he1) hx hb hK hP 1 1 rfl rfl (by omega) (by omega) rfl dX9_entryRow_18 ?_
  refine lv_ifnonnull (tgt := 27) hx hb dX9_entryRow_19 (by decide) ?_
  refine lv_aload_n hx hb dX9_entryRow_27 rfl (lv_at hl 0 rfl) ?_
  refine va_get (D := E.1) (ci := 10) (v := .ref qent) (C := RX9) (T := TX9) (N := 12) hx hb hts in_X9 hown hK hP 0 rfl rfl 8 (by decide) w_0 (fun _ h9 => h9) rfl dX9_entryRow_28 ?_
  refine lv_iload_n hx hb dX9_entryRow_31 rfl (lv_at hl 1 rfl) ?_
  refine g_aald (e0 := 1) (r := he1) hx hb hK hP 1 1 rfl rfl (by omega) (by omega) rfl dX9_entryRow_32 ?_
  have hP9 := hP.sub (ws' := [(hv, .inr (10, [.int 5, .ref huser, .ref howner, .ref htried, .ref hident, .ref htape, .int given, .ref hsecret, .ref qent, .ref hnoe, .int perm, .int plain])), (qent, .inl (E.2.2.1, 5, .inr (.inr (.inr (.inr (gEnt [he0, he1, he2, he3, he4]))))))]) [0, 1] rfl
  have hD9 := hD.sub (ws' := [(hv, .inr (10, [.int 5, .ref huser, .ref howner, .ref htried, .ref hident, .ref htape, .int given, .ref hsecret, .ref qent, .ref hnoe, .int perm, .int plain])), (qent, .inl (E.2.2.1, 5, .inr (.inr (.inr (.inr (gEnt [he0, he1, he2, he3, he4]))))))]) [0, 1] (by decide) rfl
  exact W.aret (v := .ref he1) hx hb hr (Or.inl ⟨_, rfl⟩) (Or.inr ⟨_, rfl⟩) (fun t ht hW => ⟨⟨(), _, rfl, trivial, rfl, by rw [ht]; exact hP9, hD9⟩, hS.F ht⟩) hS.2.2 dX9_entryRow_33
set_option maxHeartbeats 4000000 in
set_option maxRecDepth 100000 in
theorem k_X9_entryRow_l2 (E : gE) (l : Launch) (hv huser howner htried hident htape hsecret qent hnoe he0 he1 he2 he3 he4 : Nat) (given : Int32) (perm : Int32) (plain : Int32) : gMr E l yX9_entryRow wsX9_entryRow ({ frames := 0, cells := 0, slots := 0, locals := 0 }) 0 0 [.ref hv, .int 2] [(hv, .inr (10, [.int 5, .ref huser, .ref howner, .ref htried, .ref hident, .ref htape, .int given, .ref hsecret, .ref qent, .ref hnoe, .int perm, .int plain])), (qent, .inl (E.2.2.1, 5, .inr (.inr (.inr (.inr (gEnt [he0, he1, he2, he3, he4]))))))] he2 (fun (_ : Unit) => True) (fun (_ : Unit) => [(hv, .inr (10, [.int 5, .ref huser, .ref howner, .ref htried, .ref hident, .ref htape, .int given, .ref hsecret, .ref qent, .ref hnoe, .int perm, .int plain])), (qent, .inl (E.2.2.1, 5, .inr (.inr (.inr (.inr (gEnt [he0, he1, he2, he3, he4]))))))]) := by
  intro sz
  refine Met.ofW (cc := cX9_entryRow) (maxL := 2) (ret := (some (.object "CryptRows$Row"))) (by decide) rfl ?_
  intro p e s m args below meth c s₁ B hml hv
  obtain ⟨rfl, hsz, hP, hV, hD0⟩ := hv
  have hx := B.exec
  have hb := B.bytes
  have hr := B.returns
  have hts := atoms_spec (ws := wsX9_entryRow) B.pre
  have hown : s.vm.findClass RX9 = some m.cls := findClass_of_methodNamed B.named
  have hlocks := B.notSynchronized
  subst hsz
  have hD := hD0.self (sz := s.heap.size)
  clear hD0
  generalize hAe : va_A [(hv, .inr (10, [.int 5, .ref huser, .ref howner, .ref htried, .ref hident, .ref htape, .int given, .ref hsecret, .ref qent, .ref hnoe, .int perm, .int plain])), (qent, .inl (E.2.2.1, 5, .inr (.inr (.inr (.inr (gEnt [he0, he1, he2, he3, he4]))))))] s.heap.size = A at hD hV ⊢
  have hA : ∀ q : Nat, s.heap.size ≤ q → A q := fun q h => by rw [← hAe]; exact Or.inr h
  have hS : va_S A s.heap s.heap [] := va_S.rf
  have hK := hV.1
  have hF : CallFix p m c cX9_entryRow 2 s _ wsX9_entryRow RX9 := ⟨hx, hb, hml, hown, hts⟩
  have hl := lv_entry [.ref hv, .int 2] (n := 2) (Nat.le_of_ble_eq_true rfl)
  rw [lg_entry_eq]
  generalize (lg_sl [.ref hv, .int 2] ++ List.replicate (2 - (lg_sl [.ref hv, .int 2]).length) Slot.unset).toArray = ls at hl ⊢
  have hl : lv_has ls 2 [(0, .ref hv), (1, .int 2)] := hl
  have in_X9 : ∀ w ∈ wsX90, w ∈ wsX9_entryRow := by decide +kernel
  have w_0 := hts (.fieldLink RX9 42 "CryptRows$Vault" "entries" "[LCryptRows$Row;") (by decide +kernel)
  refine lv_iload_n hx hb dX9_entryRow_0 rfl (lv_at hl 1 rfl) ?_
  refine lv_if_lt (tgt := 22) hx hb dX9_entryRow_1 (by decide) (fun c_5 => absurd c_5 (by decide)) (fun c_5 => ?_)
  refine lv_iload_n hx hb dX9_entryRow_4 rfl (lv_at hl 1 rfl) ?_
  refine lv_aload_n hx hb dX9_entryRow_5 rfl (lv_at hl 0 rfl) ?_
  refine va_get (D := E.1) (ci := 10) (v := .ref qent) (C := RX9) (T := TX9) (N := 12) hx hb hts in_X9 hown hK hP 0 rfl rfl 8 (by decide) w_0 (fun _ h9 => h9) rfl dX9_entryRow_6 ?_
  refine va_alen (v := 5) hx hb hK hP 1 1 rfl rfl rfl dX9_entryRow_9 ?_
  refine lv_icmp_ge (tgt := 22) hx hb dX9_entryRow_10 (by decide) (fun c_6 => absurd c_6 (by decide)) (fun c_6 => ?_)
  refine lv_aload_n hx hb dX9_entryRow_13 rfl (lv_at hl 0 rfl) ?_
  refine va_get (D := E.1) (ci := 10) (v := .ref qent) (C := RX9) (T := TX9) (N := 12) hx hb hts in_X9 hown hK hP 0 rfl rfl 8 (by decide) w_0 (fun _ h9 => h9) rfl dX9_entryRow_14 ?_
  refine lv_iload_n hx hb dX9_entryRow_17 rfl (lv_at hl 1 rfl) ?_
  refine g_aald (e0 := 2) (r := he2) hx hb hK hP 1 1 rfl rfl (by omega) (by omega) rfl dX9_entryRow_18 ?_
  refine lv_ifnonnull (tgt := 27) hx hb dX9_entryRow_19 (by decide) ?_
  refine lv_aload_n hx hb dX9_entryRow_27 rfl (lv_at hl 0 rfl) ?_
  refine va_get (D := E.1) (ci := 10) (v := .ref qent) (C := RX9) (T := TX9) (N := 12) hx hb hts in_X9 hown hK hP 0 rfl rfl 8 (by decide) w_0 (fun _ h9 => h9) rfl dX9_entryRow_28 ?_
  refine lv_iload_n hx hb dX9_entryRow_31 rfl (lv_at hl 1 rfl) ?_
  refine g_aald (e0 := 2) (r := he2) hx hb hK hP 1 1 rfl rfl (by omega) (by omega) rfl dX9_entryRow_32 ?_
  have hP9 := hP.sub (ws' := [(hv, .inr (10, [.int 5, .ref huser, .ref howner, .ref htried, .ref hident, .ref htape, .int given, .ref hsecret, .ref qent, .ref hnoe, .int perm, .int plain])), (qent, .inl (E.2.2.1, 5, .inr (.inr (.inr (.inr (gEnt [he0, he1, he2, he3, he4]))))))]) [0, 1] rfl
  have hD9 := hD.sub (ws' := [(hv, .inr (10, [.int 5, .ref huser, .ref howner, .ref htried, .ref hident, .ref htape, .int given, .ref hsecret, .ref qent, .ref hnoe, .int perm, .int plain])), (qent, .inl (E.2.2.1, 5, .inr (.inr (.inr (.inr (gEnt [he0, he1, he2, he3, he4]))))))]) [0, 1] (by decide) rfl
  exact W.aret (v := .ref he2) hx hb hr (Or.inl ⟨_, rfl⟩) (Or.inr ⟨_, rfl⟩) (fun t ht hW => ⟨⟨(), _, rfl, trivial, rfl, by rw [ht]; exact hP9, hD9⟩, hS.F ht⟩) hS.2.2 dX9_entryRow_33
set_option maxHeartbeats 4000000 in
set_option maxRecDepth 100000 in
theorem k_X9_entryRow_l3 (E : gE) (l : Launch) (hv huser howner htried hident htape hsecret qent hnoe he0 he1 he2 he3 he4 : Nat) (given : Int32) (perm : Int32) (plain : Int32) : gMr E l yX9_entryRow wsX9_entryRow ({ frames := 0, cells := 0, slots := 0, locals := 0 }) 0 0 [.ref hv, .int 3] [(hv, .inr (10, [.int 5, .ref huser, .ref howner, .ref htried, .ref hident, .ref htape, .int given, .ref hsecret, .ref qent, .ref hnoe, .int perm, .int plain])), (qent, .inl (E.2.2.1, 5, .inr (.inr (.inr (.inr (gEnt [he0, he1, he2, he3, he4]))))))] he3 (fun (_ : Unit) => True) (fun (_ : Unit) => [(hv, .inr (10, [.int 5, .ref huser, .ref howner, .ref htried, .ref hident, .ref htape, .int given, .ref hsecret, .ref qent, .ref hnoe, .int perm, .int plain])), (qent, .inl (E.2.2.1, 5, .inr (.inr (.inr (.inr (gEnt [he0, he1, he2, he3, he4]))))))]) := by
  intro sz
  refine Met.ofW (cc := cX9_entryRow) (maxL := 2) (ret := (some (.object "CryptRows$Row"))) (by decide) rfl ?_
  intro p e s m args below meth c s₁ B hml hv
  obtain ⟨rfl, hsz, hP, hV, hD0⟩ := hv
  have hx := B.exec
  have hb := B.bytes
  have hr := B.returns
  have hts := atoms_spec (ws := wsX9_entryRow) B.pre
  have hown : s.vm.findClass RX9 = some m.cls := findClass_of_methodNamed B.named
  have hlocks := B.notSynchronized
  subst hsz
  have hD := hD0.self (sz := s.heap.size)
  clear hD0
  generalize hAe : va_A [(hv, .inr (10, [.int 5, .ref huser, .ref howner, .ref htried, .ref hident, .ref htape, .int given, .ref hsecret, .ref qent, .ref hnoe, .int perm, .int plain])), (qent, .inl (E.2.2.1, 5, .inr (.inr (.inr (.inr (gEnt [he0, he1, he2, he3, he4]))))))] s.heap.size = A at hD hV ⊢
  have hA : ∀ q : Nat, s.heap.size ≤ q → A q := fun q h => by rw [← hAe]; exact Or.inr h
  have hS : va_S A s.heap s.heap [] := va_S.rf
  have hK := hV.1
  have hF : CallFix p m c cX9_entryRow 2 s _ wsX9_entryRow RX9 := ⟨hx, hb, hml, hown, hts⟩
  have hl := lv_entry [.ref hv, .int 3] (n := 2) (Nat.le_of_ble_eq_true rfl)
  rw [lg_entry_eq]
  generalize (lg_sl [.ref hv, .int 3] ++ List.replicate (2 - (lg_sl [.ref hv, .int 3]).length) Slot.unset).toArray = ls at hl ⊢
  have hl : lv_has ls 2 [(0, .ref hv), (1, .int 3)] := hl
  have in_X9 : ∀ w ∈ wsX90, w ∈ wsX9_entryRow := by decide +kernel
  have w_0 := hts (.fieldLink RX9 42 "CryptRows$Vault" "entries" "[LCryptRows$Row;") (by decide +kernel)
  refine lv_iload_n hx hb dX9_entryRow_0 rfl (lv_at hl 1 rfl) ?_
  refine lv_if_lt (tgt := 22) hx hb dX9_entryRow_1 (by decide) (fun c_5 => absurd c_5 (by decide)) (fun c_5 => ?_)
  refine lv_iload_n hx hb dX9_entryRow_4 rfl (lv_at hl 1 rfl) ?_
  refine lv_aload_n hx hb dX9_entryRow_5 rfl (lv_at hl 0 rfl) ?_
  refine va_get (D := E.1) (ci := 10) (v := .ref qent) (C := RX9) (T := TX9) (N := 12) hx hb hts in_X9 hown hK hP 0 rfl rfl 8 (by decide) w_0 (fun _ h9 => h9) rfl dX9_entryRow_6 ?_
  refine va_alen (v := 5) hx hb hK hP 1 1 rfl rfl rfl dX9_entryRow_9 ?_
  refine lv_icmp_ge (tgt := 22) hx hb dX9_entryRow_10 (by decide) (fun c_6 => absurd c_6 (by decide)) (fun c_6 => ?_)
  refine lv_aload_n hx hb dX9_entryRow_13 rfl (lv_at hl 0 rfl) ?_
  refine va_get (D := E.1) (ci := 10) (v := .ref qent) (C := RX9) (T := TX9) (N := 12) hx hb hts in_X9 hown hK hP 0 rfl rfl 8 (by decide) w_0 (fun _ h9 => h9) rfl dX9_entryRow_14 ?_
  refine lv_iload_n hx hb dX9_entryRow_17 rfl (lv_at hl 1 rfl) ?_
  refine g_aald (e0 := 3) (r := he3) hx hb hK hP 1 1 rfl rfl (by omega) (by omega) rfl dX9_entryRow_18 ?_
  refine lv_ifnonnull (tgt := 27) hx hb dX9_entryRow_19 (by decide) ?_
  refine lv_aload_n hx hb dX9_entryRow_27 rfl (lv_at hl 0 rfl) ?_
  refine va_get (D := E.1) (ci := 10) (v := .ref qent) (C := RX9) (T := TX9) (N := 12) hx hb hts in_X9 hown hK hP 0 rfl rfl 8 (by decide) w_0 (fun _ h9 => h9) rfl dX9_entryRow_28 ?_
  refine lv_iload_n hx hb dX9_entryRow_31 rfl (lv_at hl 1 rfl) ?_
  refine g_aald (e0 := 3) (r := he3) hx hb hK hP 1 1 rfl rfl (by omega) (by omega) rfl dX9_entryRow_32 ?_
  have hP9 := hP.sub (ws' := [(hv, .inr (10, [.int 5, .ref huser, .ref howner, .ref htried, .ref hident, .ref htape, .int given, .ref hsecret, .ref qent, .ref hnoe, .int perm, .int plain])), (qent, .inl (E.2.2.1, 5, .inr (.inr (.inr (.inr (gEnt [he0, he1, he2, he3, he4]))))))]) [0, 1] rfl
  have hD9 := hD.sub (ws' := [(hv, .inr (10, [.int 5, .ref huser, .ref howner, .ref htried, .ref hident, .ref htape, .int given, .ref hsecret, .ref qent, .ref hnoe, .int perm, .int plain])), (qent, .inl (E.2.2.1, 5, .inr (.inr (.inr (.inr (gEnt [he0, he1, he2, he3, he4]))))))]) [0, 1] (by decide) rfl
  exact W.aret (v := .ref he3) hx hb hr (Or.inl ⟨_, rfl⟩) (Or.inr ⟨_, rfl⟩) (fun t ht hW => ⟨⟨(), _, rfl, trivial, rfl, by rw [ht]; exact hP9, hD9⟩, hS.F ht⟩) hS.2.2 dX9_entryRow_33
set_option maxHeartbeats 4000000 in
set_option maxRecDepth 100000 in
theorem k_X9_entryRow_l4 (E : gE) (l : Launch) (hv huser howner htried hident htape hsecret qent hnoe he0 he1 he2 he3 he4 : Nat) (given : Int32) (perm : Int32) (plain : Int32) : gMr E l yX9_entryRow wsX9_entryRow ({ frames := 0, cells := 0, slots := 0, locals := 0 }) 0 0 [.ref hv, .int 4] [(hv, .inr (10, [.int 5, .ref huser, .ref howner, .ref htried, .ref hident, .ref htape, .int given, .ref hsecret, .ref qent, .ref hnoe, .int perm, .int plain])), (qent, .inl (E.2.2.1, 5, .inr (.inr (.inr (.inr (gEnt [he0, he1, he2, he3, he4]))))))] he4 (fun (_ : Unit) => True) (fun (_ : Unit) => [(hv, .inr (10, [.int 5, .ref huser, .ref howner, .ref htried, .ref hident, .ref htape, .int given, .ref hsecret, .ref qent, .ref hnoe, .int perm, .int plain])), (qent, .inl (E.2.2.1, 5, .inr (.inr (.inr (.inr (gEnt [he0, he1, he2, he3, he4]))))))]) := by
  intro sz
  refine Met.ofW (cc := cX9_entryRow) (maxL := 2) (ret := (some (.object "CryptRows$Row"))) (by decide) rfl ?_
  intro p e s m args below meth c s₁ B hml hv
  obtain ⟨rfl, hsz, hP, hV, hD0⟩ := hv
  have hx := B.exec
  have hb := B.bytes
  have hr := B.returns
  have hts := atoms_spec (ws := wsX9_entryRow) B.pre
  have hown : s.vm.findClass RX9 = some m.cls := findClass_of_methodNamed B.named
  have hlocks := B.notSynchronized
  subst hsz
  have hD := hD0.self (sz := s.heap.size)
  clear hD0
  generalize hAe : va_A [(hv, .inr (10, [.int 5, .ref huser, .ref howner, .ref htried, .ref hident, .ref htape, .int given, .ref hsecret, .ref qent, .ref hnoe, .int perm, .int plain])), (qent, .inl (E.2.2.1, 5, .inr (.inr (.inr (.inr (gEnt [he0, he1, he2, he3, he4]))))))] s.heap.size = A at hD hV ⊢
  have hA : ∀ q : Nat, s.heap.size ≤ q → A q := fun q h => by rw [← hAe]; exact Or.inr h
  have hS : va_S A s.heap s.heap [] := va_S.rf
  have hK := hV.1
  have hF : CallFix p m c cX9_entryRow 2 s _ wsX9_entryRow RX9 := ⟨hx, hb, hml, hown, hts⟩
  have hl := lv_entry [.ref hv, .int 4] (n := 2) (Nat.le_of_ble_eq_true rfl)
  rw [lg_entry_eq]
  generalize (lg_sl [.ref hv, .int 4] ++ List.replicate (2 - (lg_sl [.ref hv, .int 4]).length) Slot.unset).toArray = ls at hl ⊢
  have hl : lv_has ls 2 [(0, .ref hv), (1, .int 4)] := hl
  have in_X9 : ∀ w ∈ wsX90, w ∈ wsX9_entryRow := by decide +kernel
  have w_0 := hts (.fieldLink RX9 42 "CryptRows$Vault" "entries" "[LCryptRows$Row;") (by decide +kernel)
  refine lv_iload_n hx hb dX9_entryRow_0 rfl (lv_at hl 1 rfl) ?_
  refine lv_if_lt (tgt := 22) hx hb dX9_entryRow_1 (by decide) (fun c_5 => absurd c_5 (by decide)) (fun c_5 => ?_)
  refine lv_iload_n hx hb dX9_entryRow_4 rfl (lv_at hl 1 rfl) ?_
  refine lv_aload_n hx hb dX9_entryRow_5 rfl (lv_at hl 0 rfl) ?_
  refine va_get (D := E.1) (ci := 10) (v := .ref qent) (C := RX9) (T := TX9) (N := 12) hx hb hts in_X9 hown hK hP 0 rfl rfl 8 (by decide) w_0 (fun _ h9 => h9) rfl dX9_entryRow_6 ?_
  refine va_alen (v := 5) hx hb hK hP 1 1 rfl rfl rfl dX9_entryRow_9 ?_
  refine lv_icmp_ge (tgt := 22) hx hb dX9_entryRow_10 (by decide) (fun c_6 => absurd c_6 (by decide)) (fun c_6 => ?_)
  refine lv_aload_n hx hb dX9_entryRow_13 rfl (lv_at hl 0 rfl) ?_
  refine va_get (D := E.1) (ci := 10) (v := .ref qent) (C := RX9) (T := TX9) (N := 12) hx hb hts in_X9 hown hK hP 0 rfl rfl 8 (by decide) w_0 (fun _ h9 => h9) rfl dX9_entryRow_14 ?_
  refine lv_iload_n hx hb dX9_entryRow_17 rfl (lv_at hl 1 rfl) ?_
  refine g_aald (e0 := 4) (r := he4) hx hb hK hP 1 1 rfl rfl (by omega) (by omega) rfl dX9_entryRow_18 ?_
  refine lv_ifnonnull (tgt := 27) hx hb dX9_entryRow_19 (by decide) ?_
  refine lv_aload_n hx hb dX9_entryRow_27 rfl (lv_at hl 0 rfl) ?_
  refine va_get (D := E.1) (ci := 10) (v := .ref qent) (C := RX9) (T := TX9) (N := 12) hx hb hts in_X9 hown hK hP 0 rfl rfl 8 (by decide) w_0 (fun _ h9 => h9) rfl dX9_entryRow_28 ?_
  refine lv_iload_n hx hb dX9_entryRow_31 rfl (lv_at hl 1 rfl) ?_
  refine g_aald (e0 := 4) (r := he4) hx hb hK hP 1 1 rfl rfl (by omega) (by omega) rfl dX9_entryRow_32 ?_
  have hP9 := hP.sub (ws' := [(hv, .inr (10, [.int 5, .ref huser, .ref howner, .ref htried, .ref hident, .ref htape, .int given, .ref hsecret, .ref qent, .ref hnoe, .int perm, .int plain])), (qent, .inl (E.2.2.1, 5, .inr (.inr (.inr (.inr (gEnt [he0, he1, he2, he3, he4]))))))]) [0, 1] rfl
  have hD9 := hD.sub (ws' := [(hv, .inr (10, [.int 5, .ref huser, .ref howner, .ref htried, .ref hident, .ref htape, .int given, .ref hsecret, .ref qent, .ref hnoe, .int perm, .int plain])), (qent, .inl (E.2.2.1, 5, .inr (.inr (.inr (.inr (gEnt [he0, he1, he2, he3, he4]))))))]) [0, 1] (by decide) rfl
  exact W.aret (v := .ref he4) hx hb hr (Or.inl ⟨_, rfl⟩) (Or.inr ⟨_, rfl⟩) (fun t ht hW => ⟨⟨(), _, rfl, trivial, rfl, by rw [ht]; exact hP9, hD9⟩, hS.F ht⟩) hS.2.2 dX9_entryRow_33
set_option maxHeartbeats 4000000 in
set_option maxRecDepth 100000 in
theorem k_X9_entryRow_ln (E : gE) (l : Launch) (hv huser howner htried hident htape hsecret qent hnoe he0 he1 he2 he3 he4 : Nat) (given : Int32) (perm : Int32) (plain : Int32) (which : Int32) (hw : which < 0 ∨ 5 ≤ which) : gMr E l yX9_entryRow wsX9_entryRow ({ frames := 0, cells := 0, slots := 0, locals := 0 }) 0 0 [.ref hv, .int which] [(hv, .inr (10, [.int 5, .ref huser, .ref howner, .ref htried, .ref hident, .ref htape, .int given, .ref hsecret, .ref qent, .ref hnoe, .int perm, .int plain])), (qent, .inl (E.2.2.1, 5, .inr (.inr (.inr (.inr (gEnt [he0, he1, he2, he3, he4]))))))] hnoe (fun (_ : Unit) => True) (fun (_ : Unit) => [(hv, .inr (10, [.int 5, .ref huser, .ref howner, .ref htried, .ref hident, .ref htape, .int given, .ref hsecret, .ref qent, .ref hnoe, .int perm, .int plain])), (qent, .inl (E.2.2.1, 5, .inr (.inr (.inr (.inr (gEnt [he0, he1, he2, he3, he4]))))))]) := by
  intro sz
  refine Met.ofW (cc := cX9_entryRow) (maxL := 2) (ret := (some (.object "CryptRows$Row"))) (by decide) rfl ?_
  intro p e s m args below meth c s₁ B hml hv
  obtain ⟨rfl, hsz, hP, hV, hD0⟩ := hv
  have hx := B.exec
  have hb := B.bytes
  have hr := B.returns
  have hts := atoms_spec (ws := wsX9_entryRow) B.pre
  have hown : s.vm.findClass RX9 = some m.cls := findClass_of_methodNamed B.named
  have hlocks := B.notSynchronized
  subst hsz
  have hD := hD0.self (sz := s.heap.size)
  clear hD0
  generalize hAe : va_A [(hv, .inr (10, [.int 5, .ref huser, .ref howner, .ref htried, .ref hident, .ref htape, .int given, .ref hsecret, .ref qent, .ref hnoe, .int perm, .int plain])), (qent, .inl (E.2.2.1, 5, .inr (.inr (.inr (.inr (gEnt [he0, he1, he2, he3, he4]))))))] s.heap.size = A at hD hV ⊢
  have hA : ∀ q : Nat, s.heap.size ≤ q → A q := fun q h => by rw [← hAe]; exact Or.inr h
  have hS : va_S A s.heap s.heap [] := va_S.rf
  have hK := hV.1
  have hF : CallFix p m c cX9_entryRow 2 s _ wsX9_entryRow RX9 := ⟨hx, hb, hml, hown, hts⟩
  have hl := lv_entry [.ref hv, .int which] (n := 2) (Nat.le_of_ble_eq_true rfl)
  rw [lg_entry_eq]
  generalize (lg_sl [.ref hv, .int which] ++ List.replicate (2 - (lg_sl [.ref hv, .int which]).length) Slot.unset).toArray = ls at hl ⊢
  have hl : lv_has ls 2 [(0, .ref hv), (1, .int which)] := hl
  have in_X9 : ∀ w ∈ wsX90, w ∈ wsX9_entryRow := by decide +kernel
  have w_0 := hts (.fieldLink RX9 35 "CryptRows$Vault" "noEntry" "LCryptRows$Row;") (by decide +kernel)
  have w_1 := hts (.fieldLink RX9 42 "CryptRows$Vault" "entries" "[LCryptRows$Row;") (by decide +kernel)
  refine lv_iload_n hx hb dX9_entryRow_0 rfl (lv_at hl 1 rfl) ?_
  refine lv_if_lt (tgt := 22) hx hb dX9_entryRow_1 (by decide) (fun c_5 => ?_) (fun c_5 => ?_)
  · replace c_5 : which < 0 := c_5
    refine lv_aload_n hx hb dX9_entryRow_22 rfl (lv_at hl 0 rfl) ?_
    refine va_get (D := E.1) (ci := 10) (v := .ref hnoe) (C := RX9) (T := TX9) (N := 12) hx hb hts in_X9 hown hK hP 0 rfl rfl 9 (by decide) w_0 (fun _ h9 => h9) rfl dX9_entryRow_23 ?_
    have hP9 := hP.sub (ws' := [(hv, .inr (10, [.int 5, .ref huser, .ref howner, .ref htried, .ref hident, .ref htape, .int given, .ref hsecret, .ref qent, .ref hnoe, .int perm, .int plain])), (qent, .inl (E.2.2.1, 5, .inr (.inr (.inr (.inr (gEnt [he0, he1, he2, he3, he4]))))))]) [0, 1] rfl
    have hD9 := hD.sub (ws' := [(hv, .inr (10, [.int 5, .ref huser, .ref howner, .ref htried, .ref hident, .ref htape, .int given, .ref hsecret, .ref qent, .ref hnoe, .int perm, .int plain])), (qent, .inl (E.2.2.1, 5, .inr (.inr (.inr (.inr (gEnt [he0, he1, he2, he3, he4]))))))]) [0, 1] (by decide) rfl
    exact W.aret (v := .ref hnoe) hx hb hr (Or.inl ⟨_, rfl⟩) (Or.inr ⟨_, rfl⟩) (fun t ht hW => ⟨⟨(), _, rfl, trivial, rfl, by rw [ht]; exact hP9, hD9⟩, hS.F ht⟩) hS.2.2 dX9_entryRow_26
  · replace c_5 : ¬ (which < 0) := c_5
    refine lv_iload_n hx hb dX9_entryRow_4 rfl (lv_at hl 1 rfl) ?_
    refine lv_aload_n hx hb dX9_entryRow_5 rfl (lv_at hl 0 rfl) ?_
    refine va_get (D := E.1) (ci := 10) (v := .ref qent) (C := RX9) (T := TX9) (N := 12) hx hb hts in_X9 hown hK hP 0 rfl rfl 8 (by decide) w_1 (fun _ h9 => h9) rfl dX9_entryRow_6 ?_
    refine va_alen (v := 5) hx hb hK hP 1 1 rfl rfl rfl dX9_entryRow_9 ?_
    refine lv_icmp_ge (tgt := 22) hx hb dX9_entryRow_10 (by decide) (fun c_6 => ?_) (fun c_6 => (by exfalso; rcases hw with q8 | q8; exact absurd q8 c_5; exact absurd q8 c_6))
    replace c_6 : 5 ≤ which := c_6
    refine lv_aload_n hx hb dX9_entryRow_22 rfl (lv_at hl 0 rfl) ?_
    refine va_get (D := E.1) (ci := 10) (v := .ref hnoe) (C := RX9) (T := TX9) (N := 12) hx hb hts in_X9 hown hK hP 0 rfl rfl 9 (by decide) w_0 (fun _ h9 => h9) rfl dX9_entryRow_23 ?_
    have hP9 := hP.sub (ws' := [(hv, .inr (10, [.int 5, .ref huser, .ref howner, .ref htried, .ref hident, .ref htape, .int given, .ref hsecret, .ref qent, .ref hnoe, .int perm, .int plain])), (qent, .inl (E.2.2.1, 5, .inr (.inr (.inr (.inr (gEnt [he0, he1, he2, he3, he4]))))))]) [0, 1] rfl
    have hD9 := hD.sub (ws' := [(hv, .inr (10, [.int 5, .ref huser, .ref howner, .ref htried, .ref hident, .ref htape, .int given, .ref hsecret, .ref qent, .ref hnoe, .int perm, .int plain])), (qent, .inl (E.2.2.1, 5, .inr (.inr (.inr (.inr (gEnt [he0, he1, he2, he3, he4]))))))]) [0, 1] (by decide) rfl
    exact W.aret (v := .ref hnoe) hx hb hr (Or.inl ⟨_, rfl⟩) (Or.inr ⟨_, rfl⟩) (fun t ht hW => ⟨⟨(), _, rfl, trivial, rfl, by rw [ht]; exact hP9, hD9⟩, hS.F ht⟩) hS.2.2 dX9_entryRow_26
set_option maxHeartbeats 4000000 in
set_option maxRecDepth 100000 in
theorem k_X9_entryCount_l (E : gE) (l : Launch) (hv huser howner htried hident htape hsecret qent hnoe he0 he1 he2 he3 he4 : Nat) (given : Int32) (perm : Int32) (plain : Int32) : gMi E l yX9_entryCount wsX9_entryCount ({ frames := 0, cells := 0, slots := 0, locals := 0 }) 0 0 [.ref hv] [(hv, .inr (10, [.int 5, .ref huser, .ref howner, .ref htried, .ref hident, .ref htape, .int given, .ref hsecret, .ref qent, .ref hnoe, .int perm, .int plain])), (qent, .inl (E.2.2.1, 5, .inr (.inr (.inr (.inr (gEnt [he0, he1, he2, he3, he4]))))))] (fun (rr : Int32) (_ : Unit) => rr = F_X9_entryCount_l) (fun (_ : Unit) => [(hv, .inr (10, [.int 5, .ref huser, .ref howner, .ref htried, .ref hident, .ref htape, .int given, .ref hsecret, .ref qent, .ref hnoe, .int perm, .int plain])), (qent, .inl (E.2.2.1, 5, .inr (.inr (.inr (.inr (gEnt [he0, he1, he2, he3, he4]))))))]) := by
  intro sz
  refine Met.ofW (cc := cX9_entryCount) (maxL := 1) (ret := (some .int)) (by decide) rfl ?_
  intro p e s m args below meth c s₁ B hml hv
  obtain ⟨rfl, hsz, hP, hV, hD0⟩ := hv
  have hx := B.exec
  have hb := B.bytes
  have hr := B.returns
  have hts := atoms_spec (ws := wsX9_entryCount) B.pre
  have hown : s.vm.findClass RX9 = some m.cls := findClass_of_methodNamed B.named
  have hlocks := B.notSynchronized
  subst hsz
  have hD := hD0.self (sz := s.heap.size)
  clear hD0
  generalize hAe : va_A [(hv, .inr (10, [.int 5, .ref huser, .ref howner, .ref htried, .ref hident, .ref htape, .int given, .ref hsecret, .ref qent, .ref hnoe, .int perm, .int plain])), (qent, .inl (E.2.2.1, 5, .inr (.inr (.inr (.inr (gEnt [he0, he1, he2, he3, he4]))))))] s.heap.size = A at hD hV ⊢
  have hA : ∀ q : Nat, s.heap.size ≤ q → A q := fun q h => by rw [← hAe]; exact Or.inr h
  have hS : va_S A s.heap s.heap [] := va_S.rf
  have hK := hV.1
  have hF : CallFix p m c cX9_entryCount 1 s _ wsX9_entryCount RX9 := ⟨hx, hb, hml, hown, hts⟩
  have hl := lv_entry [.ref hv] (n := 1) (Nat.le_of_ble_eq_true rfl)
  rw [lg_entry_eq]
  generalize (lg_sl [.ref hv] ++ List.replicate (1 - (lg_sl [.ref hv]).length) Slot.unset).toArray = ls at hl ⊢
  have hl : lv_has ls 1 [(0, .ref hv)] := hl
  have in_X9 : ∀ w ∈ wsX90, w ∈ wsX9_entryCount := by decide +kernel
  have w_0 := hts (.fieldLink RX9 42 "CryptRows$Vault" "entries" "[LCryptRows$Row;") (by decide +kernel)
  refine lv_aload_n hx hb dX9_entryCount_0 rfl (lv_at hl 0 rfl) ?_
  refine va_get (D := E.1) (ci := 10) (v := .ref qent) (C := RX9) (T := TX9) (N := 12) hx hb hts in_X9 hown hK hP 0 rfl rfl 8 (by decide) w_0 (fun _ h9 => h9) rfl dX9_entryCount_1 ?_
  refine va_alen (v := 5) hx hb hK hP 1 1 rfl rfl rfl dX9_entryCount_4 ?_
  have hpost : (5 : Int32) = F_X9_entryCount_l := (show F_X9_entryCount_l = (5 : Int32) from rfl).symm
  have hP9 := hP.sub (ws' := [(hv, .inr (10, [.int 5, .ref huser, .ref howner, .ref htried, .ref hident, .ref htape, .int given, .ref hsecret, .ref qent, .ref hnoe, .int perm, .int plain])), (qent, .inl (E.2.2.1, 5, .inr (.inr (.inr (.inr (gEnt [he0, he1, he2, he3, he4]))))))]) [0, 1] rfl
  have hD9 := hD.sub (ws' := [(hv, .inr (10, [.int 5, .ref huser, .ref howner, .ref htried, .ref hident, .ref htape, .int given, .ref hsecret, .ref qent, .ref hnoe, .int perm, .int plain])), (qent, .inl (E.2.2.1, 5, .inr (.inr (.inr (.inr (gEnt [he0, he1, he2, he3, he4]))))))]) [0, 1] (by decide) rfl
  exact W.iret (v := 5) hx hb hr (fun t ht hW => ⟨⟨5, (), rfl, hpost, by rw [ht]; exact hP9, hD9⟩, hS.F ht⟩) hS.2.2 dX9_entryCount_5
set_option maxHeartbeats 4000000 in
set_option maxRecDepth 100000 in
theorem k_X9_tapeLeft_l (E : gE) (l : Launch) (hv huser howner htried hident htape hsecret qent hnoe atape : Nat) (given : Int32) (perm : Int32) (plain : Int32) (Xtape : gRow) : gMi E l yX9_tapeLeft wsX9_tapeLeft ({ frames := 1, cells := 0, slots := 0, locals := 20 }) 0 0 [.ref hv] [(hv, .inr (10, [.int 5, .ref huser, .ref howner, .ref htried, .ref hident, .ref htape, .int given, .ref hsecret, .ref qent, .ref hnoe, .int perm, .int plain])), (htape, .inr (6, [.ref atape, .int Xtape.1]))] (fun (rr : Int32) (_ : Unit) => rr = F_X9_tapeLeft_l given Xtape) (fun (_ : Unit) => [(hv, .inr (10, [.int 5, .ref huser, .ref howner, .ref htried, .ref hident, .ref htape, .int given, .ref hsecret, .ref qent, .ref hnoe, .int perm, .int plain])), (htape, .inr (6, [.ref atape, .int Xtape.1]))]) := by
  intro sz
  refine Met.ofW (cc := cX9_tapeLeft) (maxL := 1) (ret := (some .int)) (by decide) rfl ?_
  intro p e s m args below meth c s₁ B hml hv
  obtain ⟨rfl, hsz, hP, hV, hD0⟩ := hv
  have hx := B.exec
  have hb := B.bytes
  have hr := B.returns
  have hts := atoms_spec (ws := wsX9_tapeLeft) B.pre
  have hown : s.vm.findClass RX9 = some m.cls := findClass_of_methodNamed B.named
  have hlocks := B.notSynchronized
  subst hsz
  have hD := hD0.self (sz := s.heap.size)
  clear hD0
  generalize hAe : va_A [(hv, .inr (10, [.int 5, .ref huser, .ref howner, .ref htried, .ref hident, .ref htape, .int given, .ref hsecret, .ref qent, .ref hnoe, .int perm, .int plain])), (htape, .inr (6, [.ref atape, .int Xtape.1]))] s.heap.size = A at hD hV ⊢
  have hA : ∀ q : Nat, s.heap.size ≤ q → A q := fun q h => by rw [← hAe]; exact Or.inr h
  have hS : va_S A s.heap s.heap [] := va_S.rf
  have hK := hV.1
  have hF : CallFix p m c cX9_tapeLeft 1 s _ wsX9_tapeLeft RX9 := ⟨hx, hb, hml, hown, hts⟩
  have hl := lv_entry [.ref hv] (n := 1) (Nat.le_of_ble_eq_true rfl)
  rw [lg_entry_eq]
  generalize (lg_sl [.ref hv] ++ List.replicate (1 - (lg_sl [.ref hv]).length) Slot.unset).toArray = ls at hl ⊢
  have hl : lv_has ls 1 [(0, .ref hv)] := hl
  have in_X9 : ∀ w ∈ wsX90, w ∈ wsX9_tapeLeft := by decide +kernel
  have w_0 := hts (.fieldLink RX9 29 "CryptRows$Vault" "tape" "LCryptRows$Row;") (by decide +kernel)
  have w_1 := hts (.fieldLink RX9 54 "CryptRows$Vault" "tapeGiven" "I") (by decide +kernel)
  refine lv_aload_n hx hb dX9_tapeLeft_0 rfl (lv_at hl 0 rfl) ?_
  refine va_get (D := E.1) (ci := 10) (v := .ref htape) (C := RX9) (T := TX9) (N := 12) hx hb hts in_X9 hown hK hP 0 rfl rfl 5 (by decide) w_0 (fun _ h9 => h9) rfl dX9_tapeLeft_1 ?_
  refine gVi hF hl hV hP hD hS hA [1] [0] (wc := [(htape, .inr (6, [.ref atape, .int Xtape.1]))]) (wr := [(hv, .inr (10, [.int 5, .ref huser, .ref howner, .ref htried, .ref hident, .ref htape, .int given, .ref hsecret, .ref qent, .ref hnoe, .int perm, .int plain]))]) rfl rfl rfl (by decide) 0 6 rfl rfl rfl (k_X5_count E l htape atape Xtape) (cwV 0 hts gX9_tapeLeft_X5_count rfl rfl rfl (by decide +kernel) ⟨Nat.le_of_ble_eq_true rfl, Nat.le_of_ble_eq_true rfl⟩) rfl rfl rfl (Nat.le_of_ble_eq_true rfl) dX9_tapeLeft_4 ⟨Nat.le_of_ble_eq_true rfl, Nat.le_of_ble_eq_true rfl⟩ (fun r_5 _ H_6 locs_6 hu_5 hP_6 hD_6 hS_6 => ?_)
  have er_5 : r_5 = F_X5_count Xtape := hu_5
  clear hu_5
  replace hP_6 : va_P E.1 vwCl [(hv, .inr (10, [.int 5, .ref huser, .ref howner, .ref htried, .ref hident, .ref htape, .int given, .ref hsecret, .ref qent, .ref hnoe, .int perm, .int plain])), (htape, .inr (6, [.ref atape, .int Xtape.1]))] H_6 := hP_6
  replace hD_6 : va_D A [(hv, .inr (10, [.int 5, .ref huser, .ref howner, .ref htried, .ref hident, .ref htape, .int given, .ref hsecret, .ref qent, .ref hnoe, .int perm, .int plain])), (htape, .inr (6, [.ref atape, .int Xtape.1]))] := hD_6
  clear hP hD hS
  refine lv_aload_n hx hb dX9_tapeLeft_7 rfl (lv_at hl 0 rfl) ?_
  refine va_get (D := E.1) (ci := 10) (v := .int given) (C := RX9) (T := TX9) (N := 12) hx hb hts in_X9 hown hK hP_6 0 rfl rfl 6 (by decide) w_1 (fun _ h9 => h9) rfl dX9_tapeLeft_8 ?_
  refine lv_isub hx hb dX9_tapeLeft_11 ?_
  have hpost : ((r_5 - given) : Int32) = F_X9_tapeLeft_l given Xtape := (show F_X9_tapeLeft_l given Xtape = ((r_5 - given) : Int32) from (gLet_eq er_5 rfl)).symm
  have hP9 := hP_6.sub (ws' := [(hv, .inr (10, [.int 5, .ref huser, .ref howner, .ref htried, .ref hident, .ref htape, .int given, .ref hsecret, .ref qent, .ref hnoe, .int perm, .int plain])), (htape, .inr (6, [.ref atape, .int Xtape.1]))]) [0, 1] rfl
  have hD9 := hD_6.sub (ws' := [(hv, .inr (10, [.int 5, .ref huser, .ref howner, .ref htried, .ref hident, .ref htape, .int given, .ref hsecret, .ref qent, .ref hnoe, .int perm, .int plain])), (htape, .inr (6, [.ref atape, .int Xtape.1]))]) [0, 1] (by decide) rfl
  exact W.iret (v := (r_5 - given)) hx hb hr (fun t ht hW => ⟨⟨(r_5 - given), (), rfl, hpost, by rw [ht]; exact hP9, hD9⟩, hS_6.F ht⟩) hS_6.2.2 dX9_tapeLeft_12
set_option maxHeartbeats 4000000 in
set_option maxRecDepth 100000 in
theorem k_X9_giveTape_l (E : gE) (l : Launch) (hv h2 huser howner htried hident htape hsecret qent hnoe atape a2 : Nat) (n2 : Nat) (given : Int32) (perm : Int32) (plain : Int32) (Xtape : gRow) (q : gRow) (bytes : Int32) (hn2 : n2 < 2147483648) : gMv E l yX9_giveTape wsX9_giveTape ({ frames := 2, cells := 0, slots := 0, locals := 45 }) 0 0 [.ref hv, .int bytes, .ref h2] [(hv, .inr (10, [.int 5, .ref huser, .ref howner, .ref htried, .ref hident, .ref htape, .int given, .ref hsecret, .ref qent, .ref hnoe, .int perm, .int plain])), (htape, .inr (6, [.ref atape, .int Xtape.1])), (atape, .inl (E.2.1, 400, .inl Xtape.2)), (h2, .inr (6, [.ref a2, .int q.1])), (a2, .inl (E.2.1, n2, .inl q.2))] (fun (uu : Int32 × gRow) => uu = F_X9_giveTape_l n2 given Xtape q bytes) (fun (uu : Int32 × gRow) => [(hv, .inr (10, [.int 5, .ref huser, .ref howner, .ref htried, .ref hident, .ref htape, .int uu.1, .ref hsecret, .ref qent, .ref hnoe, .int perm, .int plain])), (htape, .inr (6, [.ref atape, .int Xtape.1])), (atape, .inl (E.2.1, 400, .inl Xtape.2)), (h2, .inr (6, [.ref a2, .int uu.2.1])), (a2, .inl (E.2.1, n2, .inl uu.2.2))]) := by
  intro sz
  refine Met.ofW (cc := cX9_giveTape) (maxL := 4) (ret := none) (by decide) rfl ?_
  intro p e s m args below meth c s₁ B hml hv
  obtain ⟨rfl, hsz, hP, hV, hD0⟩ := hv
  have hx := B.exec
  have hb := B.bytes
  have hr := B.returns
  have hts := atoms_spec (ws := wsX9_giveTape) B.pre
  have hown : s.vm.findClass RX9 = some m.cls := findClass_of_methodNamed B.named
  have hlocks := B.notSynchronized
  subst hsz
  have hD := hD0.self (sz := s.heap.size)
  clear hD0
  generalize hAe : va_A [(hv, .inr (10, [.int 5, .ref huser, .ref howner, .ref htried, .ref hident, .ref htape, .int given, .ref hsecret, .ref qent, .ref hnoe, .int perm, .int plain])), (htape, .inr (6, [.ref atape, .int Xtape.1])), (atape, .inl (E.2.1, 400, .inl Xtape.2)), (h2, .inr (6, [.ref a2, .int q.1])), (a2, .inl (E.2.1, n2, .inl q.2))] s.heap.size = A at hD hV ⊢
  have hA : ∀ q : Nat, s.heap.size ≤ q → A q := fun q h => by rw [← hAe]; exact Or.inr h
  have hS : va_S A s.heap s.heap [] := va_S.rf
  have hK := hV.1
  have hF : CallFix p m c cX9_giveTape 4 s _ wsX9_giveTape RX9 := ⟨hx, hb, hml, hown, hts⟩
  have hl := lv_entry [.ref hv, .int bytes, .ref h2] (n := 4) (Nat.le_of_ble_eq_true rfl)
  rw [lg_entry_eq]
  generalize (lg_sl [.ref hv, .int bytes, .ref h2] ++ List.replicate (4 - (lg_sl [.ref hv, .int bytes, .ref h2]).length) Slot.unset).toArray = ls at hl ⊢
  have hl : lv_has ls 4 [(0, .ref hv), (1, .int bytes), (2, .ref h2)] := hl
  have in_X9 : ∀ w ∈ wsX90, w ∈ wsX9_giveTape := by decide +kernel
  have w_0 := hts (.methodLink RX9 60 Lib.Math.min.name) (by decide +kernel)
  have w_1 := hts (.static Lib.Math.min.name) (by decide +kernel)
  have w_2 := hts (.initialized "java/lang/Math") (by decide +kernel)
  have w_3 := hts (.code Lib.Math.min.name Lib.Math.min.code 2 (some .int)) (by decide +kernel)
  have w_4 := hts (.fieldLink RX9 29 "CryptRows$Vault" "tape" "LCryptRows$Row;") (by decide +kernel)
  have w_5 := hts (.fieldLink RX9 54 "CryptRows$Vault" "tapeGiven" "I") (by decide +kernel)
  refine lv_iload_n hx hb dX9_giveTape_0 rfl (lv_at hl 1 rfl) ?_
  refine lv_aload_n hx hb dX9_giveTape_1 rfl (lv_at hl 0 rfl) ?_
  refine gVi hF hl hV hP hD hS hA [0, 1] [2, 3, 4] (wc := [(hv, .inr (10, [.int 5, .ref huser, .ref howner, .ref htried, .ref hident, .ref htape, .int given, .ref hsecret, .ref qent, .ref hnoe, .int perm, .int plain])), (htape, .inr (6, [.ref atape, .int Xtape.1]))]) (wr := [(atape, .inl (E.2.1, 400, .inl Xtape.2)), (h2, .inr (6, [.ref a2, .int q.1])), (a2, .inl (E.2.1, n2, .inl q.2))]) rfl rfl rfl (by decide) 0 10 rfl rfl rfl (k_X9_tapeLeft_l E l hv huser howner htried hident htape hsecret qent hnoe atape given perm plain Xtape) (cwV 0 hts gX9_giveTape_X9_tapeLeft rfl rfl rfl (by decide +kernel) ⟨Nat.le_of_ble_eq_true rfl, Nat.le_of_ble_eq_true rfl⟩) rfl rfl rfl (Nat.le_of_ble_eq_true rfl) dX9_giveTape_2 ⟨Nat.le_of_ble_eq_true rfl, Nat.le_of_ble_eq_true rfl⟩ (fun r_15 _ H_16 locs_16 hu_15 hP_16 hD_16 hS_16 => ?_)
  have er_15 : r_15 = F_X9_tapeLeft_l given Xtape := hu_15
  clear hu_15
  replace hP_16 : va_P E.1 vwCl [(atape, .inl (E.2.1, 400, .inl Xtape.2)), (h2, .inr (6, [.ref a2, .int q.1])), (a2, .inl (E.2.1, n2, .inl q.2)), (hv, .inr (10, [.int 5, .ref huser, .ref howner, .ref htried, .ref hident, .ref htape, .int given, .ref hsecret, .ref qent, .ref hnoe, .int perm, .int plain])), (htape, .inr (6, [.ref atape, .int Xtape.1]))] H_16 := hP_16
  replace hD_16 : va_D A [(atape, .inl (E.2.1, 400, .inl Xtape.2)), (h2, .inr (6, [.ref a2, .int q.1])), (a2, .inl (E.2.1, n2, .inl q.2)), (hv, .inr (10, [.int 5, .ref huser, .ref howner, .ref htried, .ref hident, .ref htape, .int given, .ref hsecret, .ref qent, .ref hnoe, .int perm, .int plain])), (htape, .inr (6, [.ref atape, .int Xtape.1]))] := hD_16
  clear hP hD hS
  refine va_mmin hx hb (hml.trans hl.1.symm) hown w_0 w_1 w_2 w_3 (by decide) (Nat.le_of_ble_eq_true rfl) (by omega) (by omega) dX9_giveTape_5 ?_
  refine lv_topi (fun v_17 ev_17 => ?_)
  refine lv_istore_n (lv' := [(3, .int v_17), (0, .ref hv), (1, .int bytes), (2, .ref h2)]) hx hb dX9_giveTape_8 rfl hl (by decide) rfl (fun ls_18 hl_18 => ?_)
  clear hl
  refine lv_aload_n hx hb dX9_giveTape_9 rfl (lv_at hl_18 3 rfl) ?_
  refine lv_aload_n hx hb dX9_giveTape_10 rfl (lv_at hl_18 1 rfl) ?_
  refine va_get (D := E.1) (ci := 10) (v := .ref htape) (C := RX9) (T := TX9) (N := 12) hx hb hts in_X9 hown hK hP_16 3 rfl rfl 5 (by decide) w_4 (fun _ h9 => h9) rfl dX9_giveTape_11 ?_
  refine lv_aload_n hx hb dX9_giveTape_14 rfl (lv_at hl_18 1 rfl) ?_
  refine va_get (D := E.1) (ci := 10) (v := .int given) (C := RX9) (T := TX9) (N := 12) hx hb hts in_X9 hown hK hP_16 3 rfl rfl 6 (by decide) w_5 (fun _ h9 => h9) rfl dX9_giveTape_15 ?_
  refine lv_iload_n hx hb dX9_giveTape_18 rfl (lv_at hl_18 0 rfl) ?_
  refine gVv hF hl_18 hV hP_16 hD_16 hS_16 hA [1, 2, 4, 0] [3] (wc := [(h2, .inr (6, [.ref a2, .int q.1])), (a2, .inl (E.2.1, n2, .inl q.2)), (htape, .inr (6, [.ref atape, .int Xtape.1])), (atape, .inl (E.2.1, 400, .inl Xtape.2))]) (wr := [(hv, .inr (10, [.int 5, .ref huser, .ref howner, .ref htried, .ref hident, .ref htape, .int given, .ref hsecret, .ref qent, .ref hnoe, .int perm, .int plain]))]) rfl rfl rfl (by decide) 0 6 rfl rfl rfl (k_X5_addPart E l h2 htape a2 atape n2 400 q Xtape given v_17 (by omega) (by omega)) (cwV 3 hts gX9_giveTape_X5_addPart rfl rfl rfl (by decide +kernel) ⟨Nat.le_of_ble_eq_true rfl, Nat.le_of_ble_eq_true rfl⟩) rfl rfl rfl (Nat.le_of_ble_eq_true rfl) dX9_giveTape_19 ⟨Nat.le_of_ble_eq_true rfl, Nat.le_of_ble_eq_true rfl⟩ (fun u_19 H_20 locs_20 hu_19 hP_20 hD_20 hS_20 => ?_)
  replace hu_19 : u_19 = F_X5_addPart n2 400 q Xtape given v_17 := hu_19
  replace hP_20 : va_P E.1 vwCl [(hv, .inr (10, [.int 5, .ref huser, .ref howner, .ref htried, .ref hident, .ref htape, .int given, .ref hsecret, .ref qent, .ref hnoe, .int perm, .int plain])), (h2, .inr (6, [.ref a2, .int u_19.1])), (a2, .inl (E.2.1, n2, .inl u_19.2)), (htape, .inr (6, [.ref atape, .int Xtape.1])), (atape, .inl (E.2.1, 400, .inl Xtape.2))] H_20 := hP_20
  replace hD_20 : va_D A [(hv, .inr (10, [.int 5, .ref huser, .ref howner, .ref htried, .ref hident, .ref htape, .int given, .ref hsecret, .ref qent, .ref hnoe, .int perm, .int plain])), (h2, .inr (6, [.ref a2, .int u_19.1])), (a2, .inl (E.2.1, n2, .inl u_19.2)), (htape, .inr (6, [.ref atape, .int Xtape.1])), (atape, .inl (E.2.1, 400, .inl Xtape.2))] := hD_20
  clear hP_16 hD_16 hS_16
  refine lv_aload_n hx hb dX9_giveTape_22 rfl (lv_at hl_18 1 rfl) ?_
  refine lv_dup hx hb dX9_giveTape_23 rfl ?_
  refine va_get (D := E.1) (ci := 10) (v := .int given) (C := RX9) (T := TX9) (N := 12) hx hb hts in_X9 hown hK hP_20 0 rfl rfl 6 (by decide) w_5 (fun _ h9 => h9) rfl dX9_giveTape_24 ?_
  refine lv_iload_n hx hb dX9_giveTape_27 rfl (lv_at hl_18 0 rfl) ?_
  refine lv_iadd hx hb dX9_giveTape_28 ?_
  refine va_put (D := E.1) (ci := 10) (v := .int (given + v_17)) (ty := .int) (C := RX9) (T := TX9) (N := 12) hx hb hts in_X9 tyX9 tyX9_ok nmX9 hown hK hP_20 hD_20 hS_20 0 rfl rfl 6 (by decide) w_5 (fun _ h9 => h9) rfl (by decide +kernel) rfl rfl (Nat.le_of_ble_eq_true rfl) dX9_giveTape_29 (fun H_21 locs_21 hP_21 hD_21 hS_21 => ?_)
  replace hP_21 : va_P E.1 vwCl [(hv, .inr (10, [.int 5, .ref huser, .ref howner, .ref htried, .ref hident, .ref htape, .int (given + v_17), .ref hsecret, .ref qent, .ref hnoe, .int perm, .int plain])), (h2, .inr (6, [.ref a2, .int u_19.1])), (a2, .inl (E.2.1, n2, .inl u_19.2)), (htape, .inr (6, [.ref atape, .int Xtape.1])), (atape, .inl (E.2.1, 400, .inl Xtape.2))] H_21 := hP_21
  replace hD_21 : va_D A [(hv, .inr (10, [.int 5, .ref huser, .ref howner, .ref htried, .ref hident, .ref htape, .int (given + v_17), .ref hsecret, .ref qent, .ref hnoe, .int perm, .int plain])), (h2, .inr (6, [.ref a2, .int u_19.1])), (a2, .inl (E.2.1, n2, .inl u_19.2)), (htape, .inr (6, [.ref atape, .int Xtape.1])), (atape, .inl (E.2.1, 400, .inl Xtape.2))] := hD_21
  clear hP_20 hD_20 hS_20
  have hpost : (((given + v_17), u_19) : Int32 × gRow) = F_X9_giveTape_l n2 given Xtape q bytes := (show F_X9_giveTape_l n2 given Xtape q bytes = (((given + v_17), u_19) : Int32 × gRow) from (gLet_eq er_15 (gLet_eq ev_17 (gLet_eq hu_19 rfl)))).symm
  have hP9 := hP_21.sub (ws' := [(hv, .inr (10, [.int 5, .ref huser, .ref howner, .ref htried, .ref hident, .ref htape, .int (given + v_17), .ref hsecret, .ref qent, .ref hnoe, .int perm, .int plain])), (htape, .inr (6, [.ref atape, .int Xtape.1])), (atape, .inl (E.2.1, 400, .inl Xtape.2)), (h2, .inr (6, [.ref a2, .int u_19.1])), (a2, .inl (E.2.1, n2, .inl u_19.2))]) [0, 3, 4, 1, 2] rfl
  have hD9 := hD_21.sub (ws' := [(hv, .inr (10, [.int 5, .ref huser, .ref howner, .ref htried, .ref hident, .ref htape, .int (given + v_17), .ref hsecret, .ref qent, .ref hnoe, .int perm, .int plain])), (htape, .inr (6, [.ref atape, .int Xtape.1])), (atape, .inl (E.2.1, 400, .inl Xtape.2)), (h2, .inr (6, [.ref a2, .int u_19.1])), (a2, .inl (E.2.1, n2, .inl u_19.2))]) [0, 3, 4, 1, 2] (by decide) rfl
  exact W.vret hx hb hr (fun t ht hW => ⟨⟨((given + v_17), u_19), rfl, hpost, by rw [ht]; exact hP9, hD9⟩, hS_21.F ht⟩) hS_21.2.2 dX9_giveTape_32
set_option maxHeartbeats 4000000 in
set_option maxRecDepth 100000 in
theorem k_X9_keyBytes_l (E : gE) (l : Launch) (hv huser howner htried hident htape hsecret qent hnoe : Nat) (given : Int32) (perm : Int32) (plain : Int32) : gMi E l yX9_keyBytes wsX9_keyBytes ({ frames := 0, cells := 0, slots := 0, locals := 0 }) 0 0 [.ref hv] [(hv, .inr (10, [.int 5, .ref huser, .ref howner, .ref htried, .ref hident, .ref htape, .int given, .ref hsecret, .ref qent, .ref hnoe, .int perm, .int plain]))] (fun (rr : Int32) (_ : Unit) => rr = F_X9_keyBytes_l) (fun (_ : Unit) => [(hv, .inr (10, [.int 5, .ref huser, .ref howner, .ref htried, .ref hident, .ref htape, .int given, .ref hsecret, .ref qent, .ref hnoe, .int perm, .int plain]))]) := by
  intro sz
  refine Met.ofW (cc := cX9_keyBytes) (maxL := 1) (ret := (some .int)) (by decide) rfl ?_
  intro p e s m args below meth c s₁ B hml hv
  obtain ⟨rfl, hsz, hP, hV, hD0⟩ := hv
  have hx := B.exec
  have hb := B.bytes
  have hr := B.returns
  have hts := atoms_spec (ws := wsX9_keyBytes) B.pre
  have hown : s.vm.findClass RX9 = some m.cls := findClass_of_methodNamed B.named
  have hlocks := B.notSynchronized
  subst hsz
  have hD := hD0.self (sz := s.heap.size)
  clear hD0
  generalize hAe : va_A [(hv, .inr (10, [.int 5, .ref huser, .ref howner, .ref htried, .ref hident, .ref htape, .int given, .ref hsecret, .ref qent, .ref hnoe, .int perm, .int plain]))] s.heap.size = A at hD hV ⊢
  have hA : ∀ q : Nat, s.heap.size ≤ q → A q := fun q h => by rw [← hAe]; exact Or.inr h
  have hS : va_S A s.heap s.heap [] := va_S.rf
  have hK := hV.1
  have hF : CallFix p m c cX9_keyBytes 1 s _ wsX9_keyBytes RX9 := ⟨hx, hb, hml, hown, hts⟩
  have hl := lv_entry [.ref hv] (n := 1) (Nat.le_of_ble_eq_true rfl)
  rw [lg_entry_eq]
  generalize (lg_sl [.ref hv] ++ List.replicate (1 - (lg_sl [.ref hv]).length) Slot.unset).toArray = ls at hl ⊢
  have hl : lv_has ls 1 [(0, .ref hv)] := hl
  have in_X9 : ∀ w ∈ wsX90, w ∈ wsX9_keyBytes := by decide +kernel
  have w_0 := hts (.fieldLink RX9 38 "CryptRows$Vault" "revision" "I") (by decide +kernel)
  refine lv_aload_n hx hb dX9_keyBytes_0 rfl (lv_at hl 0 rfl) ?_
  refine va_get (D := E.1) (ci := 10) (v := .int 5) (C := RX9) (T := TX9) (N := 12) hx hb hts in_X9 hown hK hP 0 rfl rfl 0 (by decide) w_0 (fun _ h9 => h9) rfl dX9_keyBytes_1 ?_
  refine lv_iconst (v := 2) hx hb dX9_keyBytes_4 (by decide) ?_
  refine lv_icmp_ne (tgt := 12) hx hb dX9_keyBytes_5 (by decide) (fun c_5 => ?_) (fun c_5 => absurd c_5 (by decide))
  refine lv_aload_n hx hb dX9_keyBytes_12 rfl (lv_at hl 0 rfl) ?_
  refine va_get (D := E.1) (ci := 10) (v := .int 5) (C := RX9) (T := TX9) (N := 12) hx hb hts in_X9 hown hK hP 0 rfl rfl 0 (by decide) w_0 (fun _ h9 => h9) rfl dX9_keyBytes_13 ?_
  refine lv_iconst (v := 5) hx hb dX9_keyBytes_16 (by decide) ?_
  refine lv_icmp_ne (tgt := 25) hx hb dX9_keyBytes_17 (by decide) (fun c_6 => absurd (by decide) c_6) (fun c_6 => ?_)
  refine lv_bipush (v := 32) hx hb dX9_keyBytes_20 (by decide) ?_
  refine lv_goto (tgt := 27) hx hb dX9_keyBytes_22 (by decide) ?_
  have hpost : (32 : Int32) = F_X9_keyBytes_l := (show F_X9_keyBytes_l = (32 : Int32) from rfl).symm
  have hP9 := hP.sub (ws' := [(hv, .inr (10, [.int 5, .ref huser, .ref howner, .ref htried, .ref hident, .ref htape, .int given, .ref hsecret, .ref qent, .ref hnoe, .int perm, .int plain]))]) [0] rfl
  have hD9 := hD.sub (ws' := [(hv, .inr (10, [.int 5, .ref huser, .ref howner, .ref htried, .ref hident, .ref htape, .int given, .ref hsecret, .ref qent, .ref hnoe, .int perm, .int plain]))]) [0] (by decide) rfl
  exact W.iret (v := 32) hx hb hr (fun t ht hW => ⟨⟨32, (), rfl, hpost, by rw [ht]; exact hP9, hD9⟩, hS.F ht⟩) hS.2.2 dX9_keyBytes_27
set_option maxHeartbeats 4000000 in
set_option maxRecDepth 100000 in
theorem k_X9_isMade_l (E : gE) (l : Launch) (hv huser howner htried hident htape hsecret qent hnoe he0 he1 he2 he3 he4 ae0 : Nat) (given : Int32) (perm : Int32) (plain : Int32) (Xe0 : gRow) : gMi E l yX9_isMade wsX9_isMade ({ frames := 1, cells := 0, slots := 0, locals := 21 }) 0 0 [.ref hv] [(hv, .inr (10, [.int 5, .ref huser, .ref howner, .ref htried, .ref hident, .ref htape, .int given, .ref hsecret, .ref qent, .ref hnoe, .int perm, .int plain])), (qent, .inl (E.2.2.1, 5, .inr (.inr (.inr (.inr (gEnt [he0, he1, he2, he3, he4])))))), (he0, .inr (6, [.ref ae0, .int Xe0.1]))] (fun (rr : Int32) (_ : Unit) => rr = F_X9_isMade_l Xe0) (fun (_ : Unit) => [(hv, .inr (10, [.int 5, .ref huser, .ref howner, .ref htried, .ref hident, .ref htape, .int given, .ref hsecret, .ref qent, .ref hnoe, .int perm, .int plain])), (qent, .inl (E.2.2.1, 5, .inr (.inr (.inr (.inr (gEnt [he0, he1, he2, he3, he4])))))), (he0, .inr (6, [.ref ae0, .int Xe0.1]))]) := by
  intro sz
  refine Met.ofW (cc := cX9_isMade) (maxL := 1) (ret := (some .boolean)) (by decide) rfl ?_
  intro p e s m args below meth c s₁ B hml hv
  obtain ⟨rfl, hsz, hP, hV, hD0⟩ := hv
  have hx := B.exec
  have hb := B.bytes
  have hr := B.returns
  have hts := atoms_spec (ws := wsX9_isMade) B.pre
  have hown : s.vm.findClass RX9 = some m.cls := findClass_of_methodNamed B.named
  have hlocks := B.notSynchronized
  subst hsz
  have hD := hD0.self (sz := s.heap.size)
  clear hD0
  generalize hAe : va_A [(hv, .inr (10, [.int 5, .ref huser, .ref howner, .ref htried, .ref hident, .ref htape, .int given, .ref hsecret, .ref qent, .ref hnoe, .int perm, .int plain])), (qent, .inl (E.2.2.1, 5, .inr (.inr (.inr (.inr (gEnt [he0, he1, he2, he3, he4])))))), (he0, .inr (6, [.ref ae0, .int Xe0.1]))] s.heap.size = A at hD hV ⊢
  have hA : ∀ q : Nat, s.heap.size ≤ q → A q := fun q h => by rw [← hAe]; exact Or.inr h
  have hS : va_S A s.heap s.heap [] := va_S.rf
  have hK := hV.1
  have hF : CallFix p m c cX9_isMade 1 s _ wsX9_isMade RX9 := ⟨hx, hb, hml, hown, hts⟩
  have hl := lv_entry [.ref hv] (n := 1) (Nat.le_of_ble_eq_true rfl)
  rw [lg_entry_eq]
  generalize (lg_sl [.ref hv] ++ List.replicate (1 - (lg_sl [.ref hv]).length) Slot.unset).toArray = ls at hl ⊢
  have hl : lv_has ls 1 [(0, .ref hv)] := hl
  refine lv_aload_n hx hb dX9_isMade_0 rfl (lv_at hl 0 rfl) ?_
  refine lv_iconst (v := 0) hx hb dX9_isMade_1 (by decide) ?_
  refine gVr hF hl hV hP hD hS hA [0, 1] [2] (wc := [(hv, .inr (10, [.int 5, .ref huser, .ref howner, .ref htried, .ref hident, .ref htape, .int given, .ref hsecret, .ref qent, .ref hnoe, .int perm, .int plain])), (qent, .inl (E.2.2.1, 5, .inr (.inr (.inr (.inr (gEnt [he0, he1, he2, he3, he4]))))))]) (wr := [(he0, .inr (6, [.ref ae0, .int Xe0.1]))]) rfl rfl rfl (by decide) 0 10 rfl rfl rfl (k_X9_entryRow_l0 E l hv huser howner htried hident htape hsecret qent hnoe he0 he1 he2 he3 he4 given perm plain) (cwV 1 hts gX9_isMade_X9_entryRow rfl rfl rfl (by decide +kernel) ⟨Nat.le_of_ble_eq_true rfl, Nat.le_of_ble_eq_true rfl⟩) rfl rfl rfl (Nat.le_of_ble_eq_true rfl) dX9_isMade_2 ⟨Nat.le_of_ble_eq_true rfl, Nat.le_of_ble_eq_true rfl⟩ (fun _ H_12 locs_12 hu_11 hP_12 hD_12 hS_12 => ?_)
  clear hu_11
  replace hP_12 : va_P E.1 vwCl [(he0, .inr (6, [.ref ae0, .int Xe0.1])), (hv, .inr (10, [.int 5, .ref huser, .ref howner, .ref htried, .ref hident, .ref htape, .int given, .ref hsecret, .ref qent, .ref hnoe, .int perm, .int plain])), (qent, .inl (E.2.2.1, 5, .inr (.inr (.inr (.inr (gEnt [he0, he1, he2, he3, he4]))))))] H_12 := hP_12
  replace hD_12 : va_D A [(he0, .inr (6, [.ref ae0, .int Xe0.1])), (hv, .inr (10, [.int 5, .ref huser, .ref howner, .ref htried, .ref hident, .ref htape, .int given, .ref hsecret, .ref qent, .ref hnoe, .int perm, .int plain])), (qent, .inl (E.2.2.1, 5, .inr (.inr (.inr (.inr (gEnt [he0, he1, he2, he3, he4]))))))] := hD_12
  clear hP hD hS
  refine gVi hF hl hV hP_12 hD_12 hS_12 hA [0] [1, 2] (wc := [(he0, .inr (6, [.ref ae0, .int Xe0.1]))]) (wr := [(hv, .inr (10, [.int 5, .ref huser, .ref howner, .ref htried, .ref hident, .ref htape, .int given, .ref hsecret, .ref qent, .ref hnoe, .int perm, .int plain])), (qent, .inl (E.2.2.1, 5, .inr (.inr (.inr (.inr (gEnt [he0, he1, he2, he3, he4]))))))]) rfl rfl rfl (by decide) 0 6 rfl rfl rfl (k_X5_count E l he0 ae0 Xe0) (cwV 0 hts gX9_isMade_X5_count rfl rfl rfl (by decide +kernel) ⟨Nat.le_of_ble_eq_true rfl, Nat.le_of_ble_eq_true rfl⟩) rfl rfl rfl (Nat.le_of_ble_eq_true rfl) dX9_isMade_5 ⟨Nat.le_of_ble_eq_true rfl, Nat.le_of_ble_eq_true rfl⟩ (fun r_13 _ H_14 locs_14 hu_13 hP_14 hD_14 hS_14 => ?_)
  have er_13 : r_13 = F_X5_count Xe0 := hu_13
  clear hu_13
  replace hP_14 : va_P E.1 vwCl [(hv, .inr (10, [.int 5, .ref huser, .ref howner, .ref htried, .ref hident, .ref htape, .int given, .ref hsecret, .ref qent, .ref hnoe, .int perm, .int plain])), (qent, .inl (E.2.2.1, 5, .inr (.inr (.inr (.inr (gEnt [he0, he1, he2, he3, he4])))))), (he0, .inr (6, [.ref ae0, .int Xe0.1]))] H_14 := hP_14
  replace hD_14 : va_D A [(hv, .inr (10, [.int 5, .ref huser, .ref howner, .ref htried, .ref hident, .ref htape, .int given, .ref hsecret, .ref qent, .ref hnoe, .int perm, .int plain])), (qent, .inl (E.2.2.1, 5, .inr (.inr (.inr (.inr (gEnt [he0, he1, he2, he3, he4])))))), (he0, .inr (6, [.ref ae0, .int Xe0.1]))] := hD_14
  clear hP_12 hD_12 hS_12
  refine lv_if_le (tgt := 15) hx hb dX9_isMade_8 (by decide) (fun c_15 => ?_) (fun c_15 => ?_)
  · replace c_15 : r_13 ≤ 0 := c_15
    refine lv_iconst (v := 0) hx hb dX9_isMade_15 (by decide) ?_
    have hpost : (0 : Int32) = F_X9_isMade_l Xe0 := (show F_X9_isMade_l Xe0 = (0 : Int32) from (gLet_eq er_13 ((if_pos c_15).trans rfl))).symm
    have hP9 := hP_14.sub (ws' := [(hv, .inr (10, [.int 5, .ref huser, .ref howner, .ref htried, .ref hident, .ref htape, .int given, .ref hsecret, .ref qent, .ref hnoe, .int perm, .int plain])), (qent, .inl (E.2.2.1, 5, .inr (.inr (.inr (.inr (gEnt [he0, he1, he2, he3, he4])))))), (he0, .inr (6, [.ref ae0, .int Xe0.1]))]) [0, 1, 2] rfl
    have hD9 := hD_14.sub (ws' := [(hv, .inr (10, [.int 5, .ref huser, .ref howner, .ref htried, .ref hident, .ref htape, .int given, .ref hsecret, .ref qent, .ref hnoe, .int perm, .int plain])), (qent, .inl (E.2.2.1, 5, .inr (.inr (.inr (.inr (gEnt [he0, he1, he2, he3, he4])))))), (he0, .inr (6, [.ref ae0, .int Xe0.1]))]) [0, 1, 2] (by decide) rfl
    exact W.zret (v := 0) hx hb hr rfl (fun t ht hW => ⟨⟨0, (), rfl, hpost, by rw [ht]; exact hP9, hD9⟩, hS_14.F ht⟩) hS_14.2.2 dX9_isMade_16
  · replace c_15 : ¬ (r_13 ≤ 0) := c_15
    refine lv_iconst (v := 1) hx hb dX9_isMade_11 (by decide) ?_
    refine lv_goto (tgt := 16) hx hb dX9_isMade_12 (by decide) ?_
    have hpost : (1 : Int32) = F_X9_isMade_l Xe0 := (show F_X9_isMade_l Xe0 = (1 : Int32) from (gLet_eq er_13 ((if_neg c_15).trans rfl))).symm
    have hP9 := hP_14.sub (ws' := [(hv, .inr (10, [.int 5, .ref huser, .ref howner, .ref htried, .ref hident, .ref htape, .int given, .ref hsecret, .ref qent, .ref hnoe, .int perm, .int plain])), (qent, .inl (E.2.2.1, 5, .inr (.inr (.inr (.inr (gEnt [he0, he1, he2, he3, he4])))))), (he0, .inr (6, [.ref ae0, .int Xe0.1]))]) [0, 1, 2] rfl
    have hD9 := hD_14.sub (ws' := [(hv, .inr (10, [.int 5, .ref huser, .ref howner, .ref htried, .ref hident, .ref htape, .int given, .ref hsecret, .ref qent, .ref hnoe, .int perm, .int plain])), (qent, .inl (E.2.2.1, 5, .inr (.inr (.inr (.inr (gEnt [he0, he1, he2, he3, he4])))))), (he0, .inr (6, [.ref ae0, .int Xe0.1]))]) [0, 1, 2] (by decide) rfl
    exact W.zret (v := 1) hx hb hr rfl (fun t ht hW => ⟨⟨1, (), rfl, hpost, by rw [ht]; exact hP9, hD9⟩, hS_14.F ht⟩) hS_14.2.2 dX9_isMade_16
