set_option maxHeartbeats 4000000 in
set_option maxRecDepth 100000 in
theorem k_X5_count (E : gE) (l : Launch) (h a : Nat) (r : gRow) : gMi E l yX5_count wsX5_count ({ frames := 0, cells := 0, slots := 0, locals := 0 }) 0 0 [.ref h] [(h, .inr (6, [.ref a, .int r.1]))] (fun (rr : Int32) (_ : Unit) => rr = F_X5_count r) (fun (_ : Unit) => [(h, .inr (6, [.ref a, .int r.1]))]) := by
  intro sz
  refine Met.ofW (cc := cX5_count) (maxL := 1) (ret := (some .int)) (by decide) rfl ?_
  intro p e s m args below meth c s₁ B hml hv
  obtain ⟨rfl, hsz, hP, hV, hD0⟩ := hv
  have hx := B.exec
  have hb := B.bytes
  have hr := B.returns
  have hts := atoms_spec (ws := wsX5_count) B.pre
  have hown : s.vm.findClass RX5 = some m.cls := findClass_of_methodNamed B.named
  have hlocks := B.notSynchronized
  subst hsz
  have hD := hD0.self (sz := s.heap.size)
  clear hD0
  generalize hAe : va_A [(h, .inr (6, [.ref a, .int r.1]))] s.heap.size = A at hD hV ⊢
  have hA : ∀ q : Nat, s.heap.size ≤ q → A q := fun q h => by rw [← hAe]; exact Or.inr h
  have hS : va_S A s.heap s.heap [] := va_S.rf
  have hK := hV.1
  have hF : CallFix p m c cX5_count 1 s _ wsX5_count RX5 := ⟨hx, hb, hml, hown, hts⟩
  have hl := lv_entry [.ref h] (n := 1) (Nat.le_of_ble_eq_true rfl)
  rw [lg_entry_eq]
  generalize (lg_sl [.ref h] ++ List.replicate (1 - (lg_sl [.ref h]).length) Slot.unset).toArray = ls at hl ⊢
  have hl : lv_has ls 1 [(0, .ref h)] := hl
  have in_X5 : ∀ w ∈ wsX50, w ∈ wsX5_count := by decide +kernel
  have w_0 := hts (.fieldLink RX5 19 "CryptRows$Row" "count" "I") (by decide +kernel)
  refine lv_aload_n hx hb dX5_count_0 rfl (lv_at hl 0 rfl) ?_
  refine va_get (D := E.1) (ci := 6) (v := .int r.1) (C := RX5) (T := TX5) (N := 2) hx hb hts in_X5 hown hK hP 0 rfl rfl 1 (by decide) w_0 (fun _ h9 => h9) rfl dX5_count_1 ?_
  have hpost : (r.1 : Int32) = F_X5_count r := (show F_X5_count r = (r.1 : Int32) from rfl).symm
  have hP9 := hP.sub (ws' := [(h, .inr (6, [.ref a, .int r.1]))]) [0] rfl
  have hD9 := hD.sub (ws' := [(h, .inr (6, [.ref a, .int r.1]))]) [0] (by decide) rfl
  exact W.iret (v := r.1) hx hb hr (fun t ht hW => ⟨⟨r.1, (), rfl, hpost, by rw [ht]; exact hP9, hD9⟩, hS.F ht⟩) hS.2.2 dX5_count_4
set_option maxHeartbeats 4000000 in
set_option maxRecDepth 100000 in
theorem k_X5_hasRoom (E : gE) (l : Launch) (h a : Nat) (n : Nat) (r : gRow) (more : Int32) : gMi E l yX5_hasRoom wsX5_hasRoom ({ frames := 0, cells := 0, slots := 0, locals := 0 }) 0 0 [.ref h, .int more] [(h, .inr (6, [.ref a, .int r.1])), (a, .inl (E.2.1, n, .inl r.2))] (fun (rr : Int32) (_ : Unit) => rr = F_X5_hasRoom n r more) (fun (_ : Unit) => [(h, .inr (6, [.ref a, .int r.1])), (a, .inl (E.2.1, n, .inl r.2))]) := by
  intro sz
  refine Met.ofW (cc := cX5_hasRoom) (maxL := 2) (ret := (some .boolean)) (by decide) rfl ?_
  intro p e s m args below meth c s₁ B hml hv
  obtain ⟨rfl, hsz, hP, hV, hD0⟩ := hv
  have hx := B.exec
  have hb := B.bytes
  have hr := B.returns
  have hts := atoms_spec (ws := wsX5_hasRoom) B.pre
  have hown : s.vm.findClass RX5 = some m.cls := findClass_of_methodNamed B.named
  have hlocks := B.notSynchronized
  subst hsz
  have hD := hD0.self (sz := s.heap.size)
  clear hD0
  generalize hAe : va_A [(h, .inr (6, [.ref a, .int r.1])), (a, .inl (E.2.1, n, .inl r.2))] s.heap.size = A at hD hV ⊢
  have hA : ∀ q : Nat, s.heap.size ≤ q → A q := fun q h => by rw [← hAe]; exact Or.inr h
  have hS : va_S A s.heap s.heap [] := va_S.rf
  have hK := hV.1
  have hF : CallFix p m c cX5_hasRoom 2 s _ wsX5_hasRoom RX5 := ⟨hx, hb, hml, hown, hts⟩
  have hl := lv_entry [.ref h, .int more] (n := 2) (Nat.le_of_ble_eq_true rfl)
  rw [lg_entry_eq]
  generalize (lg_sl [.ref h, .int more] ++ List.replicate (2 - (lg_sl [.ref h, .int more]).length) Slot.unset).toArray = ls at hl ⊢
  have hl : lv_has ls 2 [(0, .ref h), (1, .int more)] := hl
  have in_X5 : ∀ w ∈ wsX50, w ∈ wsX5_hasRoom := by decide +kernel
  have w_0 := hts (.fieldLink RX5 13 "CryptRows$Row" "cells" "[I") (by decide +kernel)
  have w_1 := hts (.fieldLink RX5 19 "CryptRows$Row" "count" "I") (by decide +kernel)
  refine lv_iload_n hx hb dX5_hasRoom_0 rfl (lv_at hl 1 rfl) ?_
  refine lv_aload_n hx hb dX5_hasRoom_1 rfl (lv_at hl 0 rfl) ?_
  refine va_get (D := E.1) (ci := 6) (v := .ref a) (C := RX5) (T := TX5) (N := 2) hx hb hts in_X5 hown hK hP 0 rfl rfl 0 (by decide) w_0 (fun _ h9 => h9) rfl dX5_hasRoom_2 ?_
  refine va_alen (v := (nI n)) hx hb hK hP 1 0 rfl rfl rfl dX5_hasRoom_5 ?_
  refine lv_aload_n hx hb dX5_hasRoom_6 rfl (lv_at hl 0 rfl) ?_
  refine va_get (D := E.1) (ci := 6) (v := .int r.1) (C := RX5) (T := TX5) (N := 2) hx hb hts in_X5 hown hK hP 0 rfl rfl 1 (by decide) w_1 (fun _ h9 => h9) rfl dX5_hasRoom_7 ?_
  refine lv_isub hx hb dX5_hasRoom_10 ?_
  refine lv_icmp_gt (tgt := 18) hx hb dX5_hasRoom_11 (by decide) (fun c_3 => ?_) (fun c_3 => ?_)
  · replace c_3 : ((nI n) - r.1) < more := c_3
    refine lv_iconst (v := 0) hx hb dX5_hasRoom_18 (by decide) ?_
    have hpost : (0 : Int32) = F_X5_hasRoom n r more := (show F_X5_hasRoom n r more = (0 : Int32) from ((if_pos c_3).trans rfl)).symm
    have hP9 := hP.sub (ws' := [(h, .inr (6, [.ref a, .int r.1])), (a, .inl (E.2.1, n, .inl r.2))]) [0, 1] rfl
    have hD9 := hD.sub (ws' := [(h, .inr (6, [.ref a, .int r.1])), (a, .inl (E.2.1, n, .inl r.2))]) [0, 1] (by decide) rfl
    exact W.zret (v := 0) hx hb hr rfl (fun t ht hW => ⟨⟨0, (), rfl, hpost, by rw [ht]; exact hP9, hD9⟩, hS.F ht⟩) hS.2.2 dX5_hasRoom_19
  · replace c_3 : ¬ (((nI n) - r.1) < more) := c_3
    refine lv_iconst (v := 1) hx hb dX5_hasRoom_14 (by decide) ?_
    refine lv_goto (tgt := 19) hx hb dX5_hasRoom_15 (by decide) ?_
    have hpost : (1 : Int32) = F_X5_hasRoom n r more := (show F_X5_hasRoom n r more = (1 : Int32) from ((if_neg c_3).trans rfl)).symm
    have hP9 := hP.sub (ws' := [(h, .inr (6, [.ref a, .int r.1])), (a, .inl (E.2.1, n, .inl r.2))]) [0, 1] rfl
    have hD9 := hD.sub (ws' := [(h, .inr (6, [.ref a, .int r.1])), (a, .inl (E.2.1, n, .inl r.2))]) [0, 1] (by decide) rfl
    exact W.zret (v := 1) hx hb hr rfl (fun t ht hW => ⟨⟨1, (), rfl, hpost, by rw [ht]; exact hP9, hD9⟩, hS.F ht⟩) hS.2.2 dX5_hasRoom_19
set_option maxHeartbeats 4000000 in
set_option maxRecDepth 100000 in
theorem k_X5_at (E : gE) (l : Launch) (h a : Nat) (n : Nat) (r : gRow) (i : Int32) (hn : n < 2147483648) : gMi E l yX5_at wsX5_at ({ frames := 0, cells := 0, slots := 0, locals := 0 }) 0 0 [.ref h, .int i] [(h, .inr (6, [.ref a, .int r.1])), (a, .inl (E.2.1, n, .inl r.2))] (fun (rr : Int32) (_ : Unit) => rr = F_X5_at n r i) (fun (_ : Unit) => [(h, .inr (6, [.ref a, .int r.1])), (a, .inl (E.2.1, n, .inl r.2))]) := by
  intro sz
  refine Met.ofW (cc := cX5_at) (maxL := 2) (ret := (some .int)) (by decide) rfl ?_
  intro p e s m args below meth c s₁ B hml hv
  obtain ⟨rfl, hsz, hP, hV, hD0⟩ := hv
  have hx := B.exec
  have hb := B.bytes
  have hr := B.returns
  have hts := atoms_spec (ws := wsX5_at) B.pre
  have hown : s.vm.findClass RX5 = some m.cls := findClass_of_methodNamed B.named
  have hlocks := B.notSynchronized
  subst hsz
  have hD := hD0.self (sz := s.heap.size)
  clear hD0
  generalize hAe : va_A [(h, .inr (6, [.ref a, .int r.1])), (a, .inl (E.2.1, n, .inl r.2))] s.heap.size = A at hD hV ⊢
  have hA : ∀ q : Nat, s.heap.size ≤ q → A q := fun q h => by rw [← hAe]; exact Or.inr h
  have hS : va_S A s.heap s.heap [] := va_S.rf
  have hK := hV.1
  have hF : CallFix p m c cX5_at 2 s _ wsX5_at RX5 := ⟨hx, hb, hml, hown, hts⟩
  have hl := lv_entry [.ref h, .int i] (n := 2) (Nat.le_of_ble_eq_true rfl)
  rw [lg_entry_eq]
  generalize (lg_sl [.ref h, .int i] ++ List.replicate (2 - (lg_sl [.ref h, .int i]).length) Slot.unset).toArray = ls at hl ⊢
  have hl : lv_has ls 2 [(0, .ref h), (1, .int i)] := hl
  have in_X5 : ∀ w ∈ wsX50, w ∈ wsX5_at := by decide +kernel
  have w_0 := hts (.fieldLink RX5 19 "CryptRows$Row" "count" "I") (by decide +kernel)
  have w_1 := hts (.fieldLink RX5 13 "CryptRows$Row" "cells" "[I") (by decide +kernel)
  refine lv_iload_n hx hb dX5_at_0 rfl (lv_at hl 1 rfl) ?_
  refine lv_if_lt (tgt := 30) hx hb dX5_at_1 (by decide) (fun c_7 => ?_) (fun c_7 => ?_)
  · replace c_7 : i < 0 := c_7
    refine lv_iconst (v := 0) hx hb dX5_at_30 (by decide) ?_
    have hpost : (0 : Int32) = F_X5_at n r i := (show F_X5_at n r i = (0 : Int32) from ((if_pos c_7).trans rfl)).symm
    have hP9 := hP.sub (ws' := [(h, .inr (6, [.ref a, .int r.1])), (a, .inl (E.2.1, n, .inl r.2))]) [0, 1] rfl
    have hD9 := hD.sub (ws' := [(h, .inr (6, [.ref a, .int r.1])), (a, .inl (E.2.1, n, .inl r.2))]) [0, 1] (by decide) rfl
    exact W.iret (v := 0) hx hb hr (fun t ht hW => ⟨⟨0, (), rfl, hpost, by rw [ht]; exact hP9, hD9⟩, hS.F ht⟩) hS.2.2 dX5_at_31
  · replace c_7 : ¬ (i < 0) := c_7
    refine lv_iload_n hx hb dX5_at_4 rfl (lv_at hl 1 rfl) ?_
    refine lv_aload_n hx hb dX5_at_5 rfl (lv_at hl 0 rfl) ?_
    refine va_get (D := E.1) (ci := 6) (v := .int r.1) (C := RX5) (T := TX5) (N := 2) hx hb hts in_X5 hown hK hP 0 rfl rfl 1 (by decide) w_0 (fun _ h9 => h9) rfl dX5_at_6 ?_
    refine lv_icmp_ge (tgt := 30) hx hb dX5_at_9 (by decide) (fun c_8 => ?_) (fun c_8 => ?_)
    · replace c_8 : r.1 ≤ i := c_8
      refine lv_iconst (v := 0) hx hb dX5_at_30 (by decide) ?_
      have hpost : (0 : Int32) = F_X5_at n r i := (show F_X5_at n r i = (0 : Int32) from ((if_neg c_7).trans ((if_pos c_8).trans rfl))).symm
      have hP9 := hP.sub (ws' := [(h, .inr (6, [.ref a, .int r.1])), (a, .inl (E.2.1, n, .inl r.2))]) [0, 1] rfl
      have hD9 := hD.sub (ws' := [(h, .inr (6, [.ref a, .int r.1])), (a, .inl (E.2.1, n, .inl r.2))]) [0, 1] (by decide) rfl
      exact W.iret (v := 0) hx hb hr (fun t ht hW => ⟨⟨0, (), rfl, hpost, by rw [ht]; exact hP9, hD9⟩, hS.F ht⟩) hS.2.2 dX5_at_31
    · replace c_8 : ¬ (r.1 ≤ i) := c_8
      refine lv_iload_n hx hb dX5_at_12 rfl (lv_at hl 1 rfl) ?_
      refine lv_aload_n hx hb dX5_at_13 rfl (lv_at hl 0 rfl) ?_
      refine va_get (D := E.1) (ci := 6) (v := .ref a) (C := RX5) (T := TX5) (N := 2) hx hb hts in_X5 hown hK hP 0 rfl rfl 0 (by decide) w_1 (fun _ h9 => h9) rfl dX5_at_14 ?_
      refine va_alen (v := (nI n)) hx hb hK hP 1 0 rfl rfl rfl dX5_at_17 ?_
      refine lv_icmp_ge (tgt := 30) hx hb dX5_at_18 (by decide) (fun c_9 => ?_) (fun c_9 => ?_)
      · replace c_9 : (nI n) ≤ i := c_9
        refine lv_iconst (v := 0) hx hb dX5_at_30 (by decide) ?_
        have hpost : (0 : Int32) = F_X5_at n r i := (show F_X5_at n r i = (0 : Int32) from ((if_neg c_7).trans ((if_neg c_8).trans ((if_pos c_9).trans rfl)))).symm
        have hP9 := hP.sub (ws' := [(h, .inr (6, [.ref a, .int r.1])), (a, .inl (E.2.1, n, .inl r.2))]) [0, 1] rfl
        have hD9 := hD.sub (ws' := [(h, .inr (6, [.ref a, .int r.1])), (a, .inl (E.2.1, n, .inl r.2))]) [0, 1] (by decide) rfl
        exact W.iret (v := 0) hx hb hr (fun t ht hW => ⟨⟨0, (), rfl, hpost, by rw [ht]; exact hP9, hD9⟩, hS.F ht⟩) hS.2.2 dX5_at_31
      · replace c_9 : ¬ ((nI n) ≤ i) := c_9
        refine lv_aload_n hx hb dX5_at_21 rfl (lv_at hl 0 rfl) ?_
        refine va_get (D := E.1) (ci := 6) (v := .ref a) (C := RX5) (T := TX5) (N := 2) hx hb hts in_X5 hown hK hP 0 rfl rfl 0 (by decide) w_1 (fun _ h9 => h9) rfl dX5_at_22 ?_
        refine lv_iload_n hx hb dX5_at_25 rfl (lv_at hl 1 rfl) ?_
        refine va_iald hx hb hK hP 1 0 rfl rfl (g_in c_7 c_9 (by omega)) dX5_at_26 ?_
        refine lv_goto (tgt := 31) hx hb dX5_at_27 (by decide) ?_
        have hpost : ((r.2 i.toNatClampNeg) : Int32) = F_X5_at n r i := (show F_X5_at n r i = ((r.2 i.toNatClampNeg) : Int32) from ((if_neg c_7).trans ((if_neg c_8).trans ((if_neg c_9).trans rfl)))).symm
        have hP9 := hP.sub (ws' := [(h, .inr (6, [.ref a, .int r.1])), (a, .inl (E.2.1, n, .inl r.2))]) [0, 1] rfl
        have hD9 := hD.sub (ws' := [(h, .inr (6, [.ref a, .int r.1])), (a, .inl (E.2.1, n, .inl r.2))]) [0, 1] (by decide) rfl
        exact W.iret (v := (r.2 i.toNatClampNeg)) hx hb hr (fun t ht hW => ⟨⟨(r.2 i.toNatClampNeg), (), rfl, hpost, by rw [ht]; exact hP9, hD9⟩, hS.F ht⟩) hS.2.2 dX5_at_31
set_option maxHeartbeats 4000000 in
set_option maxRecDepth 100000 in
theorem k_X5_closedAt (E : gE) (l : Launch) (h a : Nat) (n : Nat) (r : gRow) (i : Int32) (hn : n < 2147483648) : gMi E l yX5_closedAt wsX5_closedAt ({ frames := 0, cells := 0, slots := 0, locals := 0 }) 0 0 [.ref h, .int i] [(h, .inr (6, [.ref a, .int r.1])), (a, .inl (E.2.1, n, .inl r.2))] (fun (rr : Int32) (_ : Unit) => rr = F_X5_closedAt n r i) (fun (_ : Unit) => [(h, .inr (6, [.ref a, .int r.1])), (a, .inl (E.2.1, n, .inl r.2))]) := by
  intro sz
  refine Met.ofW (cc := cX5_closedAt) (maxL := 2) (ret := (some .int)) (by decide) rfl ?_
  intro p e s m args below meth c s₁ B hml hv
  obtain ⟨rfl, hsz, hP, hV, hD0⟩ := hv
  have hx := B.exec
  have hb := B.bytes
  have hr := B.returns
  have hts := atoms_spec (ws := wsX5_closedAt) B.pre
  have hown : s.vm.findClass RX5 = some m.cls := findClass_of_methodNamed B.named
  have hlocks := B.notSynchronized
  subst hsz
  have hD := hD0.self (sz := s.heap.size)
  clear hD0
  generalize hAe : va_A [(h, .inr (6, [.ref a, .int r.1])), (a, .inl (E.2.1, n, .inl r.2))] s.heap.size = A at hD hV ⊢
  have hA : ∀ q : Nat, s.heap.size ≤ q → A q := fun q h => by rw [← hAe]; exact Or.inr h
  have hS : va_S A s.heap s.heap [] := va_S.rf
  have hK := hV.1
  have hF : CallFix p m c cX5_closedAt 2 s _ wsX5_closedAt RX5 := ⟨hx, hb, hml, hown, hts⟩
  have hl := lv_entry [.ref h, .int i] (n := 2) (Nat.le_of_ble_eq_true rfl)
  rw [lg_entry_eq]
  generalize (lg_sl [.ref h, .int i] ++ List.replicate (2 - (lg_sl [.ref h, .int i]).length) Slot.unset).toArray = ls at hl ⊢
  have hl : lv_has ls 2 [(0, .ref h), (1, .int i)] := hl
  have in_X5 : ∀ w ∈ wsX50, w ∈ wsX5_closedAt := by decide +kernel
  have w_0 := hts (.fieldLink RX5 19 "CryptRows$Row" "count" "I") (by decide +kernel)
  have w_1 := hts (.fieldLink RX5 13 "CryptRows$Row" "cells" "[I") (by decide +kernel)
  refine lv_iload_n hx hb dX5_closedAt_0 rfl (lv_at hl 1 rfl) ?_
  refine lv_aload_n hx hb dX5_closedAt_1 rfl (lv_at hl 0 rfl) ?_
  refine va_get (D := E.1) (ci := 6) (v := .int r.1) (C := RX5) (T := TX5) (N := 2) hx hb hts in_X5 hown hK hP 0 rfl rfl 1 (by decide) w_0 (fun _ h9 => h9) rfl dX5_closedAt_2 ?_
  refine lv_icmp_ne (tgt := 12) hx hb dX5_closedAt_5 (by decide) (fun c_9 => ?_) (fun c_9 => ?_)
  · replace c_9 : ¬ (i = r.1) := c_9
    refine lv_iload_n hx hb dX5_closedAt_12 rfl (lv_at hl 1 rfl) ?_
    refine lv_if_lt (tgt := 42) hx hb dX5_closedAt_13 (by decide) (fun c_10 => ?_) (fun c_10 => ?_)
    · replace c_10 : i < 0 := c_10
      refine lv_iconst (v := 0) hx hb dX5_closedAt_42 (by decide) ?_
      have hpost : (0 : Int32) = F_X5_closedAt n r i := (show F_X5_closedAt n r i = (0 : Int32) from ((if_neg c_9).trans ((if_pos c_10).trans rfl))).symm
      have hP9 := hP.sub (ws' := [(h, .inr (6, [.ref a, .int r.1])), (a, .inl (E.2.1, n, .inl r.2))]) [0, 1] rfl
      have hD9 := hD.sub (ws' := [(h, .inr (6, [.ref a, .int r.1])), (a, .inl (E.2.1, n, .inl r.2))]) [0, 1] (by decide) rfl
      exact W.iret (v := 0) hx hb hr (fun t ht hW => ⟨⟨0, (), rfl, hpost, by rw [ht]; exact hP9, hD9⟩, hS.F ht⟩) hS.2.2 dX5_closedAt_43
    · replace c_10 : ¬ (i < 0) := c_10
      refine lv_iload_n hx hb dX5_closedAt_16 rfl (lv_at hl 1 rfl) ?_
      refine lv_aload_n hx hb dX5_closedAt_17 rfl (lv_at hl 0 rfl) ?_
      refine va_get (D := E.1) (ci := 6) (v := .int r.1) (C := RX5) (T := TX5) (N := 2) hx hb hts in_X5 hown hK hP 0 rfl rfl 1 (by decide) w_0 (fun _ h9 => h9) rfl dX5_closedAt_18 ?_
      refine lv_icmp_ge (tgt := 42) hx hb dX5_closedAt_21 (by decide) (fun c_11 => ?_) (fun c_11 => ?_)
      · replace c_11 : r.1 ≤ i := c_11
        refine lv_iconst (v := 0) hx hb dX5_closedAt_42 (by decide) ?_
        have hpost : (0 : Int32) = F_X5_closedAt n r i := (show F_X5_closedAt n r i = (0 : Int32) from ((if_neg c_9).trans ((if_neg c_10).trans ((if_pos c_11).trans rfl)))).symm
        have hP9 := hP.sub (ws' := [(h, .inr (6, [.ref a, .int r.1])), (a, .inl (E.2.1, n, .inl r.2))]) [0, 1] rfl
        have hD9 := hD.sub (ws' := [(h, .inr (6, [.ref a, .int r.1])), (a, .inl (E.2.1, n, .inl r.2))]) [0, 1] (by decide) rfl
        exact W.iret (v := 0) hx hb hr (fun t ht hW => ⟨⟨0, (), rfl, hpost, by rw [ht]; exact hP9, hD9⟩, hS.F ht⟩) hS.2.2 dX5_closedAt_43
      · replace c_11 : ¬ (r.1 ≤ i) := c_11
        refine lv_iload_n hx hb dX5_closedAt_24 rfl (lv_at hl 1 rfl) ?_
        refine lv_aload_n hx hb dX5_closedAt_25 rfl (lv_at hl 0 rfl) ?_
        refine va_get (D := E.1) (ci := 6) (v := .ref a) (C := RX5) (T := TX5) (N := 2) hx hb hts in_X5 hown hK hP 0 rfl rfl 0 (by decide) w_1 (fun _ h9 => h9) rfl dX5_closedAt_26 ?_
        refine va_alen (v := (nI n)) hx hb hK hP 1 0 rfl rfl rfl dX5_closedAt_29 ?_
        refine lv_icmp_ge (tgt := 42) hx hb dX5_closedAt_30 (by decide) (fun c_12 => ?_) (fun c_12 => ?_)
        · replace c_12 : (nI n) ≤ i := c_12
          refine lv_iconst (v := 0) hx hb dX5_closedAt_42 (by decide) ?_
          have hpost : (0 : Int32) = F_X5_closedAt n r i := (show F_X5_closedAt n r i = (0 : Int32) from ((if_neg c_9).trans ((if_neg c_10).trans ((if_neg c_11).trans ((if_pos c_12).trans rfl))))).symm
          have hP9 := hP.sub (ws' := [(h, .inr (6, [.ref a, .int r.1])), (a, .inl (E.2.1, n, .inl r.2))]) [0, 1] rfl
          have hD9 := hD.sub (ws' := [(h, .inr (6, [.ref a, .int r.1])), (a, .inl (E.2.1, n, .inl r.2))]) [0, 1] (by decide) rfl
          exact W.iret (v := 0) hx hb hr (fun t ht hW => ⟨⟨0, (), rfl, hpost, by rw [ht]; exact hP9, hD9⟩, hS.F ht⟩) hS.2.2 dX5_closedAt_43
        · replace c_12 : ¬ ((nI n) ≤ i) := c_12
          refine lv_aload_n hx hb dX5_closedAt_33 rfl (lv_at hl 0 rfl) ?_
          refine va_get (D := E.1) (ci := 6) (v := .ref a) (C := RX5) (T := TX5) (N := 2) hx hb hts in_X5 hown hK hP 0 rfl rfl 0 (by decide) w_1 (fun _ h9 => h9) rfl dX5_closedAt_34 ?_
          refine lv_iload_n hx hb dX5_closedAt_37 rfl (lv_at hl 1 rfl) ?_
          refine va_iald hx hb hK hP 1 0 rfl rfl (g_in c_10 c_12 (by omega)) dX5_closedAt_38 ?_
          refine lv_goto (tgt := 43) hx hb dX5_closedAt_39 (by decide) ?_
          have hpost : ((r.2 i.toNatClampNeg) : Int32) = F_X5_closedAt n r i := (show F_X5_closedAt n r i = ((r.2 i.toNatClampNeg) : Int32) from ((if_neg c_9).trans ((if_neg c_10).trans ((if_neg c_11).trans ((if_neg c_12).trans rfl))))).symm
          have hP9 := hP.sub (ws' := [(h, .inr (6, [.ref a, .int r.1])), (a, .inl (E.2.1, n, .inl r.2))]) [0, 1] rfl
          have hD9 := hD.sub (ws' := [(h, .inr (6, [.ref a, .int r.1])), (a, .inl (E.2.1, n, .inl r.2))]) [0, 1] (by decide) rfl
          exact W.iret (v := (r.2 i.toNatClampNeg)) hx hb hr (fun t ht hW => ⟨⟨(r.2 i.toNatClampNeg), (), rfl, hpost, by rw [ht]; exact hP9, hD9⟩, hS.F ht⟩) hS.2.2 dX5_closedAt_43
  · replace c_9 : i = r.1 := c_9
    refine lv_sipush (v := 128) hx hb dX5_closedAt_8 (by decide) ?_
    have hpost : (128 : Int32) = F_X5_closedAt n r i := (show F_X5_closedAt n r i = (128 : Int32) from ((if_pos c_9).trans rfl)).symm
    have hP9 := hP.sub (ws' := [(h, .inr (6, [.ref a, .int r.1])), (a, .inl (E.2.1, n, .inl r.2))]) [0, 1] rfl
    have hD9 := hD.sub (ws' := [(h, .inr (6, [.ref a, .int r.1])), (a, .inl (E.2.1, n, .inl r.2))]) [0, 1] (by decide) rfl
    exact W.iret (v := 128) hx hb hr (fun t ht hW => ⟨⟨128, (), rfl, hpost, by rw [ht]; exact hP9, hD9⟩, hS.F ht⟩) hS.2.2 dX5_closedAt_11
set_option maxHeartbeats 4000000 in
set_option maxRecDepth 100000 in
theorem k_X5_put (E : gE) (l : Launch) (h a : Nat) (n : Nat) (r : gRow) (i : Int32) (b : Int32) (hn : n < 2147483648) : gMv E l yX5_put wsX5_put ({ frames := 0, cells := 0, slots := 0, locals := 0 }) 0 0 [.ref h, .int i, .int b] [(h, .inr (6, [.ref a, .int r.1])), (a, .inl (E.2.1, n, .inl r.2))] (fun (uu : gRow) => uu = F_X5_put n r i b) (fun (uu : gRow) => [(h, .inr (6, [.ref a, .int uu.1])), (a, .inl (E.2.1, n, .inl uu.2))]) := by
  intro sz
  refine Met.ofW (cc := cX5_put) (maxL := 3) (ret := none) (by decide) rfl ?_
  intro p e s m args below meth c s₁ B hml hv
  obtain ⟨rfl, hsz, hP, hV, hD0⟩ := hv
  have hx := B.exec
  have hb := B.bytes
  have hr := B.returns
  have hts := atoms_spec (ws := wsX5_put) B.pre
  have hown : s.vm.findClass RX5 = some m.cls := findClass_of_methodNamed B.named
  have hlocks := B.notSynchronized
  subst hsz
  have hD := hD0.self (sz := s.heap.size)
  clear hD0
  generalize hAe : va_A [(h, .inr (6, [.ref a, .int r.1])), (a, .inl (E.2.1, n, .inl r.2))] s.heap.size = A at hD hV ⊢
  have hA : ∀ q : Nat, s.heap.size ≤ q → A q := fun q h => by rw [← hAe]; exact Or.inr h
  have hS : va_S A s.heap s.heap [] := va_S.rf
  have hK := hV.1
  have hF : CallFix p m c cX5_put 3 s _ wsX5_put RX5 := ⟨hx, hb, hml, hown, hts⟩
  have hl := lv_entry [.ref h, .int i, .int b] (n := 3) (Nat.le_of_ble_eq_true rfl)
  rw [lg_entry_eq]
  generalize (lg_sl [.ref h, .int i, .int b] ++ List.replicate (3 - (lg_sl [.ref h, .int i, .int b]).length) Slot.unset).toArray = ls at hl ⊢
  have hl : lv_has ls 3 [(0, .ref h), (1, .int i), (2, .int b)] := hl
  have in_X5 : ∀ w ∈ wsX50, w ∈ wsX5_put := by decide +kernel
  have w_0 := hts (.fieldLink RX5 19 "CryptRows$Row" "count" "I") (by decide +kernel)
  have w_1 := hts (.fieldLink RX5 13 "CryptRows$Row" "cells" "[I") (by decide +kernel)
  refine lv_iload_n hx hb dX5_put_0 rfl (lv_at hl 1 rfl) ?_
  refine lv_if_lt (tgt := 32) hx hb dX5_put_1 (by decide) (fun c_9 => ?_) (fun c_9 => ?_)
  · replace c_9 : i < 0 := c_9
    have hpost : (r : gRow) = F_X5_put n r i b := (show F_X5_put n r i b = (r : gRow) from ((if_pos c_9).trans rfl)).symm
    have hP9 := hP.sub (ws' := [(h, .inr (6, [.ref a, .int r.1])), (a, .inl (E.2.1, n, .inl r.2))]) [0, 1] rfl
    have hD9 := hD.sub (ws' := [(h, .inr (6, [.ref a, .int r.1])), (a, .inl (E.2.1, n, .inl r.2))]) [0, 1] (by decide) rfl
    exact W.vret hx hb hr (fun t ht hW => ⟨⟨r, rfl, hpost, by rw [ht]; exact hP9, hD9⟩, hS.F ht⟩) hS.2.2 dX5_put_32
  · replace c_9 : ¬ (i < 0) := c_9
    refine lv_iload_n hx hb dX5_put_4 rfl (lv_at hl 1 rfl) ?_
    refine lv_aload_n hx hb dX5_put_5 rfl (lv_at hl 0 rfl) ?_
    refine va_get (D := E.1) (ci := 6) (v := .int r.1) (C := RX5) (T := TX5) (N := 2) hx hb hts in_X5 hown hK hP 0 rfl rfl 1 (by decide) w_0 (fun _ h9 => h9) rfl dX5_put_6 ?_
    refine lv_icmp_ge (tgt := 32) hx hb dX5_put_9 (by decide) (fun c_10 => ?_) (fun c_10 => ?_)
    · replace c_10 : r.1 ≤ i := c_10
      have hpost : (r : gRow) = F_X5_put n r i b := (show F_X5_put n r i b = (r : gRow) from ((if_neg c_9).trans ((if_pos c_10).trans rfl))).symm
      have hP9 := hP.sub (ws' := [(h, .inr (6, [.ref a, .int r.1])), (a, .inl (E.2.1, n, .inl r.2))]) [0, 1] rfl
      have hD9 := hD.sub (ws' := [(h, .inr (6, [.ref a, .int r.1])), (a, .inl (E.2.1, n, .inl r.2))]) [0, 1] (by decide) rfl
      exact W.vret hx hb hr (fun t ht hW => ⟨⟨r, rfl, hpost, by rw [ht]; exact hP9, hD9⟩, hS.F ht⟩) hS.2.2 dX5_put_32
    · replace c_10 : ¬ (r.1 ≤ i) := c_10
      refine lv_iload_n hx hb dX5_put_12 rfl (lv_at hl 1 rfl) ?_
      refine lv_aload_n hx hb dX5_put_13 rfl (lv_at hl 0 rfl) ?_
      refine va_get (D := E.1) (ci := 6) (v := .ref a) (C := RX5) (T := TX5) (N := 2) hx hb hts in_X5 hown hK hP 0 rfl rfl 0 (by decide) w_1 (fun _ h9 => h9) rfl dX5_put_14 ?_
      refine va_alen (v := (nI n)) hx hb hK hP 1 0 rfl rfl rfl dX5_put_17 ?_
      refine lv_icmp_ge (tgt := 32) hx hb dX5_put_18 (by decide) (fun c_11 => ?_) (fun c_11 => ?_)
      · replace c_11 : (nI n) ≤ i := c_11
        have hpost : (r : gRow) = F_X5_put n r i b := (show F_X5_put n r i b = (r : gRow) from ((if_neg c_9).trans ((if_neg c_10).trans ((if_pos c_11).trans rfl)))).symm
        have hP9 := hP.sub (ws' := [(h, .inr (6, [.ref a, .int r.1])), (a, .inl (E.2.1, n, .inl r.2))]) [0, 1] rfl
        have hD9 := hD.sub (ws' := [(h, .inr (6, [.ref a, .int r.1])), (a, .inl (E.2.1, n, .inl r.2))]) [0, 1] (by decide) rfl
        exact W.vret hx hb hr (fun t ht hW => ⟨⟨r, rfl, hpost, by rw [ht]; exact hP9, hD9⟩, hS.F ht⟩) hS.2.2 dX5_put_32
      · replace c_11 : ¬ ((nI n) ≤ i) := c_11
        refine lv_aload_n hx hb dX5_put_21 rfl (lv_at hl 0 rfl) ?_
        refine va_get (D := E.1) (ci := 6) (v := .ref a) (C := RX5) (T := TX5) (N := 2) hx hb hts in_X5 hown hK hP 0 rfl rfl 0 (by decide) w_1 (fun _ h9 => h9) rfl dX5_put_22 ?_
        refine lv_iload_n hx hb dX5_put_25 rfl (lv_at hl 1 rfl) ?_
        refine lv_iload_n hx hb dX5_put_26 rfl (lv_at hl 2 rfl) ?_
        refine lv_sipush (v := 255) hx hb dX5_put_27 (by decide) ?_
        refine lv_iand hx hb dX5_put_30 ?_
        refine va_iast hx hb hK hP hD hS 1 0 rfl rfl (g_in c_9 c_11 (by omega)) dX5_put_31 (fun H_12 locs_12 hP_12 hD_12 hS_12 => ?_)
        replace hP_12 : va_P E.1 vwCl [(h, .inr (6, [.ref a, .int r.1])), (a, .inl (E.2.1, n, .inl (upd r.2 i.toNatClampNeg (b &&& 255))))] H_12 := hP_12
        replace hD_12 : va_D A [(h, .inr (6, [.ref a, .int r.1])), (a, .inl (E.2.1, n, .inl (upd r.2 i.toNatClampNeg (b &&& 255))))] := hD_12
        clear hP hD hS
        have hpost : ((r.1, (upd r.2 i.toNatClampNeg (b &&& 255))) : gRow) = F_X5_put n r i b := (show F_X5_put n r i b = ((r.1, (upd r.2 i.toNatClampNeg (b &&& 255))) : gRow) from ((if_neg c_9).trans ((if_neg c_10).trans ((if_neg c_11).trans rfl)))).symm
        have hP9 := hP_12.sub (ws' := [(h, .inr (6, [.ref a, .int r.1])), (a, .inl (E.2.1, n, .inl (upd r.2 i.toNatClampNeg (b &&& 255))))]) [0, 1] rfl
        have hD9 := hD_12.sub (ws' := [(h, .inr (6, [.ref a, .int r.1])), (a, .inl (E.2.1, n, .inl (upd r.2 i.toNatClampNeg (b &&& 255))))]) [0, 1] (by decide) rfl
        exact W.vret hx hb hr (fun t ht hW => ⟨⟨(r.1, (upd r.2 i.toNatClampNeg (b &&& 255))), rfl, hpost, by rw [ht]; exact hP9, hD9⟩, hS_12.F ht⟩) hS_12.2.2 dX5_put_32
set_option maxHeartbeats 4000000 in
set_option maxRecDepth 100000 in
theorem k_X5_add (E : gE) (l : Launch) (h a : Nat) (n : Nat) (r : gRow) (b : Int32) (hn : n < 2147483648) : gMv E l yX5_add wsX5_add ({ frames := 0, cells := 0, slots := 0, locals := 0 }) 0 0 [.ref h, .int b] [(h, .inr (6, [.ref a, .int r.1])), (a, .inl (E.2.1, n, .inl r.2))] (fun (uu : gRow) => uu = F_X5_add n r b) (fun (uu : gRow) => [(h, .inr (6, [.ref a, .int uu.1])), (a, .inl (E.2.1, n, .inl uu.2))]) := by
  intro sz
  refine Met.ofW (cc := cX5_add) (maxL := 2) (ret := none) (by decide) rfl ?_
  intro p e s m args below meth c s₁ B hml hv
  obtain ⟨rfl, hsz, hP, hV, hD0⟩ := hv
  have hx := B.exec
  have hb := B.bytes
  have hr := B.returns
  have hts := atoms_spec (ws := wsX5_add) B.pre
  have hown : s.vm.findClass RX5 = some m.cls := findClass_of_methodNamed B.named
  have hlocks := B.notSynchronized
  subst hsz
  have hD := hD0.self (sz := s.heap.size)
  clear hD0
  generalize hAe : va_A [(h, .inr (6, [.ref a, .int r.1])), (a, .inl (E.2.1, n, .inl r.2))] s.heap.size = A at hD hV ⊢
  have hA : ∀ q : Nat, s.heap.size ≤ q → A q := fun q h => by rw [← hAe]; exact Or.inr h
  have hS : va_S A s.heap s.heap [] := va_S.rf
  have hK := hV.1
  have hF : CallFix p m c cX5_add 2 s _ wsX5_add RX5 := ⟨hx, hb, hml, hown, hts⟩
  have hl := lv_entry [.ref h, .int b] (n := 2) (Nat.le_of_ble_eq_true rfl)
  rw [lg_entry_eq]
  generalize (lg_sl [.ref h, .int b] ++ List.replicate (2 - (lg_sl [.ref h, .int b]).length) Slot.unset).toArray = ls at hl ⊢
  have hl : lv_has ls 2 [(0, .ref h), (1, .int b)] := hl
  have in_X5 : ∀ w ∈ wsX50, w ∈ wsX5_add := by decide +kernel
  have w_0 := hts (.fieldLink RX5 19 "CryptRows$Row" "count" "I") (by decide +kernel)
  have w_1 := hts (.fieldLink RX5 13 "CryptRows$Row" "cells" "[I") (by decide +kernel)
  refine lv_aload_n hx hb dX5_add_0 rfl (lv_at hl 0 rfl) ?_
  refine va_get (D := E.1) (ci := 6) (v := .int r.1) (C := RX5) (T := TX5) (N := 2) hx hb hts in_X5 hown hK hP 0 rfl rfl 1 (by decide) w_0 (fun _ h9 => h9) rfl dX5_add_1 ?_
  refine lv_if_lt (tgt := 43) hx hb dX5_add_4 (by decide) (fun c_9 => ?_) (fun c_9 => ?_)
  · replace c_9 : r.1 < 0 := c_9
    have hpost : (r : gRow) = F_X5_add n r b := (show F_X5_add n r b = (r : gRow) from ((if_pos c_9).trans rfl)).symm
    have hP9 := hP.sub (ws' := [(h, .inr (6, [.ref a, .int r.1])), (a, .inl (E.2.1, n, .inl r.2))]) [0, 1] rfl
    have hD9 := hD.sub (ws' := [(h, .inr (6, [.ref a, .int r.1])), (a, .inl (E.2.1, n, .inl r.2))]) [0, 1] (by decide) rfl
    exact W.vret hx hb hr (fun t ht hW => ⟨⟨r, rfl, hpost, by rw [ht]; exact hP9, hD9⟩, hS.F ht⟩) hS.2.2 dX5_add_43
  · replace c_9 : ¬ (r.1 < 0) := c_9
    refine lv_aload_n hx hb dX5_add_7 rfl (lv_at hl 0 rfl) ?_
    refine va_get (D := E.1) (ci := 6) (v := .int r.1) (C := RX5) (T := TX5) (N := 2) hx hb hts in_X5 hown hK hP 0 rfl rfl 1 (by decide) w_0 (fun _ h9 => h9) rfl dX5_add_8 ?_
    refine lv_aload_n hx hb dX5_add_11 rfl (lv_at hl 0 rfl) ?_
    refine va_get (D := E.1) (ci := 6) (v := .ref a) (C := RX5) (T := TX5) (N := 2) hx hb hts in_X5 hown hK hP 0 rfl rfl 0 (by decide) w_1 (fun _ h9 => h9) rfl dX5_add_12 ?_
    refine va_alen (v := (nI n)) hx hb hK hP 1 0 rfl rfl rfl dX5_add_15 ?_
    refine lv_icmp_ge (tgt := 43) hx hb dX5_add_16 (by decide) (fun c_10 => ?_) (fun c_10 => ?_)
    · replace c_10 : (nI n) ≤ r.1 := c_10
      have hpost : (r : gRow) = F_X5_add n r b := (show F_X5_add n r b = (r : gRow) from ((if_neg c_9).trans ((if_pos c_10).trans rfl))).symm
      have hP9 := hP.sub (ws' := [(h, .inr (6, [.ref a, .int r.1])), (a, .inl (E.2.1, n, .inl r.2))]) [0, 1] rfl
      have hD9 := hD.sub (ws' := [(h, .inr (6, [.ref a, .int r.1])), (a, .inl (E.2.1, n, .inl r.2))]) [0, 1] (by decide) rfl
      exact W.vret hx hb hr (fun t ht hW => ⟨⟨r, rfl, hpost, by rw [ht]; exact hP9, hD9⟩, hS.F ht⟩) hS.2.2 dX5_add_43
    · replace c_10 : ¬ ((nI n) ≤ r.1) := c_10
      refine lv_aload_n hx hb dX5_add_19 rfl (lv_at hl 0 rfl) ?_
      refine va_get (D := E.1) (ci := 6) (v := .ref a) (C := RX5) (T := TX5) (N := 2) hx hb hts in_X5 hown hK hP 0 rfl rfl 0 (by decide) w_1 (fun _ h9 => h9) rfl dX5_add_20 ?_
      refine lv_aload_n hx hb dX5_add_23 rfl (lv_at hl 0 rfl) ?_
      refine va_get (D := E.1) (ci := 6) (v := .int r.1) (C := RX5) (T := TX5) (N := 2) hx hb hts in_X5 hown hK hP 0 rfl rfl 1 (by decide) w_0 (fun _ h9 => h9) rfl dX5_add_24 ?_
      refine lv_iload_n hx hb dX5_add_27 rfl (lv_at hl 1 rfl) ?_
      refine lv_sipush (v := 255) hx hb dX5_add_28 (by decide) ?_
      refine lv_iand hx hb dX5_add_31 ?_
      refine va_iast hx hb hK hP hD hS 1 0 rfl rfl (g_in c_9 c_10 (by omega)) dX5_add_32 (fun H_11 locs_11 hP_11 hD_11 hS_11 => ?_)
      replace hP_11 : va_P E.1 vwCl [(h, .inr (6, [.ref a, .int r.1])), (a, .inl (E.2.1, n, .inl (upd r.2 r.1.toNatClampNeg (b &&& 255))))] H_11 := hP_11
      replace hD_11 : va_D A [(h, .inr (6, [.ref a, .int r.1])), (a, .inl (E.2.1, n, .inl (upd r.2 r.1.toNatClampNeg (b &&& 255))))] := hD_11
      clear hP hD hS
      refine lv_aload_n hx hb dX5_add_33 rfl (lv_at hl 0 rfl) ?_
      refine lv_dup hx hb dX5_add_34 rfl ?_
      refine va_get (D := E.1) (ci := 6) (v := .int r.1) (C := RX5) (T := TX5) (N := 2) hx hb hts in_X5 hown hK hP_11 0 rfl rfl 1 (by decide) w_0 (fun _ h9 => h9) rfl dX5_add_35 ?_
      refine lv_iconst (v := 1) hx hb dX5_add_38 (by decide) ?_
      refine lv_iadd hx hb dX5_add_39 ?_
      refine va_put (D := E.1) (ci := 6) (v := .int (r.1 + 1)) (ty := .int) (C := RX5) (T := TX5) (N := 2) hx hb hts in_X5 tyX5 tyX5_ok nmX5 hown hK hP_11 hD_11 hS_11 0 rfl rfl 1 (by decide) w_0 (fun _ h9 => h9) rfl (by decide +kernel) rfl rfl (Nat.le_of_ble_eq_true rfl) dX5_add_40 (fun H_12 locs_12 hP_12 hD_12 hS_12 => ?_)
      replace hP_12 : va_P E.1 vwCl [(h, .inr (6, [.ref a, .int (r.1 + 1)])), (a, .inl (E.2.1, n, .inl (upd r.2 r.1.toNatClampNeg (b &&& 255))))] H_12 := hP_12
      replace hD_12 : va_D A [(h, .inr (6, [.ref a, .int (r.1 + 1)])), (a, .inl (E.2.1, n, .inl (upd r.2 r.1.toNatClampNeg (b &&& 255))))] := hD_12
      clear hP_11 hD_11 hS_11
      have hpost : (((r.1 + 1), (upd r.2 r.1.toNatClampNeg (b &&& 255))) : gRow) = F_X5_add n r b := (show F_X5_add n r b = (((r.1 + 1), (upd r.2 r.1.toNatClampNeg (b &&& 255))) : gRow) from ((if_neg c_9).trans ((if_neg c_10).trans rfl))).symm
      have hP9 := hP_12.sub (ws' := [(h, .inr (6, [.ref a, .int (r.1 + 1)])), (a, .inl (E.2.1, n, .inl (upd r.2 r.1.toNatClampNeg (b &&& 255))))]) [0, 1] rfl
      have hD9 := hD_12.sub (ws' := [(h, .inr (6, [.ref a, .int (r.1 + 1)])), (a, .inl (E.2.1, n, .inl (upd r.2 r.1.toNatClampNeg (b &&& 255))))]) [0, 1] (by decide) rfl
      exact W.vret hx hb hr (fun t ht hW => ⟨⟨((r.1 + 1), (upd r.2 r.1.toNatClampNeg (b &&& 255))), rfl, hpost, by rw [ht]; exact hP9, hD9⟩, hS_12.F ht⟩) hS_12.2.2 dX5_add_43
set_option maxHeartbeats 4000000 in
set_option maxRecDepth 100000 in
theorem k_X5_clear (E : gE) (l : Launch) (h a : Nat) (r : gRow) : gMv E l yX5_clear wsX5_clear ({ frames := 0, cells := 0, slots := 0, locals := 0 }) 0 0 [.ref h] [(h, .inr (6, [.ref a, .int r.1]))] (fun (uu : gRow) => uu = F_X5_clear r) (fun (uu : gRow) => [(h, .inr (6, [.ref a, .int uu.1]))]) := by
  intro sz
  refine Met.ofW (cc := cX5_clear) (maxL := 1) (ret := none) (by decide) rfl ?_
  intro p e s m args below meth c s₁ B hml hv
  obtain ⟨rfl, hsz, hP, hV, hD0⟩ := hv
  have hx := B.exec
  have hb := B.bytes
  have hr := B.returns
  have hts := atoms_spec (ws := wsX5_clear) B.pre
  have hown : s.vm.findClass RX5 = some m.cls := findClass_of_methodNamed B.named
  have hlocks := B.notSynchronized
  subst hsz
  have hD := hD0.self (sz := s.heap.size)
  clear hD0
  generalize hAe : va_A [(h, .inr (6, [.ref a, .int r.1]))] s.heap.size = A at hD hV ⊢
  have hA : ∀ q : Nat, s.heap.size ≤ q → A q := fun q h => by rw [← hAe]; exact Or.inr h
  have hS : va_S A s.heap s.heap [] := va_S.rf
  have hK := hV.1
  have hF : CallFix p m c cX5_clear 1 s _ wsX5_clear RX5 := ⟨hx, hb, hml, hown, hts⟩
  have hl := lv_entry [.ref h] (n := 1) (Nat.le_of_ble_eq_true rfl)
  rw [lg_entry_eq]
  generalize (lg_sl [.ref h] ++ List.replicate (1 - (lg_sl [.ref h]).length) Slot.unset).toArray = ls at hl ⊢
  have hl : lv_has ls 1 [(0, .ref h)] := hl
  have in_X5 : ∀ w ∈ wsX50, w ∈ wsX5_clear := by decide +kernel
  have w_0 := hts (.fieldLink RX5 19 "CryptRows$Row" "count" "I") (by decide +kernel)
  refine lv_aload_n hx hb dX5_clear_0 rfl (lv_at hl 0 rfl) ?_
  refine lv_iconst (v := 0) hx hb dX5_clear_1 (by decide) ?_
  refine va_put (D := E.1) (ci := 6) (v := .int 0) (ty := .int) (C := RX5) (T := TX5) (N := 2) hx hb hts in_X5 tyX5 tyX5_ok nmX5 hown hK hP hD hS 0 rfl rfl 1 (by decide) w_0 (fun _ h9 => h9) rfl (by decide +kernel) rfl rfl (Nat.le_of_ble_eq_true rfl) dX5_clear_2 (fun H_3 locs_3 hP_3 hD_3 hS_3 => ?_)
  replace hP_3 : va_P E.1 vwCl [(h, .inr (6, [.ref a, .int 0]))] H_3 := hP_3
  replace hD_3 : va_D A [(h, .inr (6, [.ref a, .int 0]))] := hD_3
  clear hP hD hS
  have hpost : ((0, r.2) : gRow) = F_X5_clear r := (show F_X5_clear r = ((0, r.2) : gRow) from rfl).symm
  have hP9 := hP_3.sub (ws' := [(h, .inr (6, [.ref a, .int 0]))]) [0] rfl
  have hD9 := hD_3.sub (ws' := [(h, .inr (6, [.ref a, .int 0]))]) [0] (by decide) rfl
  exact W.vret hx hb hr (fun t ht hW => ⟨⟨(0, r.2), rfl, hpost, by rw [ht]; exact hP9, hD9⟩, hS_3.F ht⟩) hS_3.2.2 dX5_clear_5
set_option maxHeartbeats 4000000 in
set_option maxRecDepth 100000 in
theorem k_X5_cut (E : gE) (l : Launch) (h a : Nat) (r : gRow) (bytes : Int32) : gMv E l yX5_cut wsX5_cut ({ frames := 1, cells := 0, slots := 0, locals := 21 }) 0 0 [.ref h, .int bytes] [(h, .inr (6, [.ref a, .int r.1]))] (fun (uu : gRow) => uu = F_X5_cut r bytes) (fun (uu : gRow) => [(h, .inr (6, [.ref a, .int uu.1]))]) := by
  intro sz
  refine Met.ofW (cc := cX5_cut) (maxL := 2) (ret := none) (by decide) rfl ?_
  intro p e s m args below meth c s₁ B hml hv
  obtain ⟨rfl, hsz, hP, hV, hD0⟩ := hv
  have hx := B.exec
  have hb := B.bytes
  have hr := B.returns
  have hts := atoms_spec (ws := wsX5_cut) B.pre
  have hown : s.vm.findClass RX5 = some m.cls := findClass_of_methodNamed B.named
  have hlocks := B.notSynchronized
  subst hsz
  have hD := hD0.self (sz := s.heap.size)
  clear hD0
  generalize hAe : va_A [(h, .inr (6, [.ref a, .int r.1]))] s.heap.size = A at hD hV ⊢
  have hA : ∀ q : Nat, s.heap.size ≤ q → A q := fun q h => by rw [← hAe]; exact Or.inr h
  have hS : va_S A s.heap s.heap [] := va_S.rf
  have hK := hV.1
  have hF : CallFix p m c cX5_cut 2 s _ wsX5_cut RX5 := ⟨hx, hb, hml, hown, hts⟩
  have hl := lv_entry [.ref h, .int bytes] (n := 2) (Nat.le_of_ble_eq_true rfl)
  rw [lg_entry_eq]
  generalize (lg_sl [.ref h, .int bytes] ++ List.replicate (2 - (lg_sl [.ref h, .int bytes]).length) Slot.unset).toArray = ls at hl ⊢
  have hl : lv_has ls 2 [(0, .ref h), (1, .int bytes)] := hl
  have in_X5 : ∀ w ∈ wsX50, w ∈ wsX5_cut := by decide +kernel
  have w_0 := hts (.fieldLink RX5 19 "CryptRows$Row" "count" "I") (by decide +kernel)
  have w_1 := hts (.methodLink RX5 46 Lib.Math.min.name) (by decide +kernel)
  have w_2 := hts (.static Lib.Math.min.name) (by decide +kernel)
  have w_3 := hts (.initialized "java/lang/Math") (by decide +kernel)
  have w_4 := hts (.code Lib.Math.min.name Lib.Math.min.code 2 (some .int)) (by decide +kernel)
  have w_5 := hts (.methodLink RX5 7 Lib.Math.max.name) (by decide +kernel)
  have w_6 := hts (.static Lib.Math.max.name) (by decide +kernel)
  have w_7 := hts (.code Lib.Math.max.name Lib.Math.max.code 2 (some .int)) (by decide +kernel)
  refine lv_aload_n hx hb dX5_cut_0 rfl (lv_at hl 0 rfl) ?_
  refine lv_iconst (v := 0) hx hb dX5_cut_1 (by decide) ?_
  refine lv_aload_n hx hb dX5_cut_2 rfl (lv_at hl 0 rfl) ?_
  refine va_get (D := E.1) (ci := 6) (v := .int r.1) (C := RX5) (T := TX5) (N := 2) hx hb hts in_X5 hown hK hP 0 rfl rfl 1 (by decide) w_0 (fun _ h9 => h9) rfl dX5_cut_3 ?_
  refine lv_iload_n hx hb dX5_cut_6 rfl (lv_at hl 1 rfl) ?_
  refine va_mmin hx hb (hml.trans hl.1.symm) hown w_1 w_2 w_3 w_4 (by decide) (Nat.le_of_ble_eq_true rfl) (by omega) (by omega) dX5_cut_7 ?_
  refine lv_topi (fun v_7 ev_7 => ?_)
  refine va_mmax hx hb (hml.trans hl.1.symm) hown w_5 w_6 w_3 w_7 (by decide) (Nat.le_of_ble_eq_true rfl) (by omega) (by omega) dX5_cut_10 ?_
  refine lv_topi (fun v_8 ev_8 => ?_)
  refine va_put (D := E.1) (ci := 6) (v := .int v_8) (ty := .int) (C := RX5) (T := TX5) (N := 2) hx hb hts in_X5 tyX5 tyX5_ok nmX5 hown hK hP hD hS 0 rfl rfl 1 (by decide) w_0 (fun _ h9 => h9) rfl (by decide +kernel) rfl rfl (Nat.le_of_ble_eq_true rfl) dX5_cut_13 (fun H_9 locs_9 hP_9 hD_9 hS_9 => ?_)
  replace hP_9 : va_P E.1 vwCl [(h, .inr (6, [.ref a, .int v_8]))] H_9 := hP_9
  replace hD_9 : va_D A [(h, .inr (6, [.ref a, .int v_8]))] := hD_9
  clear hP hD hS
  have hpost : ((v_8, r.2) : gRow) = F_X5_cut r bytes := (show F_X5_cut r bytes = ((v_8, r.2) : gRow) from (gLet_eq ev_7 (gLet_eq ev_8 rfl))).symm
  have hP9 := hP_9.sub (ws' := [(h, .inr (6, [.ref a, .int v_8]))]) [0] rfl
  have hD9 := hD_9.sub (ws' := [(h, .inr (6, [.ref a, .int v_8]))]) [0] (by decide) rfl
  exact W.vret hx hb hr (fun t ht hW => ⟨⟨(v_8, r.2), rfl, hpost, by rw [ht]; exact hP9, hD9⟩, hS_9.F ht⟩) hS_9.2.2 dX5_cut_16
set_option maxHeartbeats 4000000 in
set_option maxRecDepth 100000 in
theorem k_X5_addSame (E : gE) (l : Launch) (h a : Nat) (n : Nat) (r : gRow) (b : Int32) (times : Int32) (hn : n < 2147483648) : gMv E l yX5_addSame wsX5_addSame ({ frames := 1, cells := 0, slots := 0, locals := 21 }) 0 0 [.ref h, .int b, .int times] [(h, .inr (6, [.ref a, .int r.1])), (a, .inl (E.2.1, n, .inl r.2))] (fun (uu : gRow) => uu = F_X5_addSame n r b times) (fun (uu : gRow) => [(h, .inr (6, [.ref a, .int uu.1])), (a, .inl (E.2.1, n, .inl uu.2))]) := by
  intro sz
  refine Met.ofW (cc := cX5_addSame) (maxL := 4) (ret := none) (by decide) rfl ?_
  intro p e s m args below meth c s₁ B hml hv
  obtain ⟨rfl, hsz, hP, hV, hD0⟩ := hv
  have hx := B.exec
  have hb := B.bytes
  have hr := B.returns
  have hts := atoms_spec (ws := wsX5_addSame) B.pre
  have hown : s.vm.findClass RX5 = some m.cls := findClass_of_methodNamed B.named
  have hlocks := B.notSynchronized
  subst hsz
  have hD := hD0.self (sz := s.heap.size)
  clear hD0
  generalize hAe : va_A [(h, .inr (6, [.ref a, .int r.1])), (a, .inl (E.2.1, n, .inl r.2))] s.heap.size = A at hD hV ⊢
  have hA : ∀ q : Nat, s.heap.size ≤ q → A q := fun q h => by rw [← hAe]; exact Or.inr h
  have hS : va_S A s.heap s.heap [] := va_S.rf
  have hK := hV.1
  have hF : CallFix p m c cX5_addSame 4 s _ wsX5_addSame RX5 := ⟨hx, hb, hml, hown, hts⟩
  have hl := lv_entry [.ref h, .int b, .int times] (n := 4) (Nat.le_of_ble_eq_true rfl)
  rw [lg_entry_eq]
  generalize (lg_sl [.ref h, .int b, .int times] ++ List.replicate (4 - (lg_sl [.ref h, .int b, .int times]).length) Slot.unset).toArray = ls at hl ⊢
  have hl : lv_has ls 4 [(0, .ref h), (1, .int b), (2, .int times)] := hl
  refine lv_iconst (v := 0) hx hb dX5_addSame_0 (by decide) ?_
  refine lv_istore_n (lv' := [(3, .int 0), (0, .ref h), (1, .int b), (2, .int times)]) hx hb dX5_addSame_1 rfl hl (by decide) rfl (fun ls_57 hl_57 => ?_)
  clear hl
  have hcl_76 := g_clamp_lt times
  refine g_up (N := times.toNatClampNeg) (B_X5_addSame_2 n b) (r : gRow) (Inv := fun i_0 z_77 H_0 locs_0 ls_0 => lv_has ls_0 4 [(3, .int (nI i_0)), (0, .ref h), (1, .int b), (2, .int times)] ∧ va_P E.1 vwCl [(h, .inr (6, [.ref a, .int z_77.1])), (a, .inl (E.2.1, n, .inl z_77.2))] H_0 ∧ va_D A [(h, .inr (6, [.ref a, .int z_77.1])), (a, .inl (E.2.1, n, .inl z_77.2))] ∧ va_S A s.heap H_0 locs_0) (G := fun H_0 locs_0 ls_0 => W _ _ _ _ _ _ _ _ _ _ H_0 locs_0 _ _ _ (F0 _ 2 ls_0 [])) ?_ ?_ ⟨lv_sub hl_57 [0, 1, 2, 3] rfl, hP, hD, hS⟩
  · intro j_78 i_78 z_78 H_78 locs_78 ls_78 hij_78 hz_78 hI_78 ih_78
    obtain ⟨hl_78, hP_78, hD_78, hS_78⟩ := hI_78
    replace hl_78 : lv_has ls_78 4 [(3, .int (nI i_78)), (0, .ref h), (1, .int b), (2, .int times)] := hl_78
    replace hP_78 : va_P E.1 vwCl [(h, .inr (6, [.ref a, .int z_78.1])), (a, .inl (E.2.1, n, .inl z_78.2))] H_78 := hP_78
    replace hD_78 : va_D A [(h, .inr (6, [.ref a, .int z_78.1])), (a, .inl (E.2.1, n, .inl z_78.2))] := hD_78
    clear hl_57 hP hD hS
    refine lv_iload_n hx hb dX5_addSame_2 rfl (lv_at hl_78 0 rfl) ?_
    refine lv_iload_n hx hb dX5_addSame_3 rfl (lv_at hl_78 3 rfl) ?_
    refine lv_icmp_ge (tgt := 18) hx hb dX5_addSame_4 (by decide) (fun c_79 => (by have c_79 := (g_rle (by omega)).mp c_79; exfalso; omega)) (fun c_79 => ?_)
    replace c_79 : ¬ times.toNatClampNeg ≤ i_78 := (not_congr (g_rle (by omega))).mp c_79
    refine lv_aload_n hx hb dX5_addSame_7 rfl (lv_at hl_78 1 rfl) ?_
    refine lv_iload_n hx hb dX5_addSame_8 rfl (lv_at hl_78 2 rfl) ?_
    refine gVv hF hl_78 hV hP_78 hD_78 hS_78 hA [0, 1] [] (wc := [(h, .inr (6, [.ref a, .int z_78.1])), (a, .inl (E.2.1, n, .inl z_78.2))]) (wr := []) rfl rfl rfl (by decide) 0 6 rfl rfl rfl (k_X5_add E l h a n z_78 b (by omega)) (cwV 1 hts gX5_addSame_X5_add rfl rfl rfl (by decide +kernel) ⟨Nat.le_of_ble_eq_true rfl, Nat.le_of_ble_eq_true rfl⟩) rfl rfl rfl (Nat.le_of_ble_eq_true rfl) dX5_addSame_9 ⟨Nat.le_of_ble_eq_true rfl, Nat.le_of_ble_eq_true rfl⟩ (fun u_80 H_81 locs_81 hu_80 hP_81 hD_81 hS_81 => ?_)
    replace hu_80 : u_80 = F_X5_add n z_78 b := hu_80
    replace hP_81 : va_P E.1 vwCl [(h, .inr (6, [.ref a, .int u_80.1])), (a, .inl (E.2.1, n, .inl u_80.2))] H_81 := hP_81
    replace hD_81 : va_D A [(h, .inr (6, [.ref a, .int u_80.1])), (a, .inl (E.2.1, n, .inl u_80.2))] := hD_81
    clear hP_78 hD_78 hS_78
    refine lv_iinc (v := (nI (i_78 + 1))) (lv' := [(3, .int (nI (i_78 + 1))), (0, .ref h), (1, .int b), (2, .int times)]) hx hb dX5_addSame_12 hl_78 (k := 0) rfl (nI_add _ 1) (by decide) rfl (fun ls_82 hl_82 => ?_)
    clear hl_78
    refine lv_goto (tgt := 2) hx hb dX5_addSame_15 (by decide) ?_
    exact ih_78 (u_80 : gRow) _ _ _ (((show (B_X5_addSame_2 n b) i_78 z_78 = _ from (gLet_eq hu_80 rfl)).symm.trans (congrArg ((B_X5_addSame_2 n b) i_78) hz_78)).trans (itr_s _ _ _).symm) ⟨lv_sub hl_82 [0, 1, 2, 3] rfl, (hP_81.sub [0, 1] rfl), (hD_81.sub [0, 1] (by decide) rfl), hS_81⟩
  · intro z_83 H_83 locs_83 ls_83 hz_83 hI_83
    obtain ⟨hl_83, hP_83, hD_83, hS_83⟩ := hI_83
    replace hl_83 : lv_has ls_83 4 [(3, .int (nI (times.toNatClampNeg))), (0, .ref h), (1, .int b), (2, .int times)] := hl_83
    replace hP_83 : va_P E.1 vwCl [(h, .inr (6, [.ref a, .int z_83.1])), (a, .inl (E.2.1, n, .inl z_83.2))] H_83 := hP_83
    replace hD_83 : va_D A [(h, .inr (6, [.ref a, .int z_83.1])), (a, .inl (E.2.1, n, .inl z_83.2))] := hD_83
    clear hl_57 hP hD hS
    refine lv_iload_n hx hb dX5_addSame_2 rfl (lv_at hl_83 0 rfl) ?_
    refine lv_iload_n hx hb dX5_addSame_3 rfl (lv_at hl_83 3 rfl) ?_
    refine lv_icmp_ge (tgt := 18) hx hb dX5_addSame_4 (by decide) (fun c_84 => ?_) (fun c_84 => (by have c_84 := (not_congr (g_rle (by omega))).mp c_84; exfalso; omega))
    replace c_84 : times.toNatClampNeg ≤ times.toNatClampNeg := (g_rle (by omega)).mp c_84
    have hpost : (z_83 : gRow) = F_X5_addSame n r b times := (show F_X5_addSame n r b times = (z_83 : gRow) from (gLet_eq hz_83 rfl)).symm
    have hP9 := hP_83.sub (ws' := [(h, .inr (6, [.ref a, .int z_83.1])), (a, .inl (E.2.1, n, .inl z_83.2))]) [0, 1] rfl
    have hD9 := hD_83.sub (ws' := [(h, .inr (6, [.ref a, .int z_83.1])), (a, .inl (E.2.1, n, .inl z_83.2))]) [0, 1] (by decide) rfl
    exact W.vret hx hb hr (fun t ht hW => ⟨⟨z_83, rfl, hpost, by rw [ht]; exact hP9, hD9⟩, hS_83.F ht⟩) hS_83.2.2 dX5_addSame_18
set_option maxHeartbeats 4000000 in
set_option maxRecDepth 100000 in
theorem k_X5_addNumber (E : gE) (l : Launch) (h a : Nat) (n : Nat) (r : gRow) (v : Int32) (bytes : Int32) (hn : n < 2147483648) : gMv E l yX5_addNumber wsX5_addNumber ({ frames := 1, cells := 0, slots := 0, locals := 21 }) 0 0 [.ref h, .int v, .int bytes] [(h, .inr (6, [.ref a, .int r.1])), (a, .inl (E.2.1, n, .inl r.2))] (fun (uu : gRow) => uu = F_X5_addNumber n r v bytes) (fun (uu : gRow) => [(h, .inr (6, [.ref a, .int uu.1])), (a, .inl (E.2.1, n, .inl uu.2))]) := by
  intro sz
  refine Met.ofW (cc := cX5_addNumber) (maxL := 4) (ret := none) (by decide) rfl ?_
  intro p e s m args below meth c s₁ B hml hv
  obtain ⟨rfl, hsz, hP, hV, hD0⟩ := hv
  have hx := B.exec
  have hb := B.bytes
  have hr := B.returns
  have hts := atoms_spec (ws := wsX5_addNumber) B.pre
  have hown : s.vm.findClass RX5 = some m.cls := findClass_of_methodNamed B.named
  have hlocks := B.notSynchronized
  subst hsz
  have hD := hD0.self (sz := s.heap.size)
  clear hD0
  generalize hAe : va_A [(h, .inr (6, [.ref a, .int r.1])), (a, .inl (E.2.1, n, .inl r.2))] s.heap.size = A at hD hV ⊢
  have hA : ∀ q : Nat, s.heap.size ≤ q → A q := fun q h => by rw [← hAe]; exact Or.inr h
  have hS : va_S A s.heap s.heap [] := va_S.rf
  have hK := hV.1
  have hF : CallFix p m c cX5_addNumber 4 s _ wsX5_addNumber RX5 := ⟨hx, hb, hml, hown, hts⟩
  have hl := lv_entry [.ref h, .int v, .int bytes] (n := 4) (Nat.le_of_ble_eq_true rfl)
  rw [lg_entry_eq]
  generalize (lg_sl [.ref h, .int v, .int bytes] ++ List.replicate (4 - (lg_sl [.ref h, .int v, .int bytes]).length) Slot.unset).toArray = ls at hl ⊢
  have hl : lv_has ls 4 [(0, .ref h), (1, .int v), (2, .int bytes)] := hl
  refine lv_iconst (v := 0) hx hb dX5_addNumber_0 (by decide) ?_
  refine lv_istore_n (lv' := [(3, .int 0), (0, .ref h), (1, .int v), (2, .int bytes)]) hx hb dX5_addNumber_1 rfl hl (by decide) rfl (fun ls_65 hl_65 => ?_)
  clear hl
  have hcl_87 := g_clamp_lt bytes
  refine g_up (N := bytes.toNatClampNeg) (B_X5_addNumber_2 n v) (r : gRow) (Inv := fun i_0 z_88 H_0 locs_0 ls_0 => lv_has ls_0 4 [(3, .int (nI i_0)), (0, .ref h), (1, .int v), (2, .int bytes)] ∧ va_P E.1 vwCl [(h, .inr (6, [.ref a, .int z_88.1])), (a, .inl (E.2.1, n, .inl z_88.2))] H_0 ∧ va_D A [(h, .inr (6, [.ref a, .int z_88.1])), (a, .inl (E.2.1, n, .inl z_88.2))] ∧ va_S A s.heap H_0 locs_0) (G := fun H_0 locs_0 ls_0 => W _ _ _ _ _ _ _ _ _ _ H_0 locs_0 _ _ _ (F0 _ 2 ls_0 [])) ?_ ?_ ⟨lv_sub hl_65 [0, 1, 2, 3] rfl, hP, hD, hS⟩
  · intro j_89 i_89 z_89 H_89 locs_89 ls_89 hij_89 hz_89 hI_89 ih_89
    obtain ⟨hl_89, hP_89, hD_89, hS_89⟩ := hI_89
    replace hl_89 : lv_has ls_89 4 [(3, .int (nI i_89)), (0, .ref h), (1, .int v), (2, .int bytes)] := hl_89
    replace hP_89 : va_P E.1 vwCl [(h, .inr (6, [.ref a, .int z_89.1])), (a, .inl (E.2.1, n, .inl z_89.2))] H_89 := hP_89
    replace hD_89 : va_D A [(h, .inr (6, [.ref a, .int z_89.1])), (a, .inl (E.2.1, n, .inl z_89.2))] := hD_89
    clear hl_65 hP hD hS
    refine lv_iload_n hx hb dX5_addNumber_2 rfl (lv_at hl_89 0 rfl) ?_
    refine lv_iload_n hx hb dX5_addNumber_3 rfl (lv_at hl_89 3 rfl) ?_
    refine lv_icmp_ge (tgt := 23) hx hb dX5_addNumber_4 (by decide) (fun c_90 => (by have c_90 := (g_rle (by omega)).mp c_90; exfalso; omega)) (fun c_90 => ?_)
    replace c_90 : ¬ bytes.toNatClampNeg ≤ i_89 := (not_congr (g_rle (by omega))).mp c_90
    refine lv_aload_n hx hb dX5_addNumber_7 rfl (lv_at hl_89 1 rfl) ?_
    refine lv_iload_n hx hb dX5_addNumber_8 rfl (lv_at hl_89 2 rfl) ?_
    refine lv_bipush (v := 8) hx hb dX5_addNumber_9 (by decide) ?_
    refine lv_iload_n hx hb dX5_addNumber_11 rfl (lv_at hl_89 0 rfl) ?_
    refine lv_imul hx hb dX5_addNumber_12 ?_
    refine lv_topi (fun y_91 ey_91 => ?_)
    obtain rfl : y_91 = (nI (8 * i_89)) := ey_91.trans (pk_mul _ _)
    refine lv_iushr (v := g_us v (nI (8 * i_89))) hx hb dX5_addNumber_13 rfl ?_
    refine gVv hF hl_89 hV hP_89 hD_89 hS_89 hA [0, 1] [] (wc := [(h, .inr (6, [.ref a, .int z_89.1])), (a, .inl (E.2.1, n, .inl z_89.2))]) (wr := []) rfl rfl rfl (by decide) 0 6 rfl rfl rfl (k_X5_add E l h a n z_89 (g_us v (nI (8 * i_89))) (by omega)) (cwV 1 hts gX5_addNumber_X5_add rfl rfl rfl (by decide +kernel) ⟨Nat.le_of_ble_eq_true rfl, Nat.le_of_ble_eq_true rfl⟩) rfl rfl rfl (Nat.le_of_ble_eq_true rfl) dX5_addNumber_14 ⟨Nat.le_of_ble_eq_true rfl, Nat.le_of_ble_eq_true rfl⟩ (fun u_92 H_93 locs_93 hu_92 hP_93 hD_93 hS_93 => ?_)
    replace hu_92 : u_92 = F_X5_add n z_89 (g_us v (nI (8 * i_89))) := hu_92
    replace hP_93 : va_P E.1 vwCl [(h, .inr (6, [.ref a, .int u_92.1])), (a, .inl (E.2.1, n, .inl u_92.2))] H_93 := hP_93
    replace hD_93 : va_D A [(h, .inr (6, [.ref a, .int u_92.1])), (a, .inl (E.2.1, n, .inl u_92.2))] := hD_93
    clear hP_89 hD_89 hS_89
    refine lv_iinc (v := (nI (i_89 + 1))) (lv' := [(3, .int (nI (i_89 + 1))), (0, .ref h), (1, .int v), (2, .int bytes)]) hx hb dX5_addNumber_17 hl_89 (k := 0) rfl (nI_add _ 1) (by decide) rfl (fun ls_94 hl_94 => ?_)
    clear hl_89
    refine lv_goto (tgt := 2) hx hb dX5_addNumber_20 (by decide) ?_
    exact ih_89 (u_92 : gRow) _ _ _ (((show (B_X5_addNumber_2 n v) i_89 z_89 = _ from (gLet_eq hu_92 rfl)).symm.trans (congrArg ((B_X5_addNumber_2 n v) i_89) hz_89)).trans (itr_s _ _ _).symm) ⟨lv_sub hl_94 [0, 1, 2, 3] rfl, (hP_93.sub [0, 1] rfl), (hD_93.sub [0, 1] (by decide) rfl), hS_93⟩
  · intro z_95 H_95 locs_95 ls_95 hz_95 hI_95
    obtain ⟨hl_95, hP_95, hD_95, hS_95⟩ := hI_95
    replace hl_95 : lv_has ls_95 4 [(3, .int (nI (bytes.toNatClampNeg))), (0, .ref h), (1, .int v), (2, .int bytes)] := hl_95
    replace hP_95 : va_P E.1 vwCl [(h, .inr (6, [.ref a, .int z_95.1])), (a, .inl (E.2.1, n, .inl z_95.2))] H_95 := hP_95
    replace hD_95 : va_D A [(h, .inr (6, [.ref a, .int z_95.1])), (a, .inl (E.2.1, n, .inl z_95.2))] := hD_95
    clear hl_65 hP hD hS
    refine lv_iload_n hx hb dX5_addNumber_2 rfl (lv_at hl_95 0 rfl) ?_
    refine lv_iload_n hx hb dX5_addNumber_3 rfl (lv_at hl_95 3 rfl) ?_
    refine lv_icmp_ge (tgt := 23) hx hb dX5_addNumber_4 (by decide) (fun c_96 => ?_) (fun c_96 => (by have c_96 := (not_congr (g_rle (by omega))).mp c_96; exfalso; omega))
    replace c_96 : bytes.toNatClampNeg ≤ bytes.toNatClampNeg := (g_rle (by omega)).mp c_96
    have hpost : (z_95 : gRow) = F_X5_addNumber n r v bytes := (show F_X5_addNumber n r v bytes = (z_95 : gRow) from (gLet_eq hz_95 rfl)).symm
    have hP9 := hP_95.sub (ws' := [(h, .inr (6, [.ref a, .int z_95.1])), (a, .inl (E.2.1, n, .inl z_95.2))]) [0, 1] rfl
    have hD9 := hD_95.sub (ws' := [(h, .inr (6, [.ref a, .int z_95.1])), (a, .inl (E.2.1, n, .inl z_95.2))]) [0, 1] (by decide) rfl
    exact W.vret hx hb hr (fun t ht hW => ⟨⟨z_95, rfl, hpost, by rw [ht]; exact hP9, hD9⟩, hS_95.F ht⟩) hS_95.2.2 dX5_addNumber_23
set_option maxHeartbeats 4000000 in
set_option maxRecDepth 100000 in
theorem k_X5_addPart (E : gE) (l : Launch) (h h2 a a2 : Nat) (n : Nat) (n2 : Nat) (r : gRow) (q : gRow) (start : Int32) (bytes : Int32) (hn : n < 2147483648) (hn2 : n2 < 2147483648) : gMv E l yX5_addPart wsX5_addPart ({ frames := 1, cells := 0, slots := 0, locals := 21 }) 0 0 [.ref h, .ref h2, .int start, .int bytes] [(h, .inr (6, [.ref a, .int r.1])), (a, .inl (E.2.1, n, .inl r.2)), (h2, .inr (6, [.ref a2, .int q.1])), (a2, .inl (E.2.1, n2, .inl q.2))] (fun (uu : gRow) => uu = F_X5_addPart n n2 r q start bytes) (fun (uu : gRow) => [(h, .inr (6, [.ref a, .int uu.1])), (a, .inl (E.2.1, n, .inl uu.2)), (h2, .inr (6, [.ref a2, .int q.1])), (a2, .inl (E.2.1, n2, .inl q.2))]) := by
  intro sz
  refine Met.ofW (cc := cX5_addPart) (maxL := 5) (ret := none) (by decide) rfl ?_
  intro p e s m args below meth c s₁ B hml hv
  obtain ⟨rfl, hsz, hP, hV, hD0⟩ := hv
  have hx := B.exec
  have hb := B.bytes
  have hr := B.returns
  have hts := atoms_spec (ws := wsX5_addPart) B.pre
  have hown : s.vm.findClass RX5 = some m.cls := findClass_of_methodNamed B.named
  have hlocks := B.notSynchronized
  subst hsz
  have hD := hD0.self (sz := s.heap.size)
  clear hD0
  generalize hAe : va_A [(h, .inr (6, [.ref a, .int r.1])), (a, .inl (E.2.1, n, .inl r.2)), (h2, .inr (6, [.ref a2, .int q.1])), (a2, .inl (E.2.1, n2, .inl q.2))] s.heap.size = A at hD hV ⊢
  have hA : ∀ q : Nat, s.heap.size ≤ q → A q := fun q h => by rw [← hAe]; exact Or.inr h
  have hS : va_S A s.heap s.heap [] := va_S.rf
  have hK := hV.1
  have hF : CallFix p m c cX5_addPart 5 s _ wsX5_addPart RX5 := ⟨hx, hb, hml, hown, hts⟩
  have hl := lv_entry [.ref h, .ref h2, .int start, .int bytes] (n := 5) (Nat.le_of_ble_eq_true rfl)
  rw [lg_entry_eq]
  generalize (lg_sl [.ref h, .ref h2, .int start, .int bytes] ++ List.replicate (5 - (lg_sl [.ref h, .ref h2, .int start, .int bytes]).length) Slot.unset).toArray = ls at hl ⊢
  have hl : lv_has ls 5 [(0, .ref h), (1, .ref h2), (2, .int start), (3, .int bytes)] := hl
  refine lv_iconst (v := 0) hx hb dX5_addPart_0 (by decide) ?_
  refine lv_istore (lv' := [(4, .int 0), (0, .ref h), (1, .ref h2), (2, .int start), (3, .int bytes)]) hx hb dX5_addPart_1 hl (by decide) rfl (fun ls_73 hl_73 => ?_)
  clear hl
  have hcl_98 := g_clamp_lt bytes
  refine g_up (N := bytes.toNatClampNeg) (B_X5_addPart_3 n2 q start n) (r : gRow) (Inv := fun i_0 z_99 H_0 locs_0 ls_0 => lv_has ls_0 5 [(4, .int (nI i_0)), (0, .ref h), (1, .ref h2), (2, .int start), (3, .int bytes)] ∧ va_P E.1 vwCl [(h, .inr (6, [.ref a, .int z_99.1])), (a, .inl (E.2.1, n, .inl z_99.2)), (h2, .inr (6, [.ref a2, .int q.1])), (a2, .inl (E.2.1, n2, .inl q.2))] H_0 ∧ va_D A [(h, .inr (6, [.ref a, .int z_99.1])), (a, .inl (E.2.1, n, .inl z_99.2)), (h2, .inr (6, [.ref a2, .int q.1])), (a2, .inl (E.2.1, n2, .inl q.2))] ∧ va_S A s.heap H_0 locs_0) (G := fun H_0 locs_0 ls_0 => W _ _ _ _ _ _ _ _ _ _ H_0 locs_0 _ _ _ (F0 _ 3 ls_0 [])) ?_ ?_ ⟨lv_sub hl_73 [0, 1, 2, 3, 4] rfl, hP, hD, hS⟩
  · intro j_100 i_100 z_100 H_100 locs_100 ls_100 hij_100 hz_100 hI_100 ih_100
    obtain ⟨hl_100, hP_100, hD_100, hS_100⟩ := hI_100
    replace hl_100 : lv_has ls_100 5 [(4, .int (nI i_100)), (0, .ref h), (1, .ref h2), (2, .int start), (3, .int bytes)] := hl_100
    replace hP_100 : va_P E.1 vwCl [(h, .inr (6, [.ref a, .int z_100.1])), (a, .inl (E.2.1, n, .inl z_100.2)), (h2, .inr (6, [.ref a2, .int q.1])), (a2, .inl (E.2.1, n2, .inl q.2))] H_100 := hP_100
    replace hD_100 : va_D A [(h, .inr (6, [.ref a, .int z_100.1])), (a, .inl (E.2.1, n, .inl z_100.2)), (h2, .inr (6, [.ref a2, .int q.1])), (a2, .inl (E.2.1, n2, .inl q.2))] := hD_100
    clear hl_73 hP hD hS
    refine lv_iload hx hb dX5_addPart_3 (lv_at hl_100 0 rfl) ?_
    refine lv_iload_n hx hb dX5_addPart_5 rfl (lv_at hl_100 4 rfl) ?_
    refine lv_icmp_ge (tgt := 27) hx hb dX5_addPart_6 (by decide) (fun c_101 => (by have c_101 := (g_rle (by omega)).mp c_101; exfalso; omega)) (fun c_101 => ?_)
    replace c_101 : ¬ bytes.toNatClampNeg ≤ i_100 := (not_congr (g_rle (by omega))).mp c_101
    refine lv_aload_n hx hb dX5_addPart_9 rfl (lv_at hl_100 1 rfl) ?_
    refine lv_aload_n hx hb dX5_addPart_10 rfl (lv_at hl_100 2 rfl) ?_
    refine lv_iload_n hx hb dX5_addPart_11 rfl (lv_at hl_100 3 rfl) ?_
    refine lv_iload hx hb dX5_addPart_12 (lv_at hl_100 0 rfl) ?_
    refine lv_iadd hx hb dX5_addPart_14 ?_
    refine gVi hF hl_100 hV hP_100 hD_100 hS_100 hA [2, 3] [0, 1] (wc := [(h2, .inr (6, [.ref a2, .int q.1])), (a2, .inl (E.2.1, n2, .inl q.2))]) (wr := [(h, .inr (6, [.ref a, .int z_100.1])), (a, .inl (E.2.1, n, .inl z_100.2))]) rfl rfl rfl (by decide) 0 6 rfl rfl rfl (k_X5_at E l h2 a2 n2 q (start + (nI i_100)) (by omega)) (cwV 1 hts gX5_addPart_X5_at rfl rfl rfl (by decide +kernel) ⟨Nat.le_of_ble_eq_true rfl, Nat.le_of_ble_eq_true rfl⟩) rfl rfl rfl (Nat.le_of_ble_eq_true rfl) dX5_addPart_15 ⟨Nat.le_of_ble_eq_true rfl, Nat.le_of_ble_eq_true rfl⟩ (fun r_102 _ H_103 locs_103 hu_102 hP_103 hD_103 hS_103 => ?_)
    have er_102 : r_102 = F_X5_at n2 q (start + (nI i_100)) := hu_102
    clear hu_102
    replace hP_103 : va_P E.1 vwCl [(h, .inr (6, [.ref a, .int z_100.1])), (a, .inl (E.2.1, n, .inl z_100.2)), (h2, .inr (6, [.ref a2, .int q.1])), (a2, .inl (E.2.1, n2, .inl q.2))] H_103 := hP_103
    replace hD_103 : va_D A [(h, .inr (6, [.ref a, .int z_100.1])), (a, .inl (E.2.1, n, .inl z_100.2)), (h2, .inr (6, [.ref a2, .int q.1])), (a2, .inl (E.2.1, n2, .inl q.2))] := hD_103
    clear hP_100 hD_100 hS_100
    refine gVv hF hl_100 hV hP_103 hD_103 hS_103 hA [0, 1] [2, 3] (wc := [(h, .inr (6, [.ref a, .int z_100.1])), (a, .inl (E.2.1, n, .inl z_100.2))]) (wr := [(h2, .inr (6, [.ref a2, .int q.1])), (a2, .inl (E.2.1, n2, .inl q.2))]) rfl rfl rfl (by decide) 0 6 rfl rfl rfl (k_X5_add E l h a n z_100 r_102 (by omega)) (cwV 1 hts gX5_addPart_X5_add rfl rfl rfl (by decide +kernel) ⟨Nat.le_of_ble_eq_true rfl, Nat.le_of_ble_eq_true rfl⟩) rfl rfl rfl (Nat.le_of_ble_eq_true rfl) dX5_addPart_18 ⟨Nat.le_of_ble_eq_true rfl, Nat.le_of_ble_eq_true rfl⟩ (fun u_104 H_105 locs_105 hu_104 hP_105 hD_105 hS_105 => ?_)
    replace hu_104 : u_104 = F_X5_add n z_100 r_102 := hu_104
    replace hP_105 : va_P E.1 vwCl [(h2, .inr (6, [.ref a2, .int q.1])), (a2, .inl (E.2.1, n2, .inl q.2)), (h, .inr (6, [.ref a, .int u_104.1])), (a, .inl (E.2.1, n, .inl u_104.2))] H_105 := hP_105
    replace hD_105 : va_D A [(h2, .inr (6, [.ref a2, .int q.1])), (a2, .inl (E.2.1, n2, .inl q.2)), (h, .inr (6, [.ref a, .int u_104.1])), (a, .inl (E.2.1, n, .inl u_104.2))] := hD_105
    clear hP_103 hD_103 hS_103
    refine lv_iinc (v := (nI (i_100 + 1))) (lv' := [(4, .int (nI (i_100 + 1))), (0, .ref h), (1, .ref h2), (2, .int start), (3, .int bytes)]) hx hb dX5_addPart_21 hl_100 (k := 0) rfl (nI_add _ 1) (by decide) rfl (fun ls_106 hl_106 => ?_)
    clear hl_100
    refine lv_goto (tgt := 3) hx hb dX5_addPart_24 (by decide) ?_
    exact ih_100 (u_104 : gRow) _ _ _ (((show (B_X5_addPart_3 n2 q start n) i_100 z_100 = _ from (gLet_eq er_102 (gLet_eq hu_104 rfl))).symm.trans (congrArg ((B_X5_addPart_3 n2 q start n) i_100) hz_100)).trans (itr_s _ _ _).symm) ⟨lv_sub hl_106 [0, 1, 2, 3, 4] rfl, (hP_105.sub [2, 3, 0, 1] rfl), (hD_105.sub [2, 3, 0, 1] (by decide) rfl), hS_105⟩
  · intro z_107 H_107 locs_107 ls_107 hz_107 hI_107
    obtain ⟨hl_107, hP_107, hD_107, hS_107⟩ := hI_107
    replace hl_107 : lv_has ls_107 5 [(4, .int (nI (bytes.toNatClampNeg))), (0, .ref h), (1, .ref h2), (2, .int start), (3, .int bytes)] := hl_107
    replace hP_107 : va_P E.1 vwCl [(h, .inr (6, [.ref a, .int z_107.1])), (a, .inl (E.2.1, n, .inl z_107.2)), (h2, .inr (6, [.ref a2, .int q.1])), (a2, .inl (E.2.1, n2, .inl q.2))] H_107 := hP_107
    replace hD_107 : va_D A [(h, .inr (6, [.ref a, .int z_107.1])), (a, .inl (E.2.1, n, .inl z_107.2)), (h2, .inr (6, [.ref a2, .int q.1])), (a2, .inl (E.2.1, n2, .inl q.2))] := hD_107
    clear hl_73 hP hD hS
    refine lv_iload hx hb dX5_addPart_3 (lv_at hl_107 0 rfl) ?_
    refine lv_iload_n hx hb dX5_addPart_5 rfl (lv_at hl_107 4 rfl) ?_
    refine lv_icmp_ge (tgt := 27) hx hb dX5_addPart_6 (by decide) (fun c_108 => ?_) (fun c_108 => (by have c_108 := (not_congr (g_rle (by omega))).mp c_108; exfalso; omega))
    replace c_108 : bytes.toNatClampNeg ≤ bytes.toNatClampNeg := (g_rle (by omega)).mp c_108
    have hpost : (z_107 : gRow) = F_X5_addPart n n2 r q start bytes := (show F_X5_addPart n n2 r q start bytes = (z_107 : gRow) from (gLet_eq hz_107 rfl)).symm
    have hP9 := hP_107.sub (ws' := [(h, .inr (6, [.ref a, .int z_107.1])), (a, .inl (E.2.1, n, .inl z_107.2)), (h2, .inr (6, [.ref a2, .int q.1])), (a2, .inl (E.2.1, n2, .inl q.2))]) [0, 1, 2, 3] rfl
    have hD9 := hD_107.sub (ws' := [(h, .inr (6, [.ref a, .int z_107.1])), (a, .inl (E.2.1, n, .inl z_107.2)), (h2, .inr (6, [.ref a2, .int q.1])), (a2, .inl (E.2.1, n2, .inl q.2))]) [0, 1, 2, 3] (by decide) rfl
    exact W.vret hx hb hr (fun t ht hW => ⟨⟨z_107, rfl, hpost, by rw [ht]; exact hP9, hD9⟩, hS_107.F ht⟩) hS_107.2.2 dX5_addPart_27
set_option maxHeartbeats 4000000 in
set_option maxRecDepth 100000 in
theorem k_X5_addAll (E : gE) (l : Launch) (h h2 a a2 : Nat) (n : Nat) (n2 : Nat) (r : gRow) (q : gRow) (hn : n < 2147483648) (hn2 : n2 < 2147483648) : gMv E l yX5_addAll wsX5_addAll ({ frames := 2, cells := 0, slots := 0, locals := 45 }) 0 0 [.ref h, .ref h2] [(h, .inr (6, [.ref a, .int r.1])), (a, .inl (E.2.1, n, .inl r.2)), (h2, .inr (6, [.ref a2, .int q.1])), (a2, .inl (E.2.1, n2, .inl q.2))] (fun (uu : gRow) => uu = F_X5_addAll n n2 r q) (fun (uu : gRow) => [(h, .inr (6, [.ref a, .int uu.1])), (a, .inl (E.2.1, n, .inl uu.2)), (h2, .inr (6, [.ref a2, .int q.1])), (a2, .inl (E.2.1, n2, .inl q.2))]) := by
  intro sz
  refine Met.ofW (cc := cX5_addAll) (maxL := 2) (ret := none) (by decide) rfl ?_
  intro p e s m args below meth c s₁ B hml hv
  obtain ⟨rfl, hsz, hP, hV, hD0⟩ := hv
  have hx := B.exec
  have hb := B.bytes
  have hr := B.returns
  have hts := atoms_spec (ws := wsX5_addAll) B.pre
  have hown : s.vm.findClass RX5 = some m.cls := findClass_of_methodNamed B.named
  have hlocks := B.notSynchronized
  subst hsz
  have hD := hD0.self (sz := s.heap.size)
  clear hD0
  generalize hAe : va_A [(h, .inr (6, [.ref a, .int r.1])), (a, .inl (E.2.1, n, .inl r.2)), (h2, .inr (6, [.ref a2, .int q.1])), (a2, .inl (E.2.1, n2, .inl q.2))] s.heap.size = A at hD hV ⊢
  have hA : ∀ q : Nat, s.heap.size ≤ q → A q := fun q h => by rw [← hAe]; exact Or.inr h
  have hS : va_S A s.heap s.heap [] := va_S.rf
  have hK := hV.1
  have hF : CallFix p m c cX5_addAll 2 s _ wsX5_addAll RX5 := ⟨hx, hb, hml, hown, hts⟩
  have hl := lv_entry [.ref h, .ref h2] (n := 2) (Nat.le_of_ble_eq_true rfl)
  rw [lg_entry_eq]
  generalize (lg_sl [.ref h, .ref h2] ++ List.replicate (2 - (lg_sl [.ref h, .ref h2]).length) Slot.unset).toArray = ls at hl ⊢
  have hl : lv_has ls 2 [(0, .ref h), (1, .ref h2)] := hl
  refine lv_aload_n hx hb dX5_addAll_0 rfl (lv_at hl 0 rfl) ?_
  refine lv_aload_n hx hb dX5_addAll_1 rfl (lv_at hl 1 rfl) ?_
  refine lv_iconst (v := 0) hx hb dX5_addAll_2 (by decide) ?_
  refine lv_aload_n hx hb dX5_addAll_3 rfl (lv_at hl 1 rfl) ?_
  refine gVi hF hl hV hP hD hS hA [2] [0, 1, 3] (wc := [(h2, .inr (6, [.ref a2, .int q.1]))]) (wr := [(h, .inr (6, [.ref a, .int r.1])), (a, .inl (E.2.1, n, .inl r.2)), (a2, .inl (E.2.1, n2, .inl q.2))]) rfl rfl rfl (by decide) 0 6 rfl rfl rfl (k_X5_count E l h2 a2 q) (cwV 0 hts gX5_addAll_X5_count rfl rfl rfl (by decide +kernel) ⟨Nat.le_of_ble_eq_true rfl, Nat.le_of_ble_eq_true rfl⟩) rfl rfl rfl (Nat.le_of_ble_eq_true rfl) dX5_addAll_4 ⟨Nat.le_of_ble_eq_true rfl, Nat.le_of_ble_eq_true rfl⟩ (fun r_9 _ H_10 locs_10 hu_9 hP_10 hD_10 hS_10 => ?_)
  have er_9 : r_9 = F_X5_count q := hu_9
  clear hu_9
  replace hP_10 : va_P E.1 vwCl [(h, .inr (6, [.ref a, .int r.1])), (a, .inl (E.2.1, n, .inl r.2)), (a2, .inl (E.2.1, n2, .inl q.2)), (h2, .inr (6, [.ref a2, .int q.1]))] H_10 := hP_10
  replace hD_10 : va_D A [(h, .inr (6, [.ref a, .int r.1])), (a, .inl (E.2.1, n, .inl r.2)), (a2, .inl (E.2.1, n2, .inl q.2)), (h2, .inr (6, [.ref a2, .int q.1]))] := hD_10
  clear hP hD hS
  refine gVv hF hl hV hP_10 hD_10 hS_10 hA [0, 1, 3, 2] [] (wc := [(h, .inr (6, [.ref a, .int r.1])), (a, .inl (E.2.1, n, .inl r.2)), (h2, .inr (6, [.ref a2, .int q.1])), (a2, .inl (E.2.1, n2, .inl q.2))]) (wr := []) rfl rfl rfl (by decide) 0 6 rfl rfl rfl (k_X5_addPart E l h h2 a a2 n n2 r q 0 r_9 (by omega) (by omega)) (cwV 3 hts gX5_addAll_X5_addPart rfl rfl rfl (by decide +kernel) ⟨Nat.le_of_ble_eq_true rfl, Nat.le_of_ble_eq_true rfl⟩) rfl rfl rfl (Nat.le_of_ble_eq_true rfl) dX5_addAll_7 ⟨Nat.le_of_ble_eq_true rfl, Nat.le_of_ble_eq_true rfl⟩ (fun u_11 H_12 locs_12 hu_11 hP_12 hD_12 hS_12 => ?_)
  replace hu_11 : u_11 = F_X5_addPart n n2 r q 0 r_9 := hu_11
  replace hP_12 : va_P E.1 vwCl [(h, .inr (6, [.ref a, .int u_11.1])), (a, .inl (E.2.1, n, .inl u_11.2)), (h2, .inr (6, [.ref a2, .int q.1])), (a2, .inl (E.2.1, n2, .inl q.2))] H_12 := hP_12
  replace hD_12 : va_D A [(h, .inr (6, [.ref a, .int u_11.1])), (a, .inl (E.2.1, n, .inl u_11.2)), (h2, .inr (6, [.ref a2, .int q.1])), (a2, .inl (E.2.1, n2, .inl q.2))] := hD_12
  clear hP_10 hD_10 hS_10
  have hpost : (u_11 : gRow) = F_X5_addAll n n2 r q := (show F_X5_addAll n n2 r q = (u_11 : gRow) from (gLet_eq er_9 (gLet_eq hu_11 rfl))).symm
  have hP9 := hP_12.sub (ws' := [(h, .inr (6, [.ref a, .int u_11.1])), (a, .inl (E.2.1, n, .inl u_11.2)), (h2, .inr (6, [.ref a2, .int q.1])), (a2, .inl (E.2.1, n2, .inl q.2))]) [0, 1, 2, 3] rfl
  have hD9 := hD_12.sub (ws' := [(h, .inr (6, [.ref a, .int u_11.1])), (a, .inl (E.2.1, n, .inl u_11.2)), (h2, .inr (6, [.ref a2, .int q.1])), (a2, .inl (E.2.1, n2, .inl q.2))]) [0, 1, 2, 3] (by decide) rfl
  exact W.vret hx hb hr (fun t ht hW => ⟨⟨u_11, rfl, hpost, by rw [ht]; exact hP9, hD9⟩, hS_12.F ht⟩) hS_12.2.2 dX5_addAll_10
set_option maxHeartbeats 4000000 in
set_option maxRecDepth 100000 in
theorem k_X5_copy (E : gE) (l : Launch) (h h2 a a2 : Nat) (n : Nat) (n2 : Nat) (r : gRow) (q : gRow) (hn : n < 2147483648) (hn2 : n2 < 2147483648) : gMv E l yX5_copy wsX5_copy ({ frames := 2, cells := 0, slots := 0, locals := 45 }) 0 0 [.ref h, .ref h2] [(h, .inr (6, [.ref a, .int r.1])), (a, .inl (E.2.1, n, .inl r.2)), (h2, .inr (6, [.ref a2, .int q.1])), (a2, .inl (E.2.1, n2, .inl q.2))] (fun (uu : gRow) => uu = F_X5_copy n n2 r q) (fun (uu : gRow) => [(h, .inr (6, [.ref a, .int uu.1])), (a, .inl (E.2.1, n, .inl uu.2)), (h2, .inr (6, [.ref a2, .int q.1])), (a2, .inl (E.2.1, n2, .inl q.2))]) := by
  intro sz
  refine Met.ofW (cc := cX5_copy) (maxL := 2) (ret := none) (by decide) rfl ?_
  intro p e s m args below meth c s₁ B hml hv
  obtain ⟨rfl, hsz, hP, hV, hD0⟩ := hv
  have hx := B.exec
  have hb := B.bytes
  have hr := B.returns
  have hts := atoms_spec (ws := wsX5_copy) B.pre
  have hown : s.vm.findClass RX5 = some m.cls := findClass_of_methodNamed B.named
  have hlocks := B.notSynchronized
  subst hsz
  have hD := hD0.self (sz := s.heap.size)
  clear hD0
  generalize hAe : va_A [(h, .inr (6, [.ref a, .int r.1])), (a, .inl (E.2.1, n, .inl r.2)), (h2, .inr (6, [.ref a2, .int q.1])), (a2, .inl (E.2.1, n2, .inl q.2))] s.heap.size = A at hD hV ⊢
  have hA : ∀ q : Nat, s.heap.size ≤ q → A q := fun q h => by rw [← hAe]; exact Or.inr h
  have hS : va_S A s.heap s.heap [] := va_S.rf
  have hK := hV.1
  have hF : CallFix p m c cX5_copy 2 s _ wsX5_copy RX5 := ⟨hx, hb, hml, hown, hts⟩
  have hl := lv_entry [.ref h, .ref h2] (n := 2) (Nat.le_of_ble_eq_true rfl)
  rw [lg_entry_eq]
  generalize (lg_sl [.ref h, .ref h2] ++ List.replicate (2 - (lg_sl [.ref h, .ref h2]).length) Slot.unset).toArray = ls at hl ⊢
  have hl : lv_has ls 2 [(0, .ref h), (1, .ref h2)] := hl
  refine lv_aload_n hx hb dX5_copy_0 rfl (lv_at hl 0 rfl) ?_
  refine gVv hF hl hV hP hD hS hA [0] [1, 2, 3] (wc := [(h, .inr (6, [.ref a, .int r.1]))]) (wr := [(a, .inl (E.2.1, n, .inl r.2)), (h2, .inr (6, [.ref a2, .int q.1])), (a2, .inl (E.2.1, n2, .inl q.2))]) rfl rfl rfl (by decide) 0 6 rfl rfl rfl (k_X5_clear E l h a r) (cwV 0 hts gX5_copy_X5_clear rfl rfl rfl (by decide +kernel) ⟨Nat.le_of_ble_eq_true rfl, Nat.le_of_ble_eq_true rfl⟩) rfl rfl rfl (Nat.le_of_ble_eq_true rfl) dX5_copy_1 ⟨Nat.le_of_ble_eq_true rfl, Nat.le_of_ble_eq_true rfl⟩ (fun u_13 H_14 locs_14 hu_13 hP_14 hD_14 hS_14 => ?_)
  replace hu_13 : u_13 = F_X5_clear r := hu_13
  replace hP_14 : va_P E.1 vwCl [(a, .inl (E.2.1, n, .inl r.2)), (h2, .inr (6, [.ref a2, .int q.1])), (a2, .inl (E.2.1, n2, .inl q.2)), (h, .inr (6, [.ref a, .int u_13.1]))] H_14 := hP_14
  replace hD_14 : va_D A [(a, .inl (E.2.1, n, .inl r.2)), (h2, .inr (6, [.ref a2, .int q.1])), (a2, .inl (E.2.1, n2, .inl q.2)), (h, .inr (6, [.ref a, .int u_13.1]))] := hD_14
  clear hP hD hS
  refine lv_aload_n hx hb dX5_copy_4 rfl (lv_at hl 0 rfl) ?_
  refine lv_aload_n hx hb dX5_copy_5 rfl (lv_at hl 1 rfl) ?_
  refine lv_iconst (v := 0) hx hb dX5_copy_6 (by decide) ?_
  refine lv_aload_n hx hb dX5_copy_7 rfl (lv_at hl 1 rfl) ?_
  refine gVi hF hl hV hP_14 hD_14 hS_14 hA [1] [0, 2, 3] (wc := [(h2, .inr (6, [.ref a2, .int q.1]))]) (wr := [(a, .inl (E.2.1, n, .inl r.2)), (a2, .inl (E.2.1, n2, .inl q.2)), (h, .inr (6, [.ref a, .int u_13.1]))]) rfl rfl rfl (by decide) 0 6 rfl rfl rfl (k_X5_count E l h2 a2 q) (cwV 0 hts gX5_copy_X5_count rfl rfl rfl (by decide +kernel) ⟨Nat.le_of_ble_eq_true rfl, Nat.le_of_ble_eq_true rfl⟩) rfl rfl rfl (Nat.le_of_ble_eq_true rfl) dX5_copy_8 ⟨Nat.le_of_ble_eq_true rfl, Nat.le_of_ble_eq_true rfl⟩ (fun r_15 _ H_16 locs_16 hu_15 hP_16 hD_16 hS_16 => ?_)
  have er_15 : r_15 = F_X5_count q := hu_15
  clear hu_15
  replace hP_16 : va_P E.1 vwCl [(a, .inl (E.2.1, n, .inl r.2)), (a2, .inl (E.2.1, n2, .inl q.2)), (h, .inr (6, [.ref a, .int u_13.1])), (h2, .inr (6, [.ref a2, .int q.1]))] H_16 := hP_16
  replace hD_16 : va_D A [(a, .inl (E.2.1, n, .inl r.2)), (a2, .inl (E.2.1, n2, .inl q.2)), (h, .inr (6, [.ref a, .int u_13.1])), (h2, .inr (6, [.ref a2, .int q.1]))] := hD_16
  clear hP_14 hD_14 hS_14
  refine gVv hF hl hV hP_16 hD_16 hS_16 hA [2, 0, 3, 1] [] (wc := [(h, .inr (6, [.ref a, .int u_13.1])), (a, .inl (E.2.1, n, .inl r.2)), (h2, .inr (6, [.ref a2, .int q.1])), (a2, .inl (E.2.1, n2, .inl q.2))]) (wr := []) rfl rfl rfl (by decide) 0 6 rfl rfl rfl (k_X5_addPart E l h h2 a a2 n n2 (u_13.1, r.2) q 0 r_15 (by omega) (by omega)) (cwV 3 hts gX5_copy_X5_addPart rfl rfl rfl (by decide +kernel) ⟨Nat.le_of_ble_eq_true rfl, Nat.le_of_ble_eq_true rfl⟩) rfl rfl rfl (Nat.le_of_ble_eq_true rfl) dX5_copy_11 ⟨Nat.le_of_ble_eq_true rfl, Nat.le_of_ble_eq_true rfl⟩ (fun u_17 H_18 locs_18 hu_17 hP_18 hD_18 hS_18 => ?_)
  replace hu_17 : u_17 = F_X5_addPart n n2 (u_13.1, r.2) q 0 r_15 := hu_17
  replace hP_18 : va_P E.1 vwCl [(h, .inr (6, [.ref a, .int u_17.1])), (a, .inl (E.2.1, n, .inl u_17.2)), (h2, .inr (6, [.ref a2, .int q.1])), (a2, .inl (E.2.1, n2, .inl q.2))] H_18 := hP_18
  replace hD_18 : va_D A [(h, .inr (6, [.ref a, .int u_17.1])), (a, .inl (E.2.1, n, .inl u_17.2)), (h2, .inr (6, [.ref a2, .int q.1])), (a2, .inl (E.2.1, n2, .inl q.2))] := hD_18
  clear hP_16 hD_16 hS_16
  have hpost : (u_17 : gRow) = F_X5_copy n n2 r q := (show F_X5_copy n n2 r q = (u_17 : gRow) from (gLet_eq hu_13 (gLet_eq er_15 (gLet_eq hu_17 rfl)))).symm
  have hP9 := hP_18.sub (ws' := [(h, .inr (6, [.ref a, .int u_17.1])), (a, .inl (E.2.1, n, .inl u_17.2)), (h2, .inr (6, [.ref a2, .int q.1])), (a2, .inl (E.2.1, n2, .inl q.2))]) [0, 1, 2, 3] rfl
  have hD9 := hD_18.sub (ws' := [(h, .inr (6, [.ref a, .int u_17.1])), (a, .inl (E.2.1, n, .inl u_17.2)), (h2, .inr (6, [.ref a2, .int q.1])), (a2, .inl (E.2.1, n2, .inl q.2))]) [0, 1, 2, 3] (by decide) rfl
  exact W.vret hx hb hr (fun t ht hW => ⟨⟨u_17, rfl, hpost, by rw [ht]; exact hP9, hD9⟩, hS_18.F ht⟩) hS_18.2.2 dX5_copy_14
