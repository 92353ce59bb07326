theorem g_cellBlind {b L sz : Nat} {xs : Nat → Int32} : FrameBlind (va_Pc [.ref b, .int 0] (fun U => U.heap.size = sz ∧ b < sz ∧ va_X b L xs U U.heap)) := by
  intro a U g mk q
  obtain ⟨q0, q1, q2, q3⟩ := q
  exact ⟨q0, q1, q2, va_X.moved (u := U) (U := U.calling g mk a) (Vm.Alike.refl U.vm) q3⟩
theorem k_L_cell0 (l : Launch) (b L : Nat) (xs : Nat → Int32) (hlen : L ≤ 257) (sz : Nat) : Met l yL_cell wsL_cell ({ frames := 0, cells := 0, slots := 0, locals := 0 }) (va_Pc [.ref b, .int 0] (fun U => U.heap.size = sz ∧ b < sz ∧ va_X b L xs U U.heap)) (va_Qi (fun (rr : Int32) (_ : Unit) => rr = (if L = 0 then 0 else xs 0)) (fun _ _ => True) (fun q => sz ≤ q)) 0 0 (fun q => sz ≤ q) := by
  refine Met.ofW (cc := cL_cell) (maxL := 2) (ret := (some .int)) (by decide) rfl ?_
  intro p e s m args below meth c s₁ B hml hv
  obtain ⟨rfl, hsz, hbs, hXb⟩ := hv
  have hx := B.exec
  have hb := B.bytes
  have hr := B.returns
  subst hsz
  have hS : va_S (fun q => s.heap.size ≤ q) s.heap s.heap [] := va_S.rf
  have hbA : ¬ (fun q => s.heap.size ≤ q) b := Nat.not_le.mpr hbs
  have hl := lv_entry [.ref b, .int 0] (n := 2) (Nat.le_of_ble_eq_true rfl)
  rw [lg_entry_eq]
  generalize (lg_sl [.ref b, .int 0] ++ List.replicate (2 - (lg_sl [.ref b, .int 0]).length) Slot.unset).toArray = ls at hl ⊢
  have hl : lv_has ls 2 [(0, .ref b), (1, .int 0)] := hl
  refine lv_iload_n hx hb dL_cell_0 rfl (lv_at hl 1 rfl) ?_
  refine lv_aload_n hx hb dL_cell_1 rfl (lv_at hl 0 rfl) ?_
  refine va_slen hx hb hXb hbs hbA hS dL_cell_2 ?_
  refine lv_icmp_ge (tgt := 12) hx hb dL_cell_3 (by decide) (fun hc => ?_) (fun hc => ?_)
  · have h0 : L = 0 := by
      rcases Nat.eq_zero_or_pos L with h | h
      · exact h
      · exact absurd hc (nI_ge (a := 0) h (by omega))
    refine lv_iconst (v := 0) hx hb dL_cell_12 (by decide) ?_
    exact W.iret (v := 0) hx hb hr (fun t ht hW => ⟨⟨0, (), rfl, (if_pos h0).symm, trivial⟩, hS.F ht⟩) hS.2.2 dL_cell_13
  · have h0 : ¬ L = 0 := by
      intro h
      exact hc (by rw [h]; exact nI_le (a := 0) (b := 0) (Nat.le_refl 0) (by decide))
    refine lv_aload_n hx hb dL_cell_6 rfl (lv_at hl 0 rfl) ?_
    refine lv_iload_n hx hb dL_cell_7 rfl (lv_at hl 1 rfl) ?_
    refine va_sld hx hb hXb hbs hbA hS (i := 0) (vp_in_nI (n := 0) (N := L) (by omega) (by omega)) dL_cell_8 ?_
    refine lv_goto (tgt := 13) hx hb dL_cell_9 (by decide) ?_
    exact W.iret (v := xs 0) hx hb hr (fun t ht hW => ⟨⟨xs 0, (), rfl, (if_neg h0).symm, trivial⟩, hS.F ht⟩) hS.2.2 dL_cell_13
theorem gK_long {D : va_G} {E : gE} {cA cL : ClassId} {s : State} (hL : va_K E.1 vwCl (gTys E ++ [(cL, .long)]) s) (h : va_K D vwCl (gTys E ++ [(cA, .long)]) s) : cA = cL := by
  have h3 : s.vm.findClass ("[" ++ (FieldType.long).toString) = some cL := (hL.2 2 _ rfl).2
  have h4 : s.vm.findClass ("[" ++ (FieldType.long).toString) = some cA := (h.2 2 _ rfl).2
  exact Option.some.inj (h4.symm.trans h3)
