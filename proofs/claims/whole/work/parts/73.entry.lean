/-! from the law's entry: the classes, the tables, the words of what throws -/
theorem g_arrI {args : Array Value} {s : State} (h : (Cond.arrayClass .int).before args s = true) : ∃ cA, ArrOfT s cA .int ∧ va_RA s cA .int := by
  obtain ⟨c, k, comp, h1, h2, h3⟩ := Cond.arrayClass_spec h
  exact ⟨c, fun n z => ⟨fun k h => (by cases h), k, h2, comp, h3⟩, h1⟩
theorem g_arrL {args : Array Value} {s : State} (h : (Cond.arrayClass .long).before args s = true) : ∃ cA, ArrOfT s cA .long ∧ va_RA s cA .long := by
  obtain ⟨c, k, comp, h1, h2, h3⟩ := Cond.arrayClass_spec h
  exact ⟨c, fun n z => ⟨fun k h => (by cases h), k, h2, comp, h3⟩, h1⟩
theorem g_arrR {s : State} (h : va_AO RX5 s) : ∃ cA, ArrOfT s cA (.object RX5) ∧ va_RA s cA (.object RX5) := by
  obtain ⟨comp, c, k, f1, f2, f3, f4, f5⟩ := Cond.arrayOver_spec h
  exact ⟨c, fun n z => ⟨fun k h => (by cases h), k, f3, comp, f4⟩, k, comp, f3, f4, f1, f5⟩
theorem g_classes {args : Array Value} {s : State} (hts : ∀ w ∈ lw_tbl, w.before args s = true) : ∃ D : va_G, ∀ (k : Nat) (q : vw_C), vwCl[k]? = some q → u_Kn s q.1 q.2.1 q.2.2 (D.1 k) (D.2 k) := by
  obtain ⟨c0, i0, h0⟩ := u_known (C := RJ0) (T := TJ0) (N := 2) (n := 4) hts inJ0 (hts (.instantiable RJ0 4) (by decide +kernel))
  obtain ⟨c1, i1, h1⟩ := u_known (C := RJx00060) (T := TJx00060) (N := 6) (n := 6) hts inJx00060 (hts (.instantiable RJx00060 6) (by decide +kernel))
  obtain ⟨c2, i2, h2⟩ := u_known (C := RX0) (T := TX0) (N := 5) (n := 5) hts inX0 (hts (.instantiable RX0 5) (by decide +kernel))
  obtain ⟨c3, i3, h3⟩ := u_known (C := RX1) (T := TX1) (N := 4) (n := 4) hts inX1 (hts (.instantiable RX1 4) (by decide +kernel))
  obtain ⟨c4, i4, h4⟩ := u_known (C := RX2) (T := TX2) (N := 2) (n := 2) hts inX2 (hts (.instantiable RX2 2) (by decide +kernel))
  obtain ⟨c5, i5, h5⟩ := u_known (C := RX3) (T := TX3) (N := 3) (n := 3) hts inX3 (hts (.instantiable RX3 3) (by decide +kernel))
  obtain ⟨c6, i6, h6⟩ := u_known (C := RX5) (T := TX5) (N := 2) (n := 2) hts inX5 (hts (.instantiable RX5 2) (by decide +kernel))
  obtain ⟨c7, i7, h7⟩ := u_known (C := RX6) (T := TX6) (N := 2) (n := 2) hts inX6 (hts (.instantiable RX6 2) (by decide +kernel))
  obtain ⟨c8, i8, h8⟩ := u_known (C := RX7) (T := TX7) (N := 1) (n := 1) hts inX7 (hts (.instantiable RX7 1) (by decide +kernel))
  obtain ⟨c9, i9, h9⟩ := u_known (C := RX8) (T := TX8) (N := 6) (n := 6) hts inX8 (hts (.instantiable RX8 6) (by decide +kernel))
  obtain ⟨c10, i10, h10⟩ := u_known (C := RX9) (T := TX9) (N := 12) (n := 12) hts inX9 (hts (.instantiable RX9 12) (by decide +kernel))
  obtain ⟨c11, i11, h11⟩ := u_known (C := RX10) (T := TX10) (N := 8) (n := 8) hts inX10 (hts (.instantiable RX10 8) (by decide +kernel))
  obtain ⟨c12, i12, h12⟩ := u_known (C := RX11) (T := TX11) (N := 45) (n := 45) hts inX11 (hts (.instantiable RX11 45) (by decide +kernel))
  refine ⟨(fun k => match k with | 0 => c0 | 1 => c1 | 2 => c2 | 3 => c3 | 4 => c4 | 5 => c5 | 6 => c6 | 7 => c7 | 8 => c8 | 9 => c9 | 10 => c10 | 11 => c11 | _ => c12, fun k => match k with | 0 => i0 | 1 => i1 | 2 => i2 | 3 => i3 | 4 => i4 | 5 => i5 | 6 => i6 | 7 => i7 | 8 => i8 | 9 => i9 | 10 => i10 | 11 => i11 | _ => i12), fun k q hq => ?_⟩
  match k, hq with
  | 0, hq => cases hq; exact h0
  | 1, hq => cases hq; exact h1
  | 2, hq => cases hq; exact h2
  | 3, hq => cases hq; exact h3
  | 4, hq => cases hq; exact h4
  | 5, hq => cases hq; exact h5
  | 6, hq => cases hq; exact h6
  | 7, hq => cases hq; exact h7
  | 8, hq => cases hq; exact h8
  | 9, hq => cases hq; exact h9
  | 10, hq => cases hq; exact h10
  | 11, hq => cases hq; exact h11
  | 12, hq => cases hq; exact h12
  | k + 13, hq => simp [vwCl] at hq
set_option maxRecDepth 20000 in
theorem g_nestIn : ∀ w ∈ gNest, w ∈ lw_tbl := in_p _ [261, 248, 208, 195, 198, 258, 212, 201, 204, 242, 238, 250, 253, 264, 194, 262, 211, 251, 265, 200, 236, 243, 240, 246, 206, 257, 247, 207, 197, 266, 239, 210, 244, 256, 263, 203, 725, 116, 122, 136, 149, 159, 375, 945, 703, 678, 992, 899] rfl
set_option maxRecDepth 20000 in
theorem g_xcIn : ∀ w ∈ gXc, w ∈ lw_tbl := in_p _ [832, 877, 688, 848, 584, 586, 588, 590, 834] rfl
theorem g_nest {args : Array Value} {s : State} (hts : ∀ w ∈ lw_tbl, w.before args s = true) : gNW s := fun w hw => va_Nw.of (gNest_tab w hw) (hts w (g_nestIn w hw))
theorem g_xc {args : Array Value} {s : State} (hts : ∀ w ∈ lw_tbl, w.before args s = true) : ∀ w ∈ gXc, va_Nw w s := fun w hw => va_Nw.of (gXc_tab w hw) (hts w (g_xcIn w hw))
def g_flat : List Cond := flatC (Jvm.Cond.and given_1 narrow_1)
set_option maxRecDepth 20000 in
theorem g_tab0 : ((g_flat.drop 613).take 32) = (List.range 32).map (fun j => Cond.eq (.elem (.static (gTc 0) (gTn 0) "[I") (.int (Int32.ofNat j))) (.int (gTf 0 j))) := by decide +kernel
set_option maxRecDepth 20000 in
theorem g_tab1 : ((g_flat.drop 7).take 64) = (List.range 64).map (fun j => Cond.eq (.elem (.static (gTc 1) (gTn 1) "[I") (.int (Int32.ofNat j))) (.int (gTf 1 j))) := by decide +kernel
set_option maxRecDepth 20000 in
theorem g_tab2 : ((g_flat.drop 74).take 16) = (List.range 16).map (fun j => Cond.eq (.elem (.static (gTc 2) (gTn 2) "[I") (.int (Int32.ofNat j))) (.int (gTf 2 j))) := by decide +kernel
set_option maxRecDepth 20000 in
theorem g_tab3 : ((g_flat.drop 659).take 64) = (List.range 64).map (fun j => Cond.eq (.elem (.static (gTc 3) (gTn 3) "[I") (.int (Int32.ofNat j))) (.int (gTf 3 j))) := by decide +kernel
set_option maxRecDepth 20000 in
theorem g_tab4 : ((g_flat.drop 648).take 8) = (List.range 8).map (fun j => Cond.eq (.elem (.static (gTc 4) (gTn 4) "[I") (.int (Int32.ofNat j))) (.int (gTf 4 j))) := by decide +kernel
set_option maxRecDepth 20000 in
theorem g_tab5 : ((g_flat.drop 93).take 256) = (List.range 256).map (fun j => Cond.eq (.elem (.static (gTc 5) (gTn 5) "[I") (.int (Int32.ofNat j))) (.int (gTf 5 j))) := by decide +kernel
set_option maxRecDepth 20000 in
theorem g_tab6 : ((g_flat.drop 352).take 256) = (List.range 256).map (fun j => Cond.eq (.elem (.static (gTc 6) (gTn 6) "[I") (.int (Int32.ofNat j))) (.int (gTf 6 j))) := by decide +kernel
theorem g_st1 {args : Array Value} {s : State} {A : Nat → Prop} (k N base : Nat) (hN : N < 2 ^ 31) (hT : ((g_flat.drop base).take N) = (List.range N).map (fun j => Cond.eq (.elem (.static (gTc k) (gTn k) "[I") (.int (Int32.ofNat j))) (.int (gTf k j)))) (ha : Cond.arrayOf (.static (gTc k) (gTn k) "[I") .int ∈ g_flat) (hl : Cond.eq (.length (.static (gTc k) (gTn k) "[I")) (.int (Int32.ofNat N)) ∈ g_flat) (hls : Cond.laysStatic (gTc k) (gTn k) "[I" ∈ lw_tbl) (hin : Cond.initialized (gTc k) ∈ lw_tbl) (hts : ∀ w ∈ lw_tbl, w.before args s = true) (hfl : ∀ w ∈ g_flat, w.before args s = true) (hA : ∀ a : Nat, a < s.heap.size → ¬ A a) : ∃ t : Nat, va_Z (gTc k) (gTn k) "[I" (.ref t) A s s.heap ∧ va_T .int t N (fun j => .int (gTf k j)) A s s.heap := by
  obtain ⟨t, ht, hT2⟩ := va_Tof (tm := .static (gTc k) (gTn k) "[I") (N := N) (f := fun j => .int (gTf k j)) hN (hfl _ ha) (va_eqt (hfl _ hl)) (fun j hj => va_eqt (hfl _ (List.mem_of_mem_drop (List.mem_of_mem_take (by rw [hT]; exact List.mem_map.mpr ⟨j, List.mem_range.mpr hj, rfl⟩))))) hA
  exact ⟨t, va_Zref (hts _ hls) (hts _ hin) ht hA, hT2⟩
theorem g_at {big : List Cond} {w : Cond} (i : Nat) (h : big[i]? = some w) : w ∈ big := List.mem_of_getElem? h
set_option maxRecDepth 20000 in
theorem g_st {args : Array Value} {s : State} {A : Nat → Prop} (hts : ∀ w ∈ lw_tbl, w.before args s = true) (hfl : ∀ w ∈ g_flat, w.before args s = true) (hA : ∀ a : Nat, a < s.heap.size → ¬ A a) : ∃ tb : Nat → Nat, gST tb A s s.heap := by
  obtain ⟨t0, h0⟩ := g_st1 (args := args) 0 32 613 (by decide) g_tab0 (g_at 611 (by decide +kernel)) (g_at 612 (by decide +kernel)) (g_at 726 (by decide +kernel)) (g_at 69 (by decide +kernel)) hts hfl hA
  obtain ⟨t1, h1⟩ := g_st1 (args := args) 1 64 7 (by decide) g_tab1 (g_at 5 (by decide +kernel)) (g_at 6 (by decide +kernel)) (g_at 428 (by decide +kernel)) (g_at 74 (by decide +kernel)) hts hfl hA
  obtain ⟨t2, h2⟩ := g_st1 (args := args) 2 16 74 (by decide) g_tab2 (g_at 72 (by decide +kernel)) (g_at 73 (by decide +kernel)) (g_at 436 (by decide +kernel)) (g_at 74 (by decide +kernel)) hts hfl hA
  obtain ⟨t3, h3⟩ := g_st1 (args := args) 3 64 659 (by decide) g_tab3 (g_at 657 (by decide +kernel)) (g_at 658 (by decide +kernel)) (g_at 787 (by decide +kernel)) (g_at 75 (by decide +kernel)) hts hfl hA
  obtain ⟨t4, h4⟩ := g_st1 (args := args) 4 8 648 (by decide) g_tab4 (g_at 646 (by decide +kernel)) (g_at 647 (by decide +kernel)) (g_at 768 (by decide +kernel)) (g_at 75 (by decide +kernel)) hts hfl hA
  obtain ⟨t5, h5⟩ := g_st1 (args := args) 5 256 93 (by decide) g_tab5 (g_at 91 (by decide +kernel)) (g_at 92 (by decide +kernel)) (g_at 492 (by decide +kernel)) (g_at 77 (by decide +kernel)) hts hfl hA
  obtain ⟨t6, h6⟩ := g_st1 (args := args) 6 256 352 (by decide) g_tab6 (g_at 350 (by decide +kernel)) (g_at 351 (by decide +kernel)) (g_at 509 (by decide +kernel)) (g_at 77 (by decide +kernel)) hts hfl hA
  refine ⟨fun k => match k with | 0 => t0 | 1 => t1 | 2 => t2 | 3 => t3 | 4 => t4 | 5 => t5 | _ => t6, fun k hk => ?_⟩
  match k, hk with
  | 0, _ => exact h0
  | 1, _ => exact h1
  | 2, _ => exact h2
  | 3, _ => exact h3
  | 4, _ => exact h4
  | 5, _ => exact h5
  | 6, _ => exact h6
set_option maxRecDepth 20000 in
theorem g_strIn : ∀ w ∈ gStr.map (fun q => Cond.stringRef RX10 q.1 q.2), w ∈ lw_tbl := in_p _ [625, 660, 668, 695, 855, 884, 891, 897, 936, 953, 961, 962, 972, 981, 1002] rfl
theorem g_strs {args : Array Value} {s : State} {cur : Nat} (hcur : s.vm.findClass RX10 = some cur) (hts : ∀ w ∈ lw_tbl, w.before args s = true) : ∃ sa : Nat → Nat, ∀ (k : Nat) (q : Nat × String), gStr[k]? = some q → vk_R RX10 q.1 q.2 (sa k) s := by
  have h : ∀ k : Nat, ∃ a : Nat, ∀ q : Nat × String, gStr[k]? = some q → vk_R RX10 q.1 q.2 a s := by
    intro k
    cases hk : gStr[k]? with
    | none => exact ⟨0, fun q hq => by cases hq⟩
    | some q =>
      have hw := hts _ (g_strIn _ (List.mem_map.mpr ⟨q, List.mem_of_getElem? hk, rfl⟩))
      obtain ⟨k1, cf, i, a, -, -, -, -, -, he⟩ := Cond.stringRef_spec hcur hw
      exact ⟨a, fun q2 hq => by cases hq; exact vk_R.of hw he⟩
  exact ⟨fun k => Classical.choose (h k), fun k q hq => Classical.choose_spec (h k) q hq⟩
set_option maxRecDepth 20000 in
theorem g_xv {args : Array Value} {s : State} {A : Nat → Prop} {cur : Nat} (hcur : s.vm.findClass RX10 = some cur) (hts : ∀ w ∈ lw_tbl, w.before args s = true) (hfl : ∀ w ∈ g_flat, w.before args s = true) (hA : ∀ a : Nat, a < s.heap.size → ¬ A a) : ∃ sa : Nat → Nat, gXV sa A s s.heap := by
  obtain ⟨sa, hsa⟩ := g_strs hcur hts
  exact ⟨sa, ⟨va_AO.of (hts (.arrayOver (.object RX5)) (g_at 234 (by decide +kernel))), va_Nc.of (hfl (Cond.castable "java/lang/IllegalStateException" "java/lang/IllegalArgumentException").not (by decide +kernel)), va_Nc.of (hfl (Cond.castable "java/lang/UnsupportedOperationException" "java/lang/IllegalArgumentException").not (by decide +kernel)), va_Nc.of (hfl (Cond.castable "java/lang/UnsupportedOperationException" "java/lang/IllegalStateException").not (by decide +kernel))⟩, g_xc hts, vx_Zqof (hts (.laysStatic Bundle.tN "UNASSIGNED_STACK" Bundle.steD) (g_at 609 (by decide +kernel))) (hts (.initialized Bundle.tN) (g_at 82 (by decide +kernel))) (hfl (.isRef (.static Bundle.tN "UNASSIGNED_STACK" Bundle.steD)) (g_at 608 (by decide +kernel))) hA, vx_Zqof (hts (.laysStatic Bundle.tN "SUPPRESSED_SENTINEL" Bundle.listD) (g_at 611 (by decide +kernel))) (hts (.initialized Bundle.tN) (g_at 82 (by decide +kernel))) (hfl (.isRef (.static Bundle.tN "SUPPRESSED_SENTINEL" Bundle.listD)) (g_at 609 (by decide +kernel))) hA, hsa⟩
