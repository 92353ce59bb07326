/-! the law's helpers: calls of methods that throw, caught by the caller -/
def gKL (E : gE) (cL : ClassId) (U : State) : Prop := va_K E.1 vwCl (gTys E ++ [(cL, .long)]) U
def gHPc (E : gE) (sa : Nat → Nat) (cL : ClassId) (av : List Value) (ws : va_W) (sz : Nat) : Array Value → State → Prop := va_Pc av (fun U => U.heap.size = sz ∧ va_P E.1 vwCl ws U.heap ∧ (gEV E (va_A ws sz) U U.heap ∧ gXV sa (va_A ws sz) U U.heap ∧ gKL E cL U) ∧ va_D (fun _ => True) ws)
theorem gHPc.blind {E : gE} {sa : Nat → Nat} {cL : ClassId} {av : List Value} {ws : va_W} {sz : Nat} : FrameBlind (gHPc E sa cL av ws sz) := by
  intro a U g mk q
  obtain ⟨q0, q1, qP, ⟨qV, qX, qL⟩, qD⟩ := q
  have h := (gPc.blind (E := E) (av := av) (ws := ws) (sz := sz)) a U g mk ⟨q0, q1, qP, qV, qD⟩
  exact ⟨h.1, h.2.1, h.2.2.1, ⟨h.2.2.2.1, gXV.blind qX, va_K.moved (u := U) (U := U.calling g mk a) (Vm.Alike.refl U.vm) qL⟩, h.2.2.2.2⟩
/-- a helper of the law: it catches all, and answers an int -/
abbrev gHi (E : gE) (sa : Nat → Nat) (cL : ClassId) (l : Launch) (y : MethodName) (wy : List Cond) (rm : Room) (mc ms : Nat) (av : List Value) (ws : va_W) {S : Type} (post : Int32 → S → Prop) (ws' : S → va_W) : Prop := ∀ sz : Nat, vx_Met l y wy rm (gHPc E sa cL av ws sz) (va_Qi post (fun u t => gB E (va_A ws sz) (ws' u) t) (va_A ws sz)) (vx_X (fun _ : Unit => False) (fun _ _ _ => True) (va_A ws sz)) mc ms (va_A ws sz)
section GCALL3
variable {p : Program} {l : Launch} {e : Env} {R : Room} {s : State} {m : MethodId} {args : Array Value} {below : List Frame} {meth : Method} {c : Code} {H : Heap} {locs : List Loc} {cells slots : Nat} {Q : State → Prop} {pc : Nat} {ls : Array Slot} {E : gE} {sa : Nat → Nat} {A : Nat → Prop} {ws wc wr : va_W} {cc bytes : ByteArray} {nL maxL index n mc ms : Nat} {own C host : String} {y : MethodName} {ret : Option FieldType} {Ts wy : List Cond} {rm : Room} {b : Nat} {As rest st : List Value} {lv : List (Nat × Value)} {px : String → Prop}
theorem gTVi {S : Type} {post : Int32 → S → Prop} {w1 : S → va_W} {av : List Value} (F : CallFix p m c cc nL s args Ts own) (hl : lv_has ls nL lv) (hV : gEV E A s s.heap) (hX : gXV sa A s s.heap) (hP : va_P E.1 vwCl ws H) (hD : va_D A ws) (hS : va_S A s.heap H locs) (hA : ∀ q, s.heap.size ≤ q → A q)
    (isC isR : List Nat) (hC : isC.map (fun i => ws[i]?) = wc.map some) (hR : isR.map (fun i => ws[i]?) = wr.map some) (hC2 : isC.filterMap (fun i => ws[i]?) = wc) (hdd : va_nd isC = true ∧ va_nd isR = true ∧ ∀ i ∈ isR, i ∉ isC)
    (q0 ci : Nat) {q : vw_C} {fs : List Value} (hci : vwCl[ci]? = some q) (he : wc[q0]? = some (b, .inr (ci, fs))) (hq : q.1 = C) (hM : gXi E sa l y wy rm mc ms av wc post w1 px) (cw : CallW R s args own C index y bytes maxL ret wy rm mc ms n) (hav : av = .ref b :: As) (hn : As.length = n) (hst : st = As.reverse ++ .ref b :: rest) (hcat : (rest.map fun v => v.category).sum ≤ 8) (hdg : decode cc pc = .ok (.invokevirtual index, 3)) (hf : cells + mc ≤ R.cells ∧ slots + ms ≤ R.slots)
    (kx : ∀ (nm : String) (ce : Cell) (q9 : Addr) (H1 : Heap) (locs1 : List Loc), px nm → va_P E.1 vwCl (wr ++ wc) H1 → va_D A (wr ++ wc) → va_S A s.heap H1 locs1 → H1[q9]? = some ce → ce.vm = .none → s.vm.findClass nm = some ce.cls → vx_W p l e R s m args below meth c H1 locs1 (cells + mc) (slots + ms) Q (F0 m pc ls rest) q9)
    (kk : ∀ (r : Int32) (u : S) (H1 : Heap) (locs1 : List Loc), post r u → va_P E.1 vwCl (wr ++ w1 u) H1 → va_D A (wr ++ w1 u) → va_S A s.heap H1 locs1 → W p l e R s m args below meth c H1 locs1 (cells + mc) (slots + ms) Q (F0 m (pc + 3) ls (.int r :: rest))) : W p l e R s m args below meth c H locs cells slots Q (F0 m pc ls st) := by
  subst hst
  have hFc := va_free (wc := wc) hD hS hA isC hC
  refine vx_calli (vx_runV F (hM H.size) cw (gXPreV hV hX hP hD hS hA isC hC hC2 hdd.1 q0 ci hci he hq hav) rfl hn hl.1 rfl (lv_room hcat) hdg hf) hS (fun q _ h => hFc q h) (fun q h => hFc q h) (fun q _ h => hFc q h) (fun X ce q9 u t H1 locs1 ht hvm hpx hB hz1 hk1 hS1 hce hcv hcl => ?_) (fun r u t H1 locs1 ht hvm hw hB hz1 hk1 hS1 => ?_)
  · obtain ⟨rfl, hP1, hD1⟩ := hB
    rw [ht] at hP1
    obtain ⟨hP2, hD2⟩ := va_join (wr := wr) (w1 := wc) hP hD isC isR hC hR hdd.2.1 hdd.2.2 hk1 hFc hP1 hD1
    exact kx X ce q9 H1 locs1 hpx hP2 hD2 hS1 hce hcv hcl
  · obtain ⟨hP1, hD1⟩ := hB
    rw [ht] at hP1
    obtain ⟨hP2, hD2⟩ := va_join (wr := wr) (w1 := w1 u) hP hD isC isR hC hR hdd.2.1 hdd.2.2 hk1 hFc hP1 hD1
    exact kk r u H1 locs1 hw hP2 hD2 hS1
theorem gTVv {S : Type} {post : S → Prop} {w1 : S → va_W} {av : List Value} (F : CallFix p m c cc nL s args Ts own) (hl : lv_has ls nL lv) (hV : gEV E A s s.heap) (hX : gXV sa A s s.heap) (hP : va_P E.1 vwCl ws H) (hD : va_D A ws) (hS : va_S A s.heap H locs) (hA : ∀ q, s.heap.size ≤ q → A q)
    (isC isR : List Nat) (hC : isC.map (fun i => ws[i]?) = wc.map some) (hR : isR.map (fun i => ws[i]?) = wr.map some) (hC2 : isC.filterMap (fun i => ws[i]?) = wc) (hdd : va_nd isC = true ∧ va_nd isR = true ∧ ∀ i ∈ isR, i ∉ isC)
    (q0 ci : Nat) {q : vw_C} {fs : List Value} (hci : vwCl[ci]? = some q) (he : wc[q0]? = some (b, .inr (ci, fs))) (hq : q.1 = C) (hM : gXv E sa l y wy rm mc ms av wc post w1 px) (cw : CallW R s args own C index y bytes maxL ret wy rm mc ms n) (hav : av = .ref b :: As) (hn : As.length = n) (hst : st = As.reverse ++ .ref b :: rest) (hcat : (rest.map fun v => v.category).sum ≤ 8) (hdg : decode cc pc = .ok (.invokevirtual index, 3)) (hf : cells + mc ≤ R.cells ∧ slots + ms ≤ R.slots)
    (kx : ∀ (nm : String) (ce : Cell) (q9 : Addr) (H1 : Heap) (locs1 : List Loc), px nm → va_P E.1 vwCl (wr ++ wc) H1 → va_D A (wr ++ wc) → va_S A s.heap H1 locs1 → H1[q9]? = some ce → ce.vm = .none → s.vm.findClass nm = some ce.cls → vx_W p l e R s m args below meth c H1 locs1 (cells + mc) (slots + ms) Q (F0 m pc ls rest) q9)
    (kk : ∀ (u : S) (H1 : Heap) (locs1 : List Loc), post u → va_P E.1 vwCl (wr ++ w1 u) H1 → va_D A (wr ++ w1 u) → va_S A s.heap H1 locs1 → W p l e R s m args below meth c H1 locs1 (cells + mc) (slots + ms) Q (F0 m (pc + 3) ls rest)) : W p l e R s m args below meth c H locs cells slots Q (F0 m pc ls st) := by
  subst hst
  have hFc := va_free (wc := wc) hD hS hA isC hC
  refine vx_callv (vx_runV F (hM H.size) cw (gXPreV hV hX hP hD hS hA isC hC hC2 hdd.1 q0 ci hci he hq hav) rfl hn hl.1 rfl (lv_room hcat) hdg hf) hS (fun q _ h => hFc q h) (fun q h => hFc q h) (fun q _ h => hFc q h) (fun X ce q9 u t H1 locs1 ht hvm hpx hB hz1 hk1 hS1 hce hcv hcl => ?_) (fun u t H1 locs1 ht hvm hw hB hz1 hk1 hS1 => ?_)
  · obtain ⟨rfl, hP1, hD1⟩ := hB
    rw [ht] at hP1
    obtain ⟨hP2, hD2⟩ := va_join (wr := wr) (w1 := wc) hP hD isC isR hC hR hdd.2.1 hdd.2.2 hk1 hFc hP1 hD1
    exact kx X ce q9 H1 locs1 hpx hP2 hD2 hS1 hce hcv hcl
  · obtain ⟨hP1, hD1⟩ := hB
    rw [ht] at hP1
    obtain ⟨hP2, hD2⟩ := va_join (wr := wr) (w1 := w1 u) hP hD isC isR hC hR hdd.2.1 hdd.2.2 hk1 hFc hP1 hD1
    exact kk u H1 locs1 hw hP2 hD2 hS1
theorem gHPreS {cL : ClassId} (hV : gEV E A s s.heap) (hX : gXV sa A s s.heap) (hL : gKL E cL s) (hP : va_P E.1 vwCl ws H) (hD : va_D A ws) (hS : va_S A s.heap H locs) (hA : ∀ q, s.heap.size ≤ q → A q) (isC : List Nat) (hC : isC.map (fun i => ws[i]?) = wc.map some) (hC2 : isC.filterMap (fun i => ws[i]?) = wc) (hn : va_nd isC = true) : PreS s H (gHPc E sa cL As wc H.size) As := by
  have hPc := hP.sub (ws' := wc) isC hC2
  have hDc := hD.sub (ws' := wc) isC hn hC
  have hFc := va_free (wc := wc) hD hS hA isC hC
  exact ⟨gHPc.blind, fun U hU hW => ⟨rfl, by rw [hU], by rw [hU]; exact hPc, ⟨hV.call hS (fun q h => hFc q h) hU hW, hX.call hS (fun q h => hFc q h) hU hW, va_K.moved hW.alike hL⟩, hDc.weaken (fun _ _ _ _ => trivial)⟩⟩
/-- the law's call of a helper -/
theorem gHSi {cL : ClassId} {hh : List (Nat × Nat × Nat × Nat)} {S : Type} {post : Int32 → S → Prop} {w1 : S → va_W} (F : CallFix p m c cc nL s args Ts own) (hl : lv_has ls nL lv) (hV : gEV E A s s.heap) (hX : gXV sa A s s.heap) (hL : gKL E cL s) (hP : va_P E.1 vwCl ws H) (hD : va_D A ws) (hS : va_S A s.heap H locs) (hA : ∀ q, s.heap.size ≤ q → A q)
    (isC isR : List Nat) (hC : isC.map (fun i => ws[i]?) = wc.map some) (hR : isR.map (fun i => ws[i]?) = wr.map some) (hC2 : isC.filterMap (fun i => ws[i]?) = wc) (hdd : va_nd isC = true ∧ va_nd isR = true ∧ ∀ i ∈ isR, i ∉ isC)
    (hM : gHi E sa cL l y wy rm mc ms As wc post w1) (cw : vx_CSW R s args own index y bytes maxL ret hh wy rm mc ms n) (hn : As.length = n) (hst : st = As.reverse ++ rest) (hcat : (rest.map fun v => v.category).sum ≤ 8) (hdg : decode cc pc = .ok (.invokestatic index, 3)) (hf : cells + mc ≤ R.cells ∧ slots + ms ≤ R.slots)
    (kk : ∀ (r : Int32) (u : S) (H1 : Heap) (locs1 : List Loc), post r u → va_P E.1 vwCl (wr ++ w1 u) H1 → va_D A (wr ++ w1 u) → va_S A s.heap H1 locs1 → W p l e R s m args below meth c H1 locs1 (cells + mc) (slots + ms) Q (F0 m (pc + 3) ls (.int r :: rest))) : W p l e R s m args below meth c H locs cells slots Q (F0 m pc ls st) := by
  subst hst
  have hFc := va_free (wc := wc) hD hS hA isC hC
  refine vx_calli (vx_runSX F (hM H.size) cw (gHPreS hV hX hL hP hD hS hA isC hC hC2 hdd.1) rfl hn hl.1 rfl (lv_room hcat) hdg hf) hS (fun q _ h => hFc q h) (fun q h => hFc q h) (fun q _ h => hFc q h) (fun X ce q9 u t H1 locs1 ht hvm hpx hB hz1 hk1 hS1 hce hcv hcl => hpx.elim) (fun r u t H1 locs1 ht hvm hw hB hz1 hk1 hS1 => ?_)
  obtain ⟨hP1, hD1⟩ := hB
  rw [ht] at hP1
  obtain ⟨hP2, hD2⟩ := va_join (wr := wr) (w1 := w1 u) hP hD isC isR hC hR hdd.2.1 hdd.2.2 hk1 hFc hP1 hD1
  exact kk r u H1 locs1 hw hP2 hD2 hS1
end GCALL3
