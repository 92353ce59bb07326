/-! constructors and methods that throw: their environment, heads and calls -/
theorem gK_int {D : va_G} {E : gE} {cA : ClassId} {s : State} (h : va_K D vwCl (gTys E ++ [(cA, .int)]) s) : cA = E.2.1 := by
  have h1 := (h.2 0 _ rfl).2
  have h2 := (h.2 2 _ rfl).2
  have h3 : s.vm.findClass ("[" ++ (FieldType.int).toString) = some E.2.1 := h1
  have h4 : s.vm.findClass ("[" ++ (FieldType.int).toString) = some cA := h2
  exact Option.some.inj (h4.symm.trans h3)
theorem gK_row {D : va_G} {E : gE} {cA : ClassId} {s : State} (h : va_K D vwCl (gTys E ++ [(cA, .object RX5)]) s) : cA = E.2.2.1 := by
  obtain ⟨k1, c1, -, -, -, h1⟩ := (h.2 1 _ rfl).2
  obtain ⟨k2, c2, -, -, -, h2⟩ := (h.2 2 _ rfl).2
  exact Option.some.inj (h2.symm.trans h1)
theorem gEnt_2 (a b : Nat) : va_up (va_up (fun _ => none) (0 : Int32).toNatClampNeg (some a)) (1 : Int32).toNatClampNeg (some b) = gEnt [a, b] := by
  funext k
  show va_up (va_up (fun _ => none) 0 (some a)) 1 (some b) k = [a, b][k]?
  unfold va_up
  match k with
  | 0 => rfl
  | 1 => rfl
  | n + 2 => simp
theorem gEnt_5 (a b c d e : Nat) : va_up (va_up (va_up (va_up (va_up (fun _ => none) (0 : Int32).toNatClampNeg (some a)) (1 : Int32).toNatClampNeg (some b)) (2 : Int32).toNatClampNeg (some c)) (3 : Int32).toNatClampNeg (some d)) (4 : Int32).toNatClampNeg (some e) = gEnt [a, b, c, d, e] := by
  funext k
  show va_up (va_up (va_up (va_up (va_up (fun _ => none) 0 (some a)) 1 (some b)) 2 (some c)) 3 (some d)) 4 (some e) k = [a, b, c, d, e][k]?
  unfold va_up
  match k with
  | 0 => rfl
  | 1 => rfl
  | 2 => rfl
  | 3 => rfl
  | 4 => rfl
  | n + 5 => simp
def gXc : List Cond := [.castable "java/lang/ArrayIndexOutOfBoundsException" "java/lang/ArrayIndexOutOfBoundsException", .castable "java/lang/IllegalArgumentException" "java/lang/IllegalArgumentException", .castable "java/lang/IllegalStateException" "java/lang/IllegalStateException", .castable "java/lang/IndexOutOfBoundsException" "java/lang/IndexOutOfBoundsException", .castable "java/lang/UnsupportedOperationException" "java/lang/UnsupportedOperationException", .declares (Bundle.initS "java/lang/RuntimeException"), .declares (Bundle.initS "java/lang/Exception"), .declares (Bundle.initS Bundle.tN), .declares (Bundle.initS "java/lang/IndexOutOfBoundsException")]
def gXn : Nat → String := fun k => match k with
  | 1 => "java/lang/ArrayIndexOutOfBoundsException"
  | 2 => "java/lang/IllegalArgumentException"
  | 3 => "java/lang/IllegalStateException"
  | 4 => "java/lang/IndexOutOfBoundsException"
  | _ => "java/lang/UnsupportedOperationException"
def gStr : List (Nat × String) := [(70, "the word is full"), (85, "the id is full"), (90, "the tape is full"), (104, "the tape is too short"), (125, "no such byte of an entry"), (138, "not a byte, nor -1"), (144, "the word that is tried is full"), (150, "nothing was made"), (161, "nothing is open"), (170, "no such filter in this revision"), (178, "other bytes have not ended"), (180, "too many bytes"), (202, "no such byte of the out"), (205, "no such hash"), (230, "nothing to tell")]
theorem goodIn_more {c : Cond} {T B ws : List Cond} (h : GoodIn (c :: T) ws) : GoodIn (c :: (T ++ B)) ws := fun w hw => ⟨(List.mem_cons.mp (h w hw).1).elim (fun e => List.mem_cons.mpr (Or.inl e)) (fun q => List.mem_cons_of_mem _ (List.mem_append_left _ q)), (h w hw).2⟩
def wsX10_outT : List Cond := .code yX10_out cX10_out 2 (some .byte) :: (wsX10_out.tail ++ (vx_atS RX10 204 "java/lang/ArrayIndexOutOfBoundsException" ["java/lang/IndexOutOfBoundsException", "java/lang/RuntimeException", "java/lang/Exception"]).filter goodWord)
/-- the class's own way to its revision -/
def gKept (x : Int32) : Int32 := if 2 < (if 5 < x then 5 else x) then (if 5 < x then 5 else x) else 2
/-- the reference's -/
def gKept2 (x : Int32) : Int32 := if 2 ≤ x then (if x ≤ 5 then x else 5) else 2
theorem L_notin2 {w : Int32} (h0 : ¬ w = 0) (h1 : ¬ w = 1) : w < 0 ∨ 2 ≤ w := by
  rcases pk_ix w (n := 2) (by decide) with h | h | ⟨j, hj, e⟩
  · exact Or.inl h
  · exact Or.inr h
  · exfalso
    match j, hj with
    | 0, _ => exact h0 e
    | 1, _ => exact h1 e
theorem L_notin5 {w : Int32} (h0 : ¬ w = 0) (h1 : ¬ w = 1) (h2 : ¬ w = 2) (h3 : ¬ w = 3) (h4 : ¬ w = 4) : w < 0 ∨ 5 ≤ w := by
  rcases pk_ix w (n := 5) (by decide) with h | h | ⟨j, hj, e⟩
  · exact Or.inl h
  · exact Or.inr h
  · exfalso
    match j, hj with
    | 0, _ => exact h0 e
    | 1, _ => exact h1 e
    | 2, _ => exact h2 e
    | 3, _ => exact h3 e
    | 4, _ => exact h4 e
def gXV (sa : Nat → Nat) (A : Nat → Prop) (U : State) (H : Heap) : Prop := (va_AO RX5 U ∧ va_Nc "java/lang/IllegalStateException" "java/lang/IllegalArgumentException" U ∧ va_Nc "java/lang/UnsupportedOperationException" "java/lang/IllegalArgumentException" U ∧ va_Nc "java/lang/UnsupportedOperationException" "java/lang/IllegalStateException" U) ∧ (∀ w ∈ gXc, va_Nw w U) ∧ vx_Zq Bundle.tN "UNASSIGNED_STACK" Bundle.steD A U H ∧ vx_Zq Bundle.tN "SUPPRESSED_SENTINEL" Bundle.listD A U H ∧ ∀ (k : Nat) (q : Nat × String), gStr[k]? = some q → vk_R RX10 q.1 q.2 (sa k) U
theorem gXc_warm {s U : State} (hW : s.WarmedH U.vm) (h : ∀ w ∈ gXc, va_Nw w s) : ∀ w ∈ gXc, va_Nw w U := by
  intro w hw
  have h1 := h w hw
  simp only [gXc, List.mem_cons, List.not_mem_nil, or_false] at hw
  rcases hw with rfl | rfl | rfl | rfl | rfl | rfl | rfl | rfl | rfl <;> first | exact va_Nw.warmC hW h1 | exact va_Nw.warmD hW h1
theorem gXc_tab : ∀ w ∈ gXc, w.onTables = true := by decide +kernel
theorem gXV.call {sa : Nat → Nat} {A B : Nat → Prop} {s U : State} {H : Heap} {locs : List Loc} (h : gXV sa A s s.heap) (hS : va_S A s.heap H locs) (hAB : ∀ q, B q → A q) (hU : U.heap = H) (hW : s.WarmedH U.vm) : gXV sa B U U.heap := by
  subst hU
  obtain ⟨⟨h1, n1, n2, n3⟩, h2, h3, h4, h5⟩ := h
  exact ⟨⟨va_AO.moved hW.alike h1, va_Nc.moved hW.alike n1, va_Nc.moved hW.alike n2, va_Nc.moved hW.alike n3⟩, gXc_warm hW h2, ((vx_Zq.moved hW.alike h3).kept hS.2.1).narrow hAB, ((vx_Zq.moved hW.alike h4).kept hS.2.1).narrow hAB, fun k q hq => vk_R.warm hW (h5 k q hq)⟩
theorem gXV.blind {sa : Nat → Nat} {A : Nat → Prop} {U : State} {g : JFrame} {mk : MethodId} {a : Array Value} {H : Heap} (h : gXV sa A U H) : gXV sa A (U.calling g mk a) H := by
  obtain ⟨⟨h1, n1, n2, n3⟩, h2, h3, h4, h5⟩ := h
  exact ⟨⟨va_AO.moved (u := U) (U := U.calling g mk a) (Vm.Alike.refl U.vm) h1, va_Nc.moved (u := U) (U := U.calling g mk a) (Vm.Alike.refl U.vm) n1, va_Nc.moved (u := U) (U := U.calling g mk a) (Vm.Alike.refl U.vm) n2, va_Nc.moved (u := U) (U := U.calling g mk a) (Vm.Alike.refl U.vm) n3⟩, fun w hw => va_Nw.same (gXc_tab w hw) (u := U) (U := U.calling g mk a) rfl (h2 w hw), vx_Zq.moved (u := U) (U := U.calling g mk a) (Vm.Alike.refl U.vm) h3, vx_Zq.moved (u := U) (U := U.calling g mk a) (Vm.Alike.refl U.vm) h4, fun k q hq => vk_R.same (u := U) (U := U.calling g mk a) rfl (h5 k q hq)⟩
def gXPc (E : gE) (sa : Nat → Nat) (av : List Value) (ws : va_W) (sz : Nat) : Array Value → State → Prop := va_Pc av (fun U => U.heap.size = sz ∧ va_P E.1 vwCl ws U.heap ∧ (gEV E (va_A ws sz) U U.heap ∧ gXV sa (va_A ws sz) U U.heap) ∧ va_D (fun _ => True) ws)
theorem gXPc.blind {E : gE} {sa : Nat → Nat} {av : List Value} {ws : va_W} {sz : Nat} : FrameBlind (gXPc E sa av ws sz) := by
  intro a U g mk q
  obtain ⟨q0, q1, qP, ⟨qV, qX⟩, qD⟩ := q
  have h := (gPc.blind (E := E) (av := av) (ws := ws) (sz := sz)) a U g mk ⟨q0, q1, qP, qV, qD⟩
  exact ⟨h.1, h.2.1, h.2.2.1, ⟨h.2.2.2.1, gXV.blind qX⟩, h.2.2.2.2⟩
/-- a constructor's head: nothing comes back, and the cells are ws' u -/
abbrev gCv (E : gE) (sa : Nat → Nat) (l : Launch) (y : MethodName) (wy : List Cond) (rm : Room) (mc ms : Nat) (av : List Value) (ws : va_W) {S : Type} (post : S → Prop) (ws' : S → va_W) : Prop := ∀ sz : Nat, Met l y wy rm (gXPc E sa av ws sz) (va_Qv post (fun u t => gB E (va_A ws sz) (ws' u) t) (va_A ws sz)) mc ms (va_A ws sz)
/-- a method that answers an int, or throws where px says so, and then the cells are as they were -/
abbrev gXi (E : gE) (sa : Nat → Nat) (l : Launch) (y : MethodName) (wy : List Cond) (rm : Room) (mc ms : Nat) (av : List Value) (ws : va_W) {S : Type} (post : Int32 → S → Prop) (ws' : S → va_W) (px : String → Prop) : Prop := ∀ sz : Nat, vx_Met l y wy rm (gXPc E sa av ws sz) (va_Qi post (fun u t => gB E (va_A ws sz) (ws' u) t) (va_A ws sz)) (vx_X px (fun X nm t => X = nm ∧ gB E (va_A ws sz) ws t) (va_A ws sz)) mc ms (va_A ws sz)
abbrev gXv (E : gE) (sa : Nat → Nat) (l : Launch) (y : MethodName) (wy : List Cond) (rm : Room) (mc ms : Nat) (av : List Value) (ws : va_W) {S : Type} (post : S → Prop) (ws' : S → va_W) (px : String → Prop) : Prop := ∀ sz : Nat, vx_Met l y wy rm (gXPc E sa av ws sz) (va_Qv post (fun u t => gB E (va_A ws sz) (ws' u) t) (va_A ws sz)) (vx_X px (fun X nm t => X = nm ∧ gB E (va_A ws sz) ws t) (va_A ws sz)) mc ms (va_A ws sz)
theorem gFx {A : Nat → Prop} {s t : State} {H : Heap} {locs : List Loc} (h : va_S A s.heap H locs) (hz : H.size ≤ t.heap.size) (hk : ∀ q : Nat, q < H.size → t.heap[q]? = H[q]?) : va_F A s t := ⟨Nat.le_trans h.1 hz, fun q h1 h2 => (hk q (Nat.lt_of_lt_of_le h1 h.1)).trans (h.2.1 q h1 h2)⟩
section GCALL2
variable {p : Program} {l : Launch} {e : Env} {R : Room} {s : State} {m : MethodId} {args : Array Value} {below : List Frame} {meth : Method} {c : Code} {H : Heap} {locs : List Loc} {cells slots : Nat} {Q : State → Prop} {pc : Nat} {ls : Array Slot} {E : gE} {sa : Nat → Nat} {A : Nat → Prop} {ws wc wr : va_W} {cc bytes : ByteArray} {nL maxL index n mc ms : Nat} {own C host : String} {y : MethodName} {ret : Option FieldType} {Ts wy : List Cond} {rm : Room} {b : Nat} {As rest st : List Value} {lv : List (Nat × Value)}
theorem g_join {pcB : Nat} {st1 : List Value} (E0 : Int32) (k : ∀ v : Int32, v = E0 → W p l e R s m args below meth c H locs cells slots Q (F0 m pcB ls (.int v :: st1))) (f : (∀ v : Int32, v = E0 → W p l e R s m args below meth c H locs cells slots Q (F0 m pcB ls (.int v :: st1))) → W p l e R s m args below meth c H locs cells slots Q (F0 m pc ls st)) : W p l e R s m args below meth c H locs cells slots Q (F0 m pc ls st) := f k
theorem gXPreS (hV : gEV E A s s.heap) (hX : gXV sa A s s.heap) (hP : va_P E.1 vwCl ws H) (hD : va_D A ws) (hS : va_S A s.heap H locs) (hA : ∀ q, s.heap.size ≤ q → A q) (isC : List Nat) (hC : isC.map (fun i => ws[i]?) = wc.map some) (hC2 : isC.filterMap (fun i => ws[i]?) = wc) (hn : va_nd isC = true) : PreS s H (gXPc E sa As wc H.size) As := by
  have hPc := hP.sub (ws' := wc) isC hC2
  have hDc := hD.sub (ws' := wc) isC hn hC
  have hFc := va_free (wc := wc) hD hS hA isC hC
  exact ⟨gXPc.blind, fun U hU hW => ⟨rfl, by rw [hU], by rw [hU]; exact hPc, ⟨hV.call hS (fun q h => hFc q h) hU hW, hX.call hS (fun q h => hFc q h) hU hW⟩, hDc.weaken (fun _ _ _ _ => trivial)⟩⟩
theorem gXPreV (hV : gEV E A s s.heap) (hX : gXV sa A s s.heap) (hP : va_P E.1 vwCl ws H) (hD : va_D A ws) (hS : va_S A s.heap H locs) (hA : ∀ q, s.heap.size ≤ q → A q) (isC : List Nat) (hC : isC.map (fun i => ws[i]?) = wc.map some) (hC2 : isC.filterMap (fun i => ws[i]?) = wc) (hn : va_nd isC = true) (q0 ci : Nat) {q : vw_C} {fs : List Value} (hci : vwCl[ci]? = some q) (he : wc[q0]? = some (b, .inr (ci, fs))) (hq : q.1 = C) {av : List Value} (hav : av = .ref b :: As) : PreV s H C b (gXPc E sa av wc H.size) As := by
  subst hav
  have hPc := hP.sub (ws' := wc) isC hC2
  have hDc := hD.sub (ws' := wc) isC hn hC
  have hFc := va_free (wc := wc) hD hS hA isC hC
  refine ⟨gXPc.blind, ?_, fun U hU hW => ⟨rfl, by rw [hU], by rw [hU]; exact hPc, ⟨hV.call hS (fun q h => hFc q h) hU hW, hX.call hS (fun q h => hFc q h) hU hW⟩, hDc.weaken (fun _ _ _ _ => trivial)⟩⟩
  rw [← hq]
  exact va_recv hV.1 hPc hci he
/-- a constructor's call -/
theorem gIv {S : Type} {post : S → Prop} {w1 : S → va_W} (F : CallFix p m c cc nL s args Ts own) (hl : lv_has ls nL lv) (hV : gEV E A s s.heap) (hP : va_P E.1 vwCl ws H) (hD : va_D A ws) (hS : va_S A s.heap H locs) (hA : ∀ q, s.heap.size ≤ q → A q)
    (isC isR : List Nat) (hC : isC.map (fun i => ws[i]?) = wc.map some) (hR : isR.map (fun i => ws[i]?) = wr.map some) (hC2 : isC.filterMap (fun i => ws[i]?) = wc) (hdd : va_nd isC = true ∧ va_nd isR = true ∧ ∀ i ∈ isR, i ∉ isC)
    {av : List Value} (hM : gMv E l y wy rm mc ms av wc post w1) (cw : CallB R s args own index y bytes maxL none wy rm mc ms n ∧ y.name = "<init>" ∧ (Cond.instanceMethod y).before args s = true) (hav : av = .ref b :: As) (hst : As.length = n ∧ st = As.reverse ++ .ref b :: rest) (hcat : (rest.map fun v => v.category).sum ≤ 8) (hdg : decode cc pc = .ok (.invokespecial index, 3)) (hf : cells + mc ≤ R.cells ∧ slots + ms ≤ R.slots)
    (kk : ∀ (u : S) (H1 : Heap) (locs1 : List Loc), post u → va_P E.1 vwCl (wr ++ w1 u) H1 → va_D A (wr ++ w1 u) → va_S A s.heap H1 locs1 → W p l e R s m args below meth c H1 locs1 (cells + mc) (slots + ms) Q (F0 m (pc + 3) ls rest)) : W p l e R s m args below meth c H locs cells slots Q (F0 m pc ls st) := by
  obtain ⟨hn, hst⟩ := hst
  subst hst
  subst hav
  exact gBack_v hP hD hS hA isC isR hC hR hdd.2.1 hdd.2.2 (va_runI F (hM H.size) cw (gPreS hV hP hD hS hA isC hC hC2 hdd.1) rfl hn hl.1 rfl (lv_room hcat) hdg hf) kk
theorem gINv {S : Type} {post : S → Prop} {w1 : S → va_W} (F : CallFix p m c cc nL s args Ts own) (hl : lv_has ls nL lv) (hV : gEV E A s s.heap) (hP : va_P E.1 vwCl ws H) (hD : va_D A ws) (hS : va_S A s.heap H locs) (hA : ∀ q, s.heap.size ≤ q → A q)
    (isC isR : List Nat) (hC : isC.map (fun i => ws[i]?) = wc.map some) (hR : isR.map (fun i => ws[i]?) = wr.map some) (hC2 : isC.filterMap (fun i => ws[i]?) = wc) (hdd : va_nd isC = true ∧ va_nd isR = true ∧ ∀ i ∈ isR, i ∉ isC)
    {av : List Value} (hM : gMv E l y wy rm mc ms av wc post w1) (cw : va_CN R s args own index y host bytes maxL none wy rm mc ms n ∧ y.name = "<init>" ∧ (Cond.instanceMethod y).before args s = true) (hav : av = .ref b :: As) (hst : As.length = n ∧ st = As.reverse ++ .ref b :: rest) (hcat : (rest.map fun v => v.category).sum ≤ 8) (hdg : decode cc pc = .ok (.invokespecial index, 3)) (hf : cells + mc ≤ R.cells ∧ slots + ms ≤ R.slots)
    (kk : ∀ (u : S) (H1 : Heap) (locs1 : List Loc), post u → va_P E.1 vwCl (wr ++ w1 u) H1 → va_D A (wr ++ w1 u) → va_S A s.heap H1 locs1 → W p l e R s m args below meth c H1 locs1 (cells + mc) (slots + ms) Q (F0 m (pc + 3) ls rest)) : W p l e R s m args below meth c H locs cells slots Q (F0 m pc ls st) := by
  obtain ⟨hn, hst⟩ := hst
  subst hst
  subst hav
  exact gBack_v hP hD hS hA isC isR hC hR hdd.2.1 hdd.2.2 (va_runIN F (hM H.size) cw (gPreS hV hP hD hS hA isC hC hC2 hdd.1) rfl hn hl.1 rfl (lv_room hcat) hdg hf) kk
theorem gIXv {S : Type} {post : S → Prop} {w1 : S → va_W} (F : CallFix p m c cc nL s args Ts own) (hl : lv_has ls nL lv) (hV : gEV E A s s.heap) (hX : gXV sa A s s.heap) (hP : va_P E.1 vwCl ws H) (hD : va_D A ws) (hS : va_S A s.heap H locs) (hA : ∀ q, s.heap.size ≤ q → A q)
    (isC isR : List Nat) (hC : isC.map (fun i => ws[i]?) = wc.map some) (hR : isR.map (fun i => ws[i]?) = wr.map some) (hC2 : isC.filterMap (fun i => ws[i]?) = wc) (hdd : va_nd isC = true ∧ va_nd isR = true ∧ ∀ i ∈ isR, i ∉ isC)
    {av : List Value} (hM : gCv E sa l y wy rm mc ms av wc post w1) (cw : CallB R s args own index y bytes maxL none wy rm mc ms n ∧ y.name = "<init>" ∧ (Cond.instanceMethod y).before args s = true) (hav : av = .ref b :: As) (hst : As.length = n ∧ st = As.reverse ++ .ref b :: rest) (hcat : (rest.map fun v => v.category).sum ≤ 8) (hdg : decode cc pc = .ok (.invokespecial index, 3)) (hf : cells + mc ≤ R.cells ∧ slots + ms ≤ R.slots)
    (kk : ∀ (u : S) (H1 : Heap) (locs1 : List Loc), post u → va_P E.1 vwCl (wr ++ w1 u) H1 → va_D A (wr ++ w1 u) → va_S A s.heap H1 locs1 → W p l e R s m args below meth c H1 locs1 (cells + mc) (slots + ms) Q (F0 m (pc + 3) ls rest)) : W p l e R s m args below meth c H locs cells slots Q (F0 m pc ls st) := by
  obtain ⟨hn, hst⟩ := hst
  subst hst
  subst hav
  exact gBack_v hP hD hS hA isC isR hC hR hdd.2.1 hdd.2.2 (va_runI F (hM H.size) cw (gXPreS hV hX hP hD hS hA isC hC hC2 hdd.1) rfl hn hl.1 rfl (lv_room hcat) hdg hf) kk
theorem gINXv {S : Type} {post : S → Prop} {w1 : S → va_W} (F : CallFix p m c cc nL s args Ts own) (hl : lv_has ls nL lv) (hV : gEV E A s s.heap) (hX : gXV sa A s s.heap) (hP : va_P E.1 vwCl ws H) (hD : va_D A ws) (hS : va_S A s.heap H locs) (hA : ∀ q, s.heap.size ≤ q → A q)
    (isC isR : List Nat) (hC : isC.map (fun i => ws[i]?) = wc.map some) (hR : isR.map (fun i => ws[i]?) = wr.map some) (hC2 : isC.filterMap (fun i => ws[i]?) = wc) (hdd : va_nd isC = true ∧ va_nd isR = true ∧ ∀ i ∈ isR, i ∉ isC)
    {av : List Value} (hM : gCv E sa l y wy rm mc ms av wc post w1) (cw : va_CN R s args own index y host bytes maxL none wy rm mc ms n ∧ y.name = "<init>" ∧ (Cond.instanceMethod y).before args s = true) (hav : av = .ref b :: As) (hst : As.length = n ∧ st = As.reverse ++ .ref b :: rest) (hcat : (rest.map fun v => v.category).sum ≤ 8) (hdg : decode cc pc = .ok (.invokespecial index, 3)) (hf : cells + mc ≤ R.cells ∧ slots + ms ≤ R.slots)
    (kk : ∀ (u : S) (H1 : Heap) (locs1 : List Loc), post u → va_P E.1 vwCl (wr ++ w1 u) H1 → va_D A (wr ++ w1 u) → va_S A s.heap H1 locs1 → W p l e R s m args below meth c H1 locs1 (cells + mc) (slots + ms) Q (F0 m (pc + 3) ls rest)) : W p l e R s m args below meth c H locs cells slots Q (F0 m pc ls st) := by
  obtain ⟨hn, hst⟩ := hst
  subst hst
  subst hav
  exact gBack_v hP hD hS hA isC isR hC hR hdd.2.1 hdd.2.2 (va_runIN F (hM H.size) cw (gXPreS hV hX hP hD hS hA isC hC hC2 hdd.1) rfl hn hl.1 rfl (lv_room hcat) hdg hf) kk
end GCALL2
