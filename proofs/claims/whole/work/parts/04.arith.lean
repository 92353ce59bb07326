/-! numbers, iteration, loops -/
abbrev gRow : Type := Int32 × (Nat → Int32)
def gLet {α β : Type} (x : α) (f : α → β) : β := f x
theorem gLet_eq {α β : Type} {x u : α} {f : α → β} {y : β} (h : u = x) (k : f u = y) : gLet x f = y := by
  subst h
  exact k
def itr {σ : Type} (b : Nat → σ → σ) (n : Nat) (s : σ) : σ := if n = 0 then s else b (n - 1) (itr b (n - 1) s)
termination_by n
decreasing_by omega
theorem itr_0 {σ : Type} (b : Nat → σ → σ) (s : σ) : itr b 0 s = s := by rw [itr, if_pos rfl]
theorem itr_s {σ : Type} (b : Nat → σ → σ) (n : Nat) (s : σ) : itr b (n + 1) s = b n (itr b n s) := by rw [itr, if_neg (Nat.succ_ne_zero n), Nat.add_sub_cancel]
def itd {σ : Type} (b : Nat → σ → σ) (n : Nat) (s : σ) : σ := if n = 0 then s else itd b (n - 1) (b (n - 1) s)
termination_by n
decreasing_by omega
theorem itd_0 {σ : Type} (b : Nat → σ → σ) (s : σ) : itd b 0 s = s := by rw [itd, if_pos rfl]
theorem itd_s {σ : Type} (b : Nat → σ → σ) (n : Nat) (s : σ) : itd b (n + 1) s = itd b n (b n s) := by rw [itd, if_neg (Nat.succ_ne_zero n), Nat.add_sub_cancel]
def g_us (x y : Int32) : Int32 := (x.toUInt32 >>> (y.toUInt32 &&& Int32.toUInt32 31)).toInt32
theorem g_up {σ : Type} {N : Nat} (b : Nat → σ → σ) (z0 : σ) {Inv : Nat → σ → Heap → List Loc → Array Slot → Prop} {G : Heap → List Loc → Array Slot → Prop}
    (step : ∀ (j i : Nat) (z : σ) (H : Heap) (locs : List Loc) (ls : Array Slot), i + (j + 1) = N → z = itr b i z0 → Inv i z H locs ls → (∀ (z' : σ) (H' : Heap) (locs' : List Loc) (ls' : Array Slot), z' = itr b (i + 1) z0 → Inv (i + 1) z' H' locs' ls' → G H' locs' ls') → G H locs ls)
    (last : ∀ (z : σ) (H : Heap) (locs : List Loc) (ls : Array Slot), z = itr b N z0 → Inv N z H locs ls → G H locs ls)
    {H : Heap} {locs : List Loc} {ls : Array Slot} (h0 : Inv 0 z0 H locs ls) : G H locs ls := by
  have key : ∀ (j i : Nat), i + j = N → ∀ (z : σ) (H : Heap) (locs : List Loc) (ls : Array Slot), z = itr b i z0 → Inv i z H locs ls → G H locs ls := by
    intro j
    induction j with
    | zero =>
      intro i hi z H locs ls hz h
      obtain rfl : i = N := hi
      exact last z H locs ls hz h
    | succ j ih =>
      intro i hi z H locs ls hz h
      exact step j i z H locs ls hi hz h (fun z' H' locs' ls' hz' h' => ih (i + 1) (by omega) z' H' locs' ls' hz' h')
  exact key N 0 (by omega) z0 H locs ls (itr_0 b z0).symm h0
theorem g_down {σ : Type} {N : Nat} (b : Nat → σ → σ) (z0 : σ) {Inv : Nat → σ → Heap → List Loc → Array Slot → Prop} {G : Heap → List Loc → Array Slot → Prop}
    (step : ∀ (j : Nat) (z : σ) (H : Heap) (locs : List Loc) (ls : Array Slot), j + 1 ≤ N → itd b (j + 1) z = itd b N z0 → Inv (j + 1) z H locs ls → (∀ (z' : σ) (H' : Heap) (locs' : List Loc) (ls' : Array Slot), itd b j z' = itd b N z0 → Inv j z' H' locs' ls' → G H' locs' ls') → G H locs ls)
    (last : ∀ (z : σ) (H : Heap) (locs : List Loc) (ls : Array Slot), z = itd b N z0 → Inv 0 z H locs ls → G H locs ls)
    {H : Heap} {locs : List Loc} {ls : Array Slot} (h0 : Inv N z0 H locs ls) : G H locs ls := by
  have key : ∀ (j : Nat), j ≤ N → ∀ (z : σ) (H : Heap) (locs : List Loc) (ls : Array Slot), itd b j z = itd b N z0 → Inv j z H locs ls → G H locs ls := by
    intro j
    induction j with
    | zero => intro _ z H locs ls hz h; exact last z H locs ls ((itd_0 b z).symm.trans hz) h
    | succ j ih => intro hj z H locs ls hz h; exact step j z H locs ls hj hz h (fun z' H' locs' ls' hz' h' => ih (by omega) z' H' locs' ls' hz' h')
  exact key N (Nat.le_refl N) z0 H locs ls rfl h0
theorem g_clamp_lt (x : Int32) : x.toNatClampNeg < 2147483648 := by
  have h := Int32.toInt_lt x
  have h2 : x.toNatClampNeg = x.toInt.toNat := rfl
  omega
theorem g_clamp_pos {x : Int32} (h : ¬ x < 0) : (x.toNatClampNeg : Int) = x.toInt := by
  have h2 : x.toNatClampNeg = x.toInt.toNat := rfl
  have h3 : ¬ x.toInt < 0 := fun q => h (Int32.lt_iff_toInt_lt.mpr q)
  omega
theorem g_rle {x : Int32} {i : Nat} (h : i < 2147483648) : x ≤ nI i ↔ x.toNatClampNeg ≤ i := by
  have h2 : x.toNatClampNeg = x.toInt.toNat := rfl
  rw [Int32.le_iff_toInt_le, nI_toInt h, h2]
  omega
theorem g_rlt {x : Int32} {i : Nat} (h0 : 0 < i) (h : i < 2147483648) : x < nI i ↔ x.toNatClampNeg < i := by
  have h2 : x.toNatClampNeg = x.toInt.toNat := rfl
  rw [Int32.lt_iff_toInt_lt, nI_toInt h, h2]
  omega
theorem g_nn {x : Int32} (h : 0 ≤ x) : ¬ x < 0 := by
  rw [Int32.le_iff_toInt_le] at h
  rw [Int32.lt_iff_toInt_lt]
  omega
theorem g_nle {x y : Int32} (h : x < y) : ¬ y ≤ x := by
  rw [Int32.lt_iff_toInt_lt] at h
  rw [Int32.le_iff_toInt_le]
  omega
theorem g_in {x : Int32} {n : Nat} (h : ¬ x < 0) (h2 : ¬ nI n ≤ x) (hn : n < 2147483648) : vp_in x n := by
  rw [vp_in_iff]
  rw [Int32.lt_iff_toInt_lt] at h
  rw [Int32.le_iff_toInt_le, nI_toInt hn] at h2
  have h3 : (0 : Int32).toInt = 0 := rfl
  omega
theorem g_tv {f : Nat → Int32} {e : Nat} (h : e < 2147483648) : (Value.int (f (nI e).toNatClampNeg)) = .int (f e) := by rw [nI_clamp h]
theorem g_nat {x : Int32} (h : ¬ x < 0) : x = nI x.toNatClampNeg := by
  have h1 := g_clamp_pos h
  have h2 := g_clamp_lt x
  apply Int32.toInt_inj.mp
  rw [nI_toInt h2]
  exact h1.symm
theorem g_dm1 (x : Int32) : x + Int32.ofInt (-1) = x - 1 := by rw [Int32.sub_eq_add_neg]; rfl
theorem g_dec1 (n : Nat) : nI (n + 1) + Int32.ofInt (-1) = nI n := pk_m1 n
theorem g_dec16 (n : Nat) : nI (16 * (n + 1)) + Int32.ofInt (-16) = nI (16 * n) := by
  rw [show nI (16 * (n + 1)) = nI (16 * n) + nI 16 from (nI_add (16 * n) 16).symm, Int32.add_assoc, show nI 16 + Int32.ofInt (-16) = 0 by decide, Int32.add_zero]
theorem g_land16 (k : Nat) (h : k < 4294967296) : k &&& 4294967280 = 16 * (k / 16) := by
  have e1 : (4294967280 : Nat) = (2 ^ 28 - 1) <<< 4 := by decide
  have e2 : 16 * (k / 16) = (k >>> 4) <<< 4 := by rw [Nat.shiftLeft_eq, Nat.shiftRight_eq_div_pow]; omega
  rw [e1, e2]
  apply Nat.eq_of_testBit_eq
  intro i
  rw [Nat.testBit_and, Nat.testBit_shiftLeft, Nat.testBit_shiftLeft, Nat.testBit_shiftRight, Nat.testBit_two_pow_sub_one]
  by_cases hi : i ≥ 4
  · have e3 : 4 + (i - 4) = i := by omega
    rw [e3]
    by_cases h2 : i - 4 < 28
    · simp [hi, h2]
    · have hb : k.testBit i = false := Nat.testBit_lt_two_pow (Nat.lt_of_lt_of_le h (by
        have : 2 ^ 32 ≤ 2 ^ i := Nat.pow_le_pow_right (by decide) (by omega)
        exact this))
      simp [hb]
  · simp [hi]
theorem g_m16 {x : Int32} (h : 16 ≤ x) : (x &&& (-16)) - 16 = nI (16 * (x.toNatClampNeg / 16 - 1)) := by
  have h0 : ¬ x < 0 := by
    rw [Int32.le_iff_toInt_le] at h
    rw [Int32.lt_iff_toInt_lt]
    have : (16 : Int32).toInt = 16 := rfl
    have : (0 : Int32).toInt = 0 := rfl
    omega
  have hk := g_clamp_lt x
  have hx := g_nat h0
  have h16 : 16 ≤ x.toNatClampNeg := by
    have h1 := g_clamp_pos h0
    rw [Int32.le_iff_toInt_le] at h
    have : (16 : Int32).toInt = 16 := rfl
    omega
  generalize x.toNatClampNeg = k at hx hk h16
  subst hx
  have e1 : nI k &&& (-16) = nI (k &&& 4294967280) := by
    apply Int32.toBitVec_inj.mp
    apply BitVec.eq_of_toNat_eq
    rw [Int32.toBitVec_and, BitVec.toNat_and, pk_tn (by omega), show (-16 : Int32).toBitVec.toNat = 4294967280 by decide, pk_tn]
    exact Nat.lt_of_le_of_lt Nat.and_le_left (by omega)
  rw [e1, g_land16 k (by omega), show (16 : Int32) = nI 16 from rfl, pk_sub (by omega)]
  exact congrArg nI (by omega)
theorem g_nz {v : Int32} (h : v = 0 ∨ v = 1) : narrow .boolean (.int v) = .int v := by rcases h with rfl | rfl <;> rfl
theorem g_fz {v : Int32} (h : v = 0 ∨ v = 1) : fits .boolean (.int v) = true := by rcases h with rfl | rfl <;> rfl
theorem g_out0_2 {x : Int32} (a : ¬ x = 0) (b : ¬ x = 1) (c : ¬ x = 2) : x.toInt < 0 ∨ 2 < x.toInt := by
  have e0 : ¬ x.toInt = 0 := fun q => a (Int32.toInt_inj.mp q)
  have e1 : ¬ x.toInt = 1 := fun q => b (Int32.toInt_inj.mp q)
  have e2 : ¬ x.toInt = 2 := fun q => c (Int32.toInt_inj.mp q)
  omega
theorem g_out0_3 {x : Int32} (a : ¬ x = 0) (b : ¬ x = 1) (c : ¬ x = 2) (d : ¬ x = 3) : x.toInt < 0 ∨ 3 < x.toInt := by
  have e0 : ¬ x.toInt = 0 := fun q => a (Int32.toInt_inj.mp q)
  have e1 : ¬ x.toInt = 1 := fun q => b (Int32.toInt_inj.mp q)
  have e2 : ¬ x.toInt = 2 := fun q => c (Int32.toInt_inj.mp q)
  have e3 : ¬ x.toInt = 3 := fun q => d (Int32.toInt_inj.mp q)
  omega
/-- the first k below n where p holds; n where none does -/
def g_first (p : Nat → Bool) : Nat → Nat
  | 0 => 0
  | n + 1 => if g_first p n < n then g_first p n else if p n then n else n + 1
theorem g_first_le (p : Nat → Bool) : ∀ n, g_first p n ≤ n
  | 0 => Nat.le_refl 0
  | n + 1 => by
    have ih := g_first_le p n
    unfold g_first
    split
    · omega
    · split <;> omega
theorem g_first_no (p : Nat → Bool) : ∀ n k, k < g_first p n → p k = false
  | 0, k, h => absurd h (Nat.not_lt_zero k)
  | n + 1, k, h => by
    have ih := g_first_no p n k
    have hl := g_first_le p n
    unfold g_first at h
    split at h
    · exact ih h
    · rename_i h1
      have e : g_first p n = n := by omega
      split at h
      · exact ih (by omega)
      · rename_i h2
        rcases Nat.lt_or_ge k n with q | q
        · exact ih (by omega)
        · have : k = n := by omega
          subst this
          exact Bool.eq_false_iff.mpr h2
theorem g_first_yes (p : Nat → Bool) : ∀ n, g_first p n < n → p (g_first p n) = true
  | 0, h => absurd h (Nat.not_lt_zero _)
  | n + 1, h => by
    have ih := g_first_yes p n
    unfold g_first at h ⊢
    split at h
    · rename_i h1
      rw [if_pos h1]
      exact ih h1
    · rename_i h1
      rw [if_neg h1]
      split at h
      · rename_i h2
        rw [if_pos h2]
        exact h2
      · omega
section GARR
variable {p : Program} {l : Launch} {e : Env} {R : Room} {s : State} {m : MethodId} {args : Array Value} {below : List Frame} {meth : Method} {c : Code} {H H0 : Heap} {locs : List Loc} {cells slots : Nat} {Q : State → Prop} {pc : Nat} {ls : Array Slot} {A : Nat → Prop} {ws : va_W} {cc : ByteArray} {D : va_G} {cl : List vw_C} {tys : List (ClassId × FieldType)} {a : Nat} {rest : List Value}
theorem g_iald (hexec : p.tables.exec = Jvm.exec) (hb : c.code = cc) (hK : va_K D cl tys s) (hP : va_P D cl ws H) (q0 t0 : Nat) {cA : ClassId} {n : Nat} {f : Nat → Int32} (ha : ws[q0]? = some (a, .inl (cA, n, .inl f))) (ht : tys[t0]? = some (cA, .int)) {e0 : Nat} (he : e0 < n) (hn : n < 2147483648) (hdg : decode cc pc = .ok (.iaload, 1))
    (kk : W p l e R s m args below meth c H locs cells slots Q (F0 m (pc + 1) ls (.int (f e0) :: rest))) : W p l e R s m args below meth c H locs cells slots Q (F0 m pc ls (.int (nI e0) :: .ref a :: rest)) := by
  refine va_iald hexec hb hK hP q0 t0 ha ht (vp_in_nI he (by omega)) hdg ?_
  rw [nI_clamp (by omega)]
  exact kk
theorem g_iast (hexec : p.tables.exec = Jvm.exec) (hb : c.code = cc) (hK : va_K D cl tys s) (hP : va_P D cl ws H) (hD : va_D A ws) (hS : va_S A H0 H locs) (q0 t0 : Nat) {cA : ClassId} {n : Nat} {f : Nat → Int32} (ha : ws[q0]? = some (a, .inl (cA, n, .inl f))) (ht : tys[t0]? = some (cA, .int)) {e0 : Nat} {x : Int32} (he : e0 < n) (hn : n < 2147483648) (hdg : decode cc pc = .ok (.iastore, 1))
    (kk : ∀ (H1 : Heap) (locs1 : List Loc), va_P D cl (ws.set q0 (a, .inl (cA, n, .inl (upd f e0 x)))) H1 → va_D A (ws.set q0 (a, .inl (cA, n, .inl (upd f e0 x)))) → va_S A H0 H1 locs1 → W p l e R s m args below meth c H1 locs1 cells slots Q (F0 m (pc + 1) ls rest)) : W p l e R s m args below meth c H locs cells slots Q (F0 m pc ls (.int x :: .int (nI e0) :: .ref a :: rest)) := by
  refine va_iast hexec hb hK hP hD hS q0 t0 ha ht (vp_in_nI he (by omega)) hdg (fun H1 locs1 h1 h2 h3 => ?_)
  rw [nI_clamp (by omega)] at h1 h2
  exact kk H1 locs1 h1 h2 h3
theorem g_aald (hexec : p.tables.exec = Jvm.exec) (hb : c.code = cc) (hK : va_K D cl tys s) (hP : va_P D cl ws H) (q0 t0 : Nat) {cA : ClassId} {C : String} {n : Nat} {f : Nat → Option Nat} (ha : ws[q0]? = some (a, .inl (cA, n, .inr (.inr (.inr (.inr f)))))) (ht : tys[t0]? = some (cA, .object C)) {e0 r : Nat} (he : e0 < n) (hn : n < 2147483648) (hf : f e0 = some r) (hdg : decode cc pc = .ok (.aaload, 1))
    (kk : W p l e R s m args below meth c H locs cells slots Q (F0 m (pc + 1) ls (.ref r :: rest))) : W p l e R s m args below meth c H locs cells slots Q (F0 m pc ls (.int (nI e0) :: .ref a :: rest)) := by
  refine va_aldq hexec hb hK hP q0 t0 ha ht (vp_in_nI he (by omega)) hdg ?_
  rw [nI_clamp (by omega), hf]
  exact kk
end GARR
/-- a row of objects: its cells' addresses -/
def gEnt (L : List Nat) : Nat → Option Nat := fun k => L[k]?
section GUCALL
variable {p : Program} {l : Launch} {e : Env} {R : Room} {s : State} {m : MethodId} {args : Array Value} {below : List Frame} {meth : Method} {c : Code} {H : Heap} {locs : List Loc} {cells slots : Nat} {Q : State → Prop} {pc : Nat} {ls : Array Slot} {E : gE} {A : Nat → Prop} {ws wc wr : va_W} {cc bytes : ByteArray} {nL maxL index n mc ms : Nat} {own C owner : String} {x y : MethodName} {ret : Option FieldType} {Ts wy : List Cond} {rm : Room} {b : Nat} {As rest st : List Value} {lv : List (Nat × Value)}
/-- a call of a method that a class above declares -/
theorem gUi {S : Type} {post : Int32 → S → Prop} {w1 : S → va_W} {av : List Value} (F : CallFix p m c cc nL s args Ts own) (hl : lv_has ls nL lv) (hV : gEV E A s s.heap) (hP : va_P E.1 vwCl ws H) (hD : va_D A ws) (hS : va_S A s.heap H locs) (hA : ∀ q, s.heap.size ≤ q → A q)
    (isC isR : List Nat) (hC : isC.map (fun i => ws[i]?) = wc.map some) (hR : isR.map (fun i => ws[i]?) = wr.map some) (hC2 : isC.filterMap (fun i => ws[i]?) = wc) (hdd : va_nd isC = true ∧ va_nd isR = true ∧ ∀ i ∈ isR, i ∉ isC)
    (q0 ci : Nat) {q : vw_C} {fs : List Value} (hci : vwCl[ci]? = some q) (he : wc[q0]? = some (b, .inr (ci, fs))) (hq : q.1 = C) (hM : gMi E l y wy rm mc ms av wc post w1) (cw : va_CU R s args own C owner index x y bytes maxL ret wy rm mc ms n) (hav : av = .ref b :: As) (hn : As.length = n) (hst : st = As.reverse ++ .ref b :: rest) (hcat : (rest.map fun v => v.category).sum ≤ 8) (hdg : decode cc pc = .ok (.invokevirtual index, 3)) (hf : cells + mc ≤ R.cells ∧ slots + ms ≤ R.slots)
    (kk : ∀ (r : Int32) (u : S) (H1 : Heap) (locs1 : List Loc), post r u → va_P E.1 vwCl (wr ++ w1 u) H1 → va_D A (wr ++ w1 u) → va_S A s.heap H1 locs1 → W p l e R s m args below meth c H1 locs1 (cells + mc) (slots + ms) Q (F0 m (pc + 3) ls (.int r :: rest))) : W p l e R s m args below meth c H locs cells slots Q (F0 m pc ls st) := by
  subst hst
  exact gBack_i hP hD hS hA isC isR hC hR hdd.2.1 hdd.2.2 (va_runU F (hM H.size) cw (gPreV hV hP hD hS hA isC hC hC2 hdd.1 q0 ci hci he hq hav) rfl hn hl.1 rfl (lv_room hcat) hdg hf) kk
theorem gUv {S : Type} {post : S → Prop} {w1 : S → va_W} {av : List Value} (F : CallFix p m c cc nL s args Ts own) (hl : lv_has ls nL lv) (hV : gEV E A s s.heap) (hP : va_P E.1 vwCl ws H) (hD : va_D A ws) (hS : va_S A s.heap H locs) (hA : ∀ q, s.heap.size ≤ q → A q)
    (isC isR : List Nat) (hC : isC.map (fun i => ws[i]?) = wc.map some) (hR : isR.map (fun i => ws[i]?) = wr.map some) (hC2 : isC.filterMap (fun i => ws[i]?) = wc) (hdd : va_nd isC = true ∧ va_nd isR = true ∧ ∀ i ∈ isR, i ∉ isC)
    (q0 ci : Nat) {q : vw_C} {fs : List Value} (hci : vwCl[ci]? = some q) (he : wc[q0]? = some (b, .inr (ci, fs))) (hq : q.1 = C) (hM : gMv E l y wy rm mc ms av wc post w1) (cw : va_CU R s args own C owner index x y bytes maxL ret wy rm mc ms n) (hav : av = .ref b :: As) (hn : As.length = n) (hst : st = As.reverse ++ .ref b :: rest) (hcat : (rest.map fun v => v.category).sum ≤ 8) (hdg : decode cc pc = .ok (.invokevirtual index, 3)) (hf : cells + mc ≤ R.cells ∧ slots + ms ≤ R.slots)
    (kk : ∀ (u : S) (H1 : Heap) (locs1 : List Loc), post u → va_P E.1 vwCl (wr ++ w1 u) H1 → va_D A (wr ++ w1 u) → va_S A s.heap H1 locs1 → W p l e R s m args below meth c H1 locs1 (cells + mc) (slots + ms) Q (F0 m (pc + 3) ls rest)) : W p l e R s m args below meth c H locs cells slots Q (F0 m pc ls st) := by
  subst hst
  exact gBack_v hP hD hS hA isC isR hC hR hdd.2.1 hdd.2.2 (va_runU F (hM H.size) cw (gPreV hV hP hD hS hA isC hC hC2 hdd.1 q0 ci hci he hq hav) rfl hn hl.1 rfl (lv_room hcat) hdg hf) kk
end GUCALL
