/-! AES: products, columns, rounds -/
def twN (a : Nat) : Nat := if a < 128 then 2 * a else (2 * a - 256) ^^^ 27
theorem tw_c : ∀ a : Fin 256, F_X0_twice (nI a.val) = nI (twN a.val) ∧ twN a.val < 256 := by decide +kernel
theorem tw_nI {a : Nat} (h : a < 256) : F_X0_twice (nI a) = nI (twN a) := (tw_c ⟨a, h⟩).1
theorem tw_lt {a : Nat} (h : a < 256) : twN a < 256 := (tw_c ⟨a, h⟩).2
theorem tw_x : ∀ a b : Fin 256, twN (a.val ^^^ b.val) = twN a.val ^^^ twN b.val := by decide +kernel
theorem isB_tw {x : Int32} (h : isB x) : isB (F_X0_twice x) := by
  obtain ⟨a, ha, rfl⟩ := isB_ex h
  rw [tw_nI ha]
  exact isB_of (tw_lt ha)
theorem tw_xor {x y : Int32} (hx : isB x) (hy : isB y) : F_X0_twice (x ^^^ y) = F_X0_twice x ^^^ F_X0_twice y := by
  obtain ⟨a, ha, rfl⟩ := isB_ex hx
  obtain ⟨b, hb, rfl⟩ := isB_ex hy
  have hab : a ^^^ b < 256 := Nat.xor_lt_two_pow (n := 8) ha hb
  rw [g_xor, tw_nI hab, tw_nI ha, tw_nI hb, g_xor]
  exact congrArg nI (tw_x ⟨a, ha⟩ ⟨b, hb⟩)
theorem tm_c : ∀ b : Fin 256, tM 1 b.val = b.val ∧ tM 2 b.val = twN b.val ∧ tM b.val 2 = twN b.val ∧ tM 3 b.val = twN b.val ^^^ b.val ∧ tM 9 b.val = twN (twN (twN b.val)) ^^^ b.val ∧ tM 11 b.val = (twN (twN (twN b.val)) ^^^ twN b.val) ^^^ b.val ∧ tM 13 b.val = (twN (twN (twN b.val)) ^^^ twN (twN b.val)) ^^^ b.val ∧ tM 14 b.val = (twN (twN (twN b.val)) ^^^ twN (twN b.val)) ^^^ twN b.val := by decide +kernel
theorem ti1 {x : Int32} (h : isB x) : F_X11_times 1 x = x := by
  obtain ⟨b, hb, rfl⟩ := isB_ex h
  rw [show (1 : Int32) = nI 1 from rfl, L_times (by decide) hb, (tm_c ⟨b, hb⟩).1]
theorem ti2 {x : Int32} (h : isB x) : F_X11_times 2 x = F_X0_twice x := by
  obtain ⟨b, hb, rfl⟩ := isB_ex h
  rw [show (2 : Int32) = nI 2 from rfl, L_times (by decide) hb, (tm_c ⟨b, hb⟩).2.1, tw_nI hb]
theorem ti2' {x : Int32} (h : isB x) : F_X11_times x 2 = F_X0_twice x := by
  obtain ⟨b, hb, rfl⟩ := isB_ex h
  rw [show (2 : Int32) = nI 2 from rfl, L_times hb (by decide), (tm_c ⟨b, hb⟩).2.2.1, tw_nI hb]
theorem ti3 {x : Int32} (h : isB x) : F_X11_times 3 x = F_X0_twice x ^^^ x := by
  obtain ⟨b, hb, rfl⟩ := isB_ex h
  rw [show (3 : Int32) = nI 3 from rfl, L_times (by decide) hb, (tm_c ⟨b, hb⟩).2.2.2.1, tw_nI hb, g_xor]
theorem ti9 {x : Int32} (h : isB x) : F_X11_times 9 x = F_X0_twice (F_X0_twice (F_X0_twice x)) ^^^ x := by
  obtain ⟨b, hb, rfl⟩ := isB_ex h
  rw [show (9 : Int32) = nI 9 from rfl, L_times (by decide) hb, (tm_c ⟨b, hb⟩).2.2.2.2.1, tw_nI hb, tw_nI (tw_lt hb), tw_nI (tw_lt (tw_lt hb)), g_xor]
theorem ti11 {x : Int32} (h : isB x) : F_X11_times 11 x = (F_X0_twice (F_X0_twice (F_X0_twice x)) ^^^ F_X0_twice x) ^^^ x := by
  obtain ⟨b, hb, rfl⟩ := isB_ex h
  rw [show (11 : Int32) = nI 11 from rfl, L_times (by decide) hb, (tm_c ⟨b, hb⟩).2.2.2.2.2.1, tw_nI hb, tw_nI (tw_lt hb), tw_nI (tw_lt (tw_lt hb)), g_xor, g_xor]
theorem ti13 {x : Int32} (h : isB x) : F_X11_times 13 x = (F_X0_twice (F_X0_twice (F_X0_twice x)) ^^^ F_X0_twice (F_X0_twice x)) ^^^ x := by
  obtain ⟨b, hb, rfl⟩ := isB_ex h
  rw [show (13 : Int32) = nI 13 from rfl, L_times (by decide) hb, (tm_c ⟨b, hb⟩).2.2.2.2.2.2.1, tw_nI hb, tw_nI (tw_lt hb), tw_nI (tw_lt (tw_lt hb)), g_xor, g_xor]
theorem ti14 {x : Int32} (h : isB x) : F_X11_times 14 x = (F_X0_twice (F_X0_twice (F_X0_twice x)) ^^^ F_X0_twice (F_X0_twice x)) ^^^ F_X0_twice x := by
  obtain ⟨b, hb, rfl⟩ := isB_ex h
  rw [show (14 : Int32) = nI 14 from rfl, L_times (by decide) hb, (tm_c ⟨b, hb⟩).2.2.2.2.2.2.2, tw_nI hb, tw_nI (tw_lt hb), tw_nI (tw_lt (tw_lt hb)), g_xor, g_xor]
def mx0 (s : Nat → Int32) (a b c d : Nat) : Int32 := (((F_X0_twice (s a) ^^^ F_X0_twice (s b)) ^^^ s b) ^^^ s c) ^^^ s d
def ux0 (s : Nat → Int32) (a b c d : Nat) : Int32 := (((((F_X0_twice (F_X0_twice (F_X0_twice (((s a ^^^ s b) ^^^ s c) ^^^ s d)))) ^^^ (F_X0_twice (F_X0_twice (s a ^^^ s c)))) ^^^ (F_X0_twice (s a ^^^ s b))) ^^^ s b) ^^^ s c) ^^^ s d
def rot (k j : Nat) : Nat := 4 * (k / 4) + (k + j) % 4
theorem mx00_1 (cl mv : Nat → Int32) : F_X0_mixColumn cl mv 0 1 = upd (upd (upd (upd cl 0 (mx0 mv 0 1 2 3)) 1 (mx0 mv 1 2 3 0)) 2 (mx0 mv 2 3 0 1)) 3 (mx0 mv 3 0 1 2) := rfl
theorem mx00_0 (cl mv : Nat → Int32) : F_X0_mixColumn cl mv 0 0 = upd (upd (upd (upd cl 0 (mv 0)) 1 (mv 1)) 2 (mv 2)) 3 (mv 3) := rfl
theorem ux00_1 (cl mv : Nat → Int32) : F_X0_unmixColumn cl mv 0 1 = upd (upd (upd (upd mv 0 (ux0 cl 0 1 2 3)) 1 (ux0 cl 1 2 3 0)) 2 (ux0 cl 2 3 0 1)) 3 (ux0 cl 3 0 1 2) := rfl
theorem ux00_0 (cl mv : Nat → Int32) : F_X0_unmixColumn cl mv 0 0 = upd (upd (upd (upd mv 0 (cl 0)) 1 (cl 1)) 2 (cl 2)) 3 (cl 3) := rfl
theorem mx04_1 (cl mv : Nat → Int32) : F_X0_mixColumn cl mv 4 1 = upd (upd (upd (upd cl 4 (mx0 mv 4 5 6 7)) 5 (mx0 mv 5 6 7 4)) 6 (mx0 mv 6 7 4 5)) 7 (mx0 mv 7 4 5 6) := rfl
theorem mx04_0 (cl mv : Nat → Int32) : F_X0_mixColumn cl mv 4 0 = upd (upd (upd (upd cl 4 (mv 4)) 5 (mv 5)) 6 (mv 6)) 7 (mv 7) := rfl
theorem ux04_1 (cl mv : Nat → Int32) : F_X0_unmixColumn cl mv 4 1 = upd (upd (upd (upd mv 4 (ux0 cl 4 5 6 7)) 5 (ux0 cl 5 6 7 4)) 6 (ux0 cl 6 7 4 5)) 7 (ux0 cl 7 4 5 6) := rfl
theorem ux04_0 (cl mv : Nat → Int32) : F_X0_unmixColumn cl mv 4 0 = upd (upd (upd (upd mv 4 (cl 4)) 5 (cl 5)) 6 (cl 6)) 7 (cl 7) := rfl
theorem mx08_1 (cl mv : Nat → Int32) : F_X0_mixColumn cl mv 8 1 = upd (upd (upd (upd cl 8 (mx0 mv 8 9 10 11)) 9 (mx0 mv 9 10 11 8)) 10 (mx0 mv 10 11 8 9)) 11 (mx0 mv 11 8 9 10) := rfl
theorem mx08_0 (cl mv : Nat → Int32) : F_X0_mixColumn cl mv 8 0 = upd (upd (upd (upd cl 8 (mv 8)) 9 (mv 9)) 10 (mv 10)) 11 (mv 11) := rfl
theorem ux08_1 (cl mv : Nat → Int32) : F_X0_unmixColumn cl mv 8 1 = upd (upd (upd (upd mv 8 (ux0 cl 8 9 10 11)) 9 (ux0 cl 9 10 11 8)) 10 (ux0 cl 10 11 8 9)) 11 (ux0 cl 11 8 9 10) := rfl
theorem ux08_0 (cl mv : Nat → Int32) : F_X0_unmixColumn cl mv 8 0 = upd (upd (upd (upd mv 8 (cl 8)) 9 (cl 9)) 10 (cl 10)) 11 (cl 11) := rfl
theorem mx012_1 (cl mv : Nat → Int32) : F_X0_mixColumn cl mv 12 1 = upd (upd (upd (upd cl 12 (mx0 mv 12 13 14 15)) 13 (mx0 mv 13 14 15 12)) 14 (mx0 mv 14 15 12 13)) 15 (mx0 mv 15 12 13 14) := rfl
theorem mx012_0 (cl mv : Nat → Int32) : F_X0_mixColumn cl mv 12 0 = upd (upd (upd (upd cl 12 (mv 12)) 13 (mv 13)) 14 (mv 14)) 15 (mv 15) := rfl
theorem ux012_1 (cl mv : Nat → Int32) : F_X0_unmixColumn cl mv 12 1 = upd (upd (upd (upd mv 12 (ux0 cl 12 13 14 15)) 13 (ux0 cl 13 14 15 12)) 14 (ux0 cl 14 15 12 13)) 15 (ux0 cl 15 12 13 14) := rfl
theorem ux012_0 (cl mv : Nat → Int32) : F_X0_unmixColumn cl mv 12 0 = upd (upd (upd (upd mv 12 (cl 12)) 13 (cl 13)) 14 (cl 14)) 15 (cl 15) := rfl
theorem mixAll1 (cl mv : Nat → Int32) : eqA 16 (F_X0_mixColumn (F_X0_mixColumn (F_X0_mixColumn (F_X0_mixColumn cl mv 0 1) mv 4 1) mv 8 1) mv 12 1) (fun k => mx0 mv (rot k 0) (rot k 1) (rot k 2) (rot k 3)) := by
  rw [mx00_1, mx04_1, mx08_1, mx012_1]
  intro k hk
  match k, hk with
  | 0, _ => simp [upd, rot]
  | 1, _ => simp [upd, rot]
  | 2, _ => simp [upd, rot]
  | 3, _ => simp [upd, rot]
  | 4, _ => simp [upd, rot]
  | 5, _ => simp [upd, rot]
  | 6, _ => simp [upd, rot]
  | 7, _ => simp [upd, rot]
  | 8, _ => simp [upd, rot]
  | 9, _ => simp [upd, rot]
  | 10, _ => simp [upd, rot]
  | 11, _ => simp [upd, rot]
  | 12, _ => simp [upd, rot]
  | 13, _ => simp [upd, rot]
  | 14, _ => simp [upd, rot]
  | 15, _ => simp [upd, rot]
  | k + 16, h => exact absurd h (by omega)
theorem mixAll0 (cl mv : Nat → Int32) : eqA 16 (F_X0_mixColumn (F_X0_mixColumn (F_X0_mixColumn (F_X0_mixColumn cl mv 0 0) mv 4 0) mv 8 0) mv 12 0) mv := by
  rw [mx00_0, mx04_0, mx08_0, mx012_0]
  intro k hk
  match k, hk with
  | 0, _ => simp [upd, rot]
  | 1, _ => simp [upd, rot]
  | 2, _ => simp [upd, rot]
  | 3, _ => simp [upd, rot]
  | 4, _ => simp [upd, rot]
  | 5, _ => simp [upd, rot]
  | 6, _ => simp [upd, rot]
  | 7, _ => simp [upd, rot]
  | 8, _ => simp [upd, rot]
  | 9, _ => simp [upd, rot]
  | 10, _ => simp [upd, rot]
  | 11, _ => simp [upd, rot]
  | 12, _ => simp [upd, rot]
  | 13, _ => simp [upd, rot]
  | 14, _ => simp [upd, rot]
  | 15, _ => simp [upd, rot]
  | k + 16, h => exact absurd h (by omega)
theorem unmixAll1 (cl mv : Nat → Int32) : eqA 16 (F_X0_unmixColumn cl (F_X0_unmixColumn cl (F_X0_unmixColumn cl (F_X0_unmixColumn cl mv 0 1) 4 1) 8 1) 12 1) (fun k => ux0 cl (rot k 0) (rot k 1) (rot k 2) (rot k 3)) := by
  rw [ux00_1, ux04_1, ux08_1, ux012_1]
  intro k hk
  match k, hk with
  | 0, _ => simp [upd, rot]
  | 1, _ => simp [upd, rot]
  | 2, _ => simp [upd, rot]
  | 3, _ => simp [upd, rot]
  | 4, _ => simp [upd, rot]
  | 5, _ => simp [upd, rot]
  | 6, _ => simp [upd, rot]
  | 7, _ => simp [upd, rot]
  | 8, _ => simp [upd, rot]
  | 9, _ => simp [upd, rot]
  | 10, _ => simp [upd, rot]
  | 11, _ => simp [upd, rot]
  | 12, _ => simp [upd, rot]
  | 13, _ => simp [upd, rot]
  | 14, _ => simp [upd, rot]
  | 15, _ => simp [upd, rot]
  | k + 16, h => exact absurd h (by omega)
theorem unmixAll0 (cl mv : Nat → Int32) : eqA 16 (F_X0_unmixColumn cl (F_X0_unmixColumn cl (F_X0_unmixColumn cl (F_X0_unmixColumn cl mv 0 0) 4 0) 8 0) 12 0) cl := by
  rw [ux00_0, ux04_0, ux08_0, ux012_0]
  intro k hk
  match k, hk with
  | 0, _ => simp [upd, rot]
  | 1, _ => simp [upd, rot]
  | 2, _ => simp [upd, rot]
  | 3, _ => simp [upd, rot]
  | 4, _ => simp [upd, rot]
  | 5, _ => simp [upd, rot]
  | 6, _ => simp [upd, rot]
  | 7, _ => simp [upd, rot]
  | 8, _ => simp [upd, rot]
  | 9, _ => simp [upd, rot]
  | 10, _ => simp [upd, rot]
  | 11, _ => simp [upd, rot]
  | 12, _ => simp [upd, rot]
  | 13, _ => simp [upd, rot]
  | 14, _ => simp [upd, rot]
  | 15, _ => simp [upd, rot]
  | k + 16, h => exact absurd h (by omega)
theorem rot_lt {k j : Nat} (h : k < 16) : rot k j < 16 := by unfold rot; omega
theorem rot_0 (k : Nat) : rot k 0 = k := by unfold rot; omega
theorem mixM (st ot : Nat → Int32) (a b c d : Int32) (k : Nat) (hk : k < 16) : (F_X11_mix st ot a b c d).1 k = ((F_X11_times a (st (rot k 0)) ^^^ F_X11_times b (st (rot k 1))) ^^^ F_X11_times c (st (rot k 2))) ^^^ F_X11_times d (st (rot k 3)) := by
  have e1 : (F_X11_mix st ot a b c d).1 k = itr (B_X11_mix_3 a st b c d) 16 ot k := itr_fill (b := B_X11_mix_104 (itr (B_X11_mix_3 a st b c d) 16 ot)) (w := fun i => itr (B_X11_mix_3 a st b c d) 16 ot i) (fun _ _ => rfl) 16 st k hk
  rw [e1, itr_fill (b := B_X11_mix_3 a st b c d) (w := fun i => ((F_X11_times a (st i) ^^^ F_X11_times b (st ((i - (i % 4)) + ((i + 1) % 4)))) ^^^ F_X11_times c (st ((i - (i % 4)) + ((i + 2) % 4)))) ^^^ F_X11_times d (st ((i - (i % 4)) + ((i + 3) % 4)))) (fun _ _ => rfl) 16 ot k hk]
  rw [rot_0, show (k - k % 4) + (k + 1) % 4 = rot k 1 by unfold rot; omega, show (k - k % 4) + (k + 2) % 4 = rot k 2 by unfold rot; omega, show (k - k % 4) + (k + 3) % 4 = rot k 3 by unfold rot; omega]
theorem mix_R {cl mv st ot : Nat → Int32} (e : eqA 16 mv st) (hB : bA 16 st) : eqA 16 (F_X0_mixColumn (F_X0_mixColumn (F_X0_mixColumn (F_X0_mixColumn cl mv 0 1) mv 4 1) mv 8 1) mv 12 1) (F_X11_mix st ot 2 3 1 1).1 := by
  intro k hk
  have r (j : Nat) : rot k j < 16 := rot_lt hk
  rw [mixAll1 cl mv k hk, mixM st ot 2 3 1 1 k hk, ti2 (hB _ (r 0)), ti3 (hB _ (r 1)), ti1 (hB _ (r 2)), ti1 (hB _ (r 3))]
  show mx0 mv (rot k 0) (rot k 1) (rot k 2) (rot k 3) = _
  unfold mx0
  rw [e _ (r 0), e _ (r 1), e _ (r 2), e _ (r 3), Int32.xor_assoc (F_X0_twice (st (rot k 0)))]
theorem unmix_R {cl mv st ot : Nat → Int32} (e : eqA 16 cl st) (hB : bA 16 st) : eqA 16 (F_X0_unmixColumn cl (F_X0_unmixColumn cl (F_X0_unmixColumn cl (F_X0_unmixColumn cl mv 0 1) 4 1) 8 1) 12 1) (F_X11_mix st ot 14 11 13 9).1 := by
  intro k hk
  have r (j : Nat) : rot k j < 16 := rot_lt hk
  rw [unmixAll1 cl mv k hk, mixM st ot 14 11 13 9 k hk, ti14 (hB _ (r 0)), ti11 (hB _ (r 1)), ti13 (hB _ (r 2)), ti9 (hB _ (r 3))]
  show ux0 cl (rot k 0) (rot k 1) (rot k 2) (rot k 3) = _
  unfold ux0
  rw [e _ (r 0), e _ (r 1), e _ (r 2), e _ (r 3)]
  have ha := hB _ (r 0)
  have hb := hB _ (r 1)
  have hc := hB _ (r 2)
  have hd := hB _ (r 3)
  generalize st (rot k 0) = a at *
  generalize st (rot k 1) = b at *
  generalize st (rot k 2) = c at *
  generalize st (rot k 3) = d at *
  have t2 {x y : Int32} (hx : isB x) (hy : isB y) : F_X0_twice (F_X0_twice (x ^^^ y)) = F_X0_twice (F_X0_twice x) ^^^ F_X0_twice (F_X0_twice y) := by rw [tw_xor hx hy, tw_xor (isB_tw hx) (isB_tw hy)]
  have t3 {x y : Int32} (hx : isB x) (hy : isB y) : F_X0_twice (F_X0_twice (F_X0_twice (x ^^^ y))) = F_X0_twice (F_X0_twice (F_X0_twice x)) ^^^ F_X0_twice (F_X0_twice (F_X0_twice y)) := by rw [t2 hx hy, tw_xor (isB_tw (isB_tw hx)) (isB_tw (isB_tw hy))]
  rw [t3 (isB_xor (isB_xor ha hb) hc) hd, t3 (isB_xor ha hb) hc, t3 ha hb, t2 ha hc, tw_xor ha hb]
  ac_rfl
