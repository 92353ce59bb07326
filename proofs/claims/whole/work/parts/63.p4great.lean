/-! GREAT: the class's sum is the reference's -/
theorem tl7 (v : Int32) : F_X2_turned v 7 = F_X11_left v 25 := Int32.or_comm _ _
theorem tl18 (v : Int32) : F_X2_turned v 18 = F_X11_left v 14 := Int32.or_comm _ _
theorem tl17 (v : Int32) : F_X2_turned v 17 = F_X11_left v 15 := Int32.or_comm _ _
theorem tl19 (v : Int32) : F_X2_turned v 19 = F_X11_left v 13 := Int32.or_comm _ _
theorem tl6 (v : Int32) : F_X2_turned v 6 = F_X11_left v 26 := Int32.or_comm _ _
theorem tl11 (v : Int32) : F_X2_turned v 11 = F_X11_left v 21 := Int32.or_comm _ _
theorem tl25 (v : Int32) : F_X2_turned v 25 = F_X11_left v 7 := Int32.or_comm _ _
theorem tl2 (v : Int32) : F_X2_turned v 2 = F_X11_left v 30 := Int32.or_comm _ _
theorem tl13 (v : Int32) : F_X2_turned v 13 = F_X11_left v 19 := Int32.or_comm _ _
theorem tl22 (v : Int32) : F_X2_turned v 22 = F_X11_left v 10 := Int32.or_comm _ _
theorem ch_eq (e f g : Int32) : ((e &&& f) ^^^ ((e ^^^ (-1)) &&& g)) = g ^^^ (e &&& (f ^^^ g)) := by
  apply i32_ext
  rw [Int32.toBitVec_xor, Int32.toBitVec_and, Int32.toBitVec_and, neg1, Int32.toBitVec_xor, Int32.toBitVec_and, Int32.toBitVec_xor]
  apply BitVec.eq_of_getLsbD_eq
  intro i hi
  simp only [BitVec.getLsbD_and, BitVec.getLsbD_not, BitVec.getLsbD_xor, hi, decide_true, Bool.true_and]
  cases e.toBitVec.getLsbD i <;> cases f.toBitVec.getLsbD i <;> cases g.toBitVec.getLsbD i <;> rfl
theorem maj_eq (a b c : Int32) : (((a &&& b) ^^^ (a &&& c)) ^^^ (b &&& c)) = (a &&& b) ||| (c &&& (a ||| b)) := by
  apply i32_ext
  simp only [Int32.toBitVec_xor, Int32.toBitVec_and, Int32.toBitVec_or]
  apply BitVec.eq_of_getLsbD_eq
  intro i hi
  simp only [BitVec.getLsbD_and, BitVec.getLsbD_or, BitVec.getLsbD_xor]
  cases a.toBitVec.getLsbD i <;> cases b.toBitVec.getLsbD i <;> cases c.toBitVec.getLsbD i <;> rfl
theorem add3 (a s b : Int32) : (a + s) + b = (a + b) + s := by rw [Int32.add_assoc, Int32.add_comm s b, ← Int32.add_assoc]
theorem stretch_R {wd u : Nat → Int32} (e : eqA 16 wd u) : eqA 64 (F_X2_stretch wd) (itr B_X11_great_96 48 u) := by
  have h : eqA (16 + 48) (itr B_X2_stretch_3 48 wd) (itr B_X11_great_96 48 u) := by
    refine itr_rel (fun i z w => eqA (16 + i) z w) e ?_
    intro i z w hi hz k hk
    unfold B_X2_stretch_3 B_X11_great_96
    dsimp only [gLet]
    by_cases hk2 : k = 16 + i
    · subst hk2
      rw [upd_s, upd_s, tl7, tl18, tl17, tl19, hz (16 + i - 16) (by omega), hz (16 + i - 15) (by omega), hz (16 + i - 7) (by omega), hz (16 + i - 2) (by omega)]
      exact congrArg (fun t => t + _) (add3 _ _ _)
    · rw [upd_n _ hk2, upd_n _ hk2]
      exact hz k (by omega)
  exact h
def Z8 : Type := Int32 × Int32 × Int32 × Int32 × Int32 × Int32 × Int32 × Int32
def rel8 (z : Int32 × Int32 × Int32 × Int32 × Int32 × Int32 × Int32 × Int32) (w : Nat → Int32) : Prop := w 0 = z.1 ∧ w 1 = z.2.1 ∧ w 2 = z.2.2.1 ∧ w 3 = z.2.2.2.1 ∧ w 4 = z.2.2.2.2.1 ∧ w 5 = z.2.2.2.2.2.1 ∧ w 6 = z.2.2.2.2.2.2.1 ∧ w 7 = z.2.2.2.2.2.2.2
theorem sh7 (w : Nat → Int32) (a b c d e f g : Int32) (k : Nat) (x y : Int32) : upd (upd w 4 x) 0 y k = if k = 0 then y else if k = 4 then x else w k := by
  unfold upd
  split
  · rfl
  · split
    · rfl
    · rfl
set_option maxHeartbeats 2000000 in
set_option maxRecDepth 20000 in
theorem great_step {wd u rt : Nat → Int32} {i : Nat} (hi : i < 64) (hr : rt i = gTf 3 i) (hu : wd i = u i) {z : Int32 × Int32 × Int32 × Int32 × Int32 × Int32 × Int32 × Int32} {w : Nat → Int32} (h : rel8 z w) : rel8 (B_X2_mix_66 wd i z) (B_X11_great_225 rt u i w) := by
  obtain ⟨a, b, c, d, e, f, g, k⟩ := z
  obtain ⟨h0, h1, h2, h3, h4, h5, h6, h7⟩ := h
  dsimp only at h0 h1 h2 h3 h4 h5 h6 h7
  unfold rel8 B_X2_mix_66 B_X11_great_225
  dsimp only [gLet]
  simp (config := {decide := true}) only [upd, if_true, if_false, Nat.reduceEqDiff, reduceIte, h0, h1, h2, h3, h4, h5, h6, h7, tl6, tl11, tl25, tl2, tl13, tl22, ch_eq, maj_eq, hr, hu, and_self]
