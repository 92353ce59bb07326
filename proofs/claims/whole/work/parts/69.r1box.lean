theorem chkA_s (a v n : Nat) : chkA a v (n + 1) = ((Nat.beq (tM a (n + 1)) 1 == Nat.beq (n + 1) v) && chkA a v n) := rfl
theorem beq_both {x y u w : Nat} (h : Nat.beq x y = Nat.beq u w) : x = y ↔ u = w := by
  constructor
  · intro e
    rw [e, Nat.beq_refl] at h
    exact Nat.eq_of_beq_eq_true h.symm
  · intro e
    rw [e, Nat.beq_refl] at h
    exact Nat.eq_of_beq_eq_true h
theorem chkA_iff {a v : Nat} (n : Nat) (h : chkA a v n = true) : ∀ j : Nat, j < n → (tM a (j + 1) = 1 ↔ j + 1 = v) := by
  induction n with
  | zero => exact fun j hj => absurd hj (Nat.not_lt_zero j)
  | succ n ih =>
    rw [chkA_s, Bool.and_eq_true] at h
    intro j hj
    by_cases hjn : j = n
    · rw [hjn]
      exact beq_both (beq_iff_eq.mp h.1)
    · exact ih h.2 j (by omega)
theorem ivN_lt (a : Nat) : ivN a < 256 := Nat.mod_lt _ (by decide)
theorem inv_R {i : Nat} (hi : i < 256) : itr (B_X11_init_1231 i) 255 0 = nI (ivN i) := by
  have hc := chkA_iff 255 (chk_all i hi)
  have hv := ivN_lt i
  generalize ivN i = v at hc hv
  have key : (fun (n : Nat) (z : Int32) => z = if 1 ≤ v ∧ v ≤ n then nI v else 0) 255 (itr (B_X11_init_1231 i) 255 0) := by
    refine itr_inv (fun (n : Nat) (z : Int32) => z = if 1 ≤ v ∧ v ≤ n then nI v else 0) (by rw [if_neg (by omega)]) ?_
    intro j z hj hz
    unfold B_X11_init_1231
    rw [gLet_p, L_times hi (show 1 + j < 256 by omega), show 1 + j = j + 1 by omega]
    have ht : tM i (j + 1) < 256 := tM_lt hi
    by_cases h1 : tM i (j + 1) = 1
    · have h2 := (hc j hj).mp h1
      rw [if_pos (show nI (tM i (j + 1)) = 1 by rw [h1]; rfl), if_pos (by omega), h2]
    · have h2 : ¬ j + 1 = v := fun e => h1 ((hc j hj).mpr e)
      rw [if_neg (show ¬ nI (tM i (j + 1)) = 1 from fun e => h1 ((nI_inj (b := 1) (by omega) (by decide)).mp e)), hz]
      by_cases h3 : 1 ≤ v ∧ v ≤ j
      · rw [if_pos h3, if_pos (by omega)]
      · rw [if_neg h3, if_neg (by omega)]
  rw [show itr (B_X11_init_1231 i) 255 0 = _ from key]
  by_cases h0 : v = 0
  · rw [if_neg (by omega), h0]; rfl
  · rw [if_pos (by omega)]
def aff (x : Int32) : Int32 :=
  gLet (((x <<< (0 &&& 31)) ||| (x >>> (8 &&& 31))) &&& 255) fun v_2322 =>
  gLet (((x <<< (1 &&& 31)) ||| (x >>> (7 &&& 31))) &&& 255) fun v_2327 =>
  gLet (((x <<< (2 &&& 31)) ||| (x >>> (6 &&& 31))) &&& 255) fun v_2332 =>
  gLet (((x <<< (3 &&& 31)) ||| (x >>> (5 &&& 31))) &&& 255) fun v_2337 =>
  gLet (((x <<< (4 &&& 31)) ||| (x >>> (4 &&& 31))) &&& 255) fun v_2342 =>
  (((((99 ^^^ v_2322) ^^^ v_2327) ^^^ v_2332) ^^^ v_2337) ^^^ v_2342)
theorem aff_c : ∀ i : Fin 256, aff (nI (ivN i.val)) = gTf 5 i.val := by decide +kernel
theorem box65 : ∀ i : Fin 256, gTf 6 (gTf 5 i.val).toNatClampNeg = nI i.val := by decide +kernel
theorem box56 : ∀ i : Fin 256, gTf 5 (gTf 6 i.val).toNatClampNeg = nI i.val := by decide +kernel
theorem boxes_R : (∀ k : Nat, k < 256 → (itr B_X11_init_1219 256 ((fun _ => 0), (fun _ => 0))).1 k = gTf 5 k) ∧ ∀ k : Nat, k < 256 → (itr B_X11_init_1219 256 ((fun _ => 0), (fun _ => 0))).2 k = gTf 6 k := by
  have key : (fun (n : Nat) (z : (Nat → Int32) × (Nat → Int32)) => (∀ k : Nat, k < n → z.1 k = gTf 5 k) ∧ ∀ x : Nat, x < 256 → (gTf 6 x).toNatClampNeg < n → z.2 x = gTf 6 x) 256 (itr B_X11_init_1219 256 ((fun _ => 0), (fun _ => 0))) := by
    refine itr_inv (fun (n : Nat) (z : (Nat → Int32) × (Nat → Int32)) => (∀ k : Nat, k < n → z.1 k = gTf 5 k) ∧ ∀ x : Nat, x < 256 → (gTf 6 x).toNatClampNeg < n → z.2 x = gTf 6 x) ⟨fun k hk => absurd hk (Nat.not_lt_zero k), fun x _ hk => absurd hk (Nat.not_lt_zero _)⟩ ?_
    intro i z hi hz
    obtain ⟨h1, h2⟩ := hz
    have e : B_X11_init_1219 i z = (upd z.1 i (gTf 5 i), upd z.2 (gTf 5 i).toNatClampNeg (nI i)) := by
      unfold B_X11_init_1219
      rw [gLet_p, inv_R hi]
      simp only [gLet_p]
      rw [← aff_c ⟨i, hi⟩]
      unfold aff
      simp only [gLet_p]
    rw [e]
    refine ⟨fun k hk => ?_, fun x hx hk => ?_⟩
    · show upd z.1 i (gTf 5 i) k = _
      by_cases hki : k = i
      · rw [hki, upd_s]
      · rw [upd_n _ hki, h1 k (by omega)]
    · show upd z.2 (gTf 5 i).toNatClampNeg (nI i) x = _
      by_cases hxm : x = (gTf 5 i).toNatClampNeg
      · rw [hxm, upd_s]
        exact (box65 ⟨i, hi⟩).symm
      · rw [upd_n _ hxm]
        by_cases hlt : (gTf 6 x).toNatClampNeg < i
        · exact h2 x hx hlt
        · have he : (gTf 6 x).toNatClampNeg = i := by omega
          have h56 := box56 ⟨x, hx⟩
          rw [he] at h56
          exact absurd (show x = (gTf 5 i).toNatClampNeg by rw [h56]; exact (nI_clamp (by omega)).symm) hxm
  exact ⟨key.1, fun k hk => key.2 k hk (isB_cl (T6_B k hk))⟩
set_option maxRecDepth 100000 in
theorem init_box : F_X11_init.2.2.2.1 = (itr B_X11_init_1219 256 ((fun _ => 0), (fun _ => 0))).1 ∧ F_X11_init.2.2.2.2 = (itr B_X11_init_1219 256 ((fun _ => 0), (fun _ => 0))).2 := ⟨rfl, rfl⟩
set_option maxRecDepth 100000 in
theorem init_fill : ∀ i : Fin 32, F_X11_init.1 i.val = gTf 0 i.val := by decide +kernel
set_option maxRecDepth 100000 in
theorem init_sin : ∀ i : Fin 64, F_X11_init.2.1 i.val = gTf 1 i.val := by decide +kernel
set_option maxRecDepth 100000 in
theorem init_root : ∀ i : Fin 64, F_X11_init.2.2.1 i.val = gTf 3 i.val := by decide +kernel
