/-! the reference: what the contracts of its upper half need of the models -/
theorem gks_2 (rv : Nat) : rv = 2 → gks rv = 5 := fun h => by rw [h]; rfl
theorem gks_16 (rv : Nat) (h5 : rv ≤ 4) : ¬ rv = 2 → gks rv = 16 := fun h => by
  unfold gks
  rw [if_neg h, if_neg (by omega)]
theorem gok_le (rv : Nat) : 0 < gok rv ∧ gok rv ≤ 32 := by
  have h := gks_le rv
  unfold gok
  split <;> omega
theorem gok_ce : gok 4 = 16 := by decide
theorem gok_cl : gok 5 = 32 := by decide
theorem itr_cnt {σ : Type} (b : Nat → Nat × σ → Nat × σ) (hb : ∀ i z, (b i z).1 = z.1 + 1) (i : Nat) (z : Nat × σ) : (itr b i z).1 = z.1 + i := by
  induction i with
  | zero => rw [itr_0]; rfl
  | succ i ih => rw [itr_s, hb, ih]; rfl
theorem itr_tape {tape e0 : Nat → Int32} {m t : Nat} (b : Nat → Nat × (Nat → Int32) → Nat × (Nat → Int32)) (f : Nat → Nat) (hb : ∀ i z, b i z = (z.1 + 1, upd z.2 (f i) (tape (z.1 + 1 - 1)))) (ht : bA 400 tape) (N : Nat) (hN : t + N ≤ 400) (he : bA m e0) (i : Nat) (hi : i ≤ N) : bA m (itr b i (t, e0)).2 := by
  induction i with
  | zero => rw [itr_0]; exact he
  | succ i ih =>
    have ih := ih (by omega)
    have hc : (itr b i (t, e0)).1 = t + i := itr_cnt b (fun i z => by rw [hb]) i (t, e0)
    rw [itr_s, hb]
    exact isB_upd ih (ht _ (by omega)) _
theorem itr_tape0 {tape e0 : Nat → Int32} {t : Nat} (b : Nat → Nat × (Nat → Int32) → Nat × (Nat → Int32)) (hb : ∀ i z, b i z = (z.1 + 1, upd z.2 i (tape (z.1 + 1 - 1)))) (ht : bA 400 tape) (N : Nat) (hN : t + N ≤ 400) (i : Nat) (hi : i ≤ N) : bA i (itr b i (t, e0)).2 := by
  induction i with
  | zero => exact bA_0 _
  | succ i ih =>
    have ih := ih (by omega)
    have hc : (itr b i (t, e0)).1 = t + i := itr_cnt b (fun i z => by rw [hb]) i (t, e0)
    rw [itr_s, hb]
    exact bA_ext ih (ht _ (by omega))
theorem L_keep4_B {d h : Nat → Int32} (i : Nat) (hi : i ≤ 16) : bA i (itr (B_X11_keep_4_2 h) i d) := by
  induction i with
  | zero => exact bA_0 _
  | succ i ih => rw [itr_s]; exact bA_ext (ih (by omega)) (isB_and _)
theorem L_keep8_B {d h : Nat → Int32} (i : Nat) (hi : i ≤ 32) : bA i (itr (B_X11_keep_8_2 h) i d) := by
  induction i with
  | zero => exact bA_0 _
  | succ i ih => rw [itr_s]; exact bA_ext (ih (by omega)) (isB_and _)
theorem L_small_B {said : Nat} {m d w h s : Nat → Int32} : bA 16 (F_X11_small said m d w h s).2.2.1 := L_keep4_B 16 (Nat.le_refl _)
theorem L_great_B {said : Nat} {m d w h v s : Nat → Int32} : bA 32 (F_X11_great said m d w h v s).2.2.1 := L_keep8_B 32 (Nat.le_refl _)
theorem L_sa_itr {rv : Nat} {s : Nat → Int32} {z : Nat × (Nat → Int32) × (Nat → Int32) × (Nat → Int32) × (Nat → Int32)} (hz : bA 16 z.2.2.1) (i : Nat) : bA 16 (itr (B_X11_smallAgain_2 rv s) i z).2.2.1 := by
  induction i with
  | zero => rw [itr_0]; exact hz
  | succ i ih => rw [itr_s]; exact L_small_B
theorem L_sa_B {rv said : Nat} {m d w h s : Nat → Int32} (hd : bA 16 d) : bA 16 (F_X11_smallAgain rv said m d w h s).2.2.1 := by
  unfold F_X11_smallAgain
  dsimp only [gLet]
  split
  · exact L_sa_itr (z := (said, m, d, w, h)) hd _
  · exact L_sa_itr (z := (said, m, d, w, h)) hd _
theorem gks_le16 {rv : Nat} (h : rv ≤ 4) : gks rv ≤ 16 := by
  unfold gks
  split
  · omega
  · rw [if_neg (by omega)]; omega
theorem L_mok26 {u : Nat × (Nat → Int32) × (Nat → Int32) × (Nat → Int32) × (Nat → Int32)} {o : Nat → Int32} (hu : bA 16 u.2.2.1) (i : Nat) (hi : i ≤ 16) : bA i (itr (B_X11_makeOwnerKey_26 u) i o) := by
  induction i with
  | zero => exact bA_0 _
  | succ i ih => rw [itr_s]; exact bA_ext (ih (by omega)) (hu _ (by omega))
theorem L_mok_B {rv : Nat} {m d w h s p o : Nat → Int32} (h4 : rv ≤ 4) : ∀ k : Nat, k < gks rv → isB ((F_X11_makeOwnerKey rv m d w h s p o).2.2.2.2.2 k) := L_mok26 (L_sa_B L_small_B) (gks rv) (gks_le16 h4)
theorem L_mk80f {u : Nat × (Nat → Int32) × (Nat → Int32) × (Nat → Int32) × (Nat → Int32)} {o : Nat → Int32} (hu : bA 16 u.2.2.1) (i : Nat) (hi : i ≤ 16) : bA i (itr (B_X11_makeKey_80_f u) i o) := by
  induction i with
  | zero => exact bA_0 _
  | succ i ih => rw [itr_s]; exact bA_ext (ih (by omega)) (hu _ (by omega))
theorem L_mk80tt {u : Nat × (Nat → Int32) × (Nat → Int32) × (Nat → Int32) × (Nat → Int32)} {o : Nat → Int32} (hu : bA 16 u.2.2.1) (i : Nat) (hi : i ≤ 16) : bA i (itr (B_X11_makeKey_80_tt u) i o) := by
  induction i with
  | zero => exact bA_0 _
  | succ i ih => rw [itr_s]; exact bA_ext (ih (by omega)) (hu _ (by omega))
theorem L_mk80tf {u : Nat × (Nat → Int32) × (Nat → Int32) × (Nat → Int32) × (Nat → Int32)} {o : Nat → Int32} (hu : bA 16 u.2.2.1) (i : Nat) (hi : i ≤ 16) : bA i (itr (B_X11_makeKey_80_tf u) i o) := by
  induction i with
  | zero => exact bA_0 _
  | succ i ih => rw [itr_s]; exact bA_ext (ih (by omega)) (hu _ (by omega))
theorem L_mk_B {rv : Nat} {id : Nat → Int32} {ids : Nat} {pl pm : Int32} {e key m d w h s p : Nat → Int32} (h4 : rv ≤ 4) : ∀ k : Nat, k < gks rv → isB ((F_X11_makeKey rv id ids pl pm e key m d w h s p).1 k) := by
  unfold F_X11_makeKey
  dsimp only [gLet]
  split
  · split
    · exact L_mk80tt (L_sa_B L_small_B) (gks rv) (gks_le16 h4)
    · exact L_mk80tf (L_sa_B L_small_B) (gks rv) (gks_le16 h4)
  · exact L_mk80f (L_sa_B L_small_B) (gks rv) (gks_le16 h4)
theorem L_hw0_B {e m d w h v r y : Nat → Int32} {n salt : Nat} : bA 32 (F_X11_hashWord_0 e m d w h v r y n salt).2.2.1 := L_great_B
theorem L_hw1_B {e m d w h v r y : Nat → Int32} {n salt : Nat} : bA 32 (F_X11_hashWord_1 e m d w h v r y n salt).2.2.1 := L_great_B
theorem L_objectKey {rv : Nat} {key : Nat → Int32} {f : Int32} {said : Nat} {m d w h s : Nat → Int32} {nu ge : Int32} : (F_X11_objectKey rv key f said m d w h s nu ge).1 = nI (gok rv) := by
  unfold F_X11_objectKey gok
  dsimp only [gLet]
  split
  · rfl
  · split
    · split
      · rw [show min 16 (gks rv + 5) = 16 by omega]; rfl
      · rw [show min 16 (gks rv + 5) = gks rv + 5 by omega]
    · split
      · rw [show min 16 (gks rv + 5) = 16 by omega]; rfl
      · rw [show min 16 (gks rv + 5) = gks rv + 5 by omega]
theorem L_ok10 {key d : Nat → Int32} (hk : bA 32 key) (i : Nat) (hi : i ≤ 32) : bA i (itr (B_X11_objectKey_10_t key) i d) := by
  induction i with
  | zero => exact bA_0 _
  | succ i ih => rw [itr_s]; exact bA_ext (ih (by omega)) (hk _ (by omega))
theorem L_objectKey_B {rv : Nat} {key : Nat → Int32} {f : Int32} {said : Nat} {m d w h s : Nat → Int32} {nu ge : Int32} (hk : rv = 5 → bA 32 key) : ∀ k : Nat, k < gok rv → isB ((F_X11_objectKey rv key f said m d w h s nu ge).2.2.2.1 k) := by
  unfold F_X11_objectKey gok
  dsimp only [gLet]
  split
  · rename_i h5
    exact L_ok10 (hk h5) 32 (Nat.le_refl _)
  · intro k hk2
    have hk3 : k < 16 := by omega
    split
    · split
      · exact L_small_B k hk3
      · exact L_small_B k hk3
    · split
      · exact L_small_B k hk3
      · exact L_small_B k hk3
theorem L_oe_bool {rv : Nat} {u : Nat × (Nat → Int32) × (Nat → Int32) × (Nat → Int32) × (Nat → Int32) × (Nat → Int32) × (Nat → Int32)} {e : Nat → Int32} {z : Int32} (hz : z = 0 ∨ z = 1) (i : Nat) : itr (B_X11_opensEarly_17 rv u e) i z = 0 ∨ itr (B_X11_opensEarly_17 rv u e) i z = 1 := by
  induction i with
  | zero => rw [itr_0]; exact hz
  | succ i ih =>
    rw [itr_s]
    generalize itr (B_X11_opensEarly_17 rv u e) i z = y at ih ⊢
    unfold B_X11_opensEarly_17
    split
    · split
      · exact Or.inl rfl
      · split
        · exact Or.inr rfl
        · exact Or.inl rfl
    · split
      · exact Or.inl rfl
      · split
        · exact Or.inr rfl
        · exact Or.inl rfl
theorem isB_0 : isB 0 := ⟨(by decide), (by decide)⟩
theorem L_shut_u_w {key w : Nat → Int32} (hk : bA 32 key) (i : Nat) (hi : i ≤ 48) : bA i (itr (B_X11_shut_u_109 key) i w) := by
  induction i with
  | zero => exact bA_0 _
  | succ i ih =>
    have ih := ih (by omega)
    rw [itr_s]
    generalize itr (B_X11_shut_u_109 key) i w = z at ih ⊢
    unfold B_X11_shut_u_109
    split
    · exact bA_ext ih (hk _ (by omega))
    · exact bA_ext ih isB_0
theorem L_shut_o_w {key w : Nat → Int32} (hk : bA 32 key) (i : Nat) (hi : i ≤ 48) : bA i (itr (B_X11_shut_o_109 key) i w) := by
  induction i with
  | zero => exact bA_0 _
  | succ i ih =>
    have ih := ih (by omega)
    rw [itr_s]
    generalize itr (B_X11_shut_o_109 key) i w = z at ih ⊢
    unfold B_X11_shut_o_109
    split
    · exact bA_ext ih (hk _ (by omega))
    · exact bA_ext ih isB_0
theorem L_shut_u_taken {tape : Nat → Int32} {t : Nat} {e key m d w h v r bx rk st ot wk y : Nat → Int32} {n : Nat} : (F_X11_shut_u tape t e key m d w h v r bx rk st ot wk y n).1 = t + 16 := itr_cnt (B_X11_shut_u_10 tape) (fun _ _ => rfl) 16 (t, e)
theorem L_shut_o_taken {tape : Nat → Int32} {t : Nat} {e key m d w h v r bx rk st ot wk y : Nat → Int32} {n : Nat} : (F_X11_shut_o tape t e key m d w h v r bx rk st ot wk y n).1 = t + 16 := itr_cnt (B_X11_shut_o_10 tape) (fun _ _ => rfl) 16 (t, e)
theorem L_shut_u_53 {u : Nat × (Nat → Int32) × (Nat → Int32) × (Nat → Int32) × (Nat → Int32) × (Nat → Int32)} {e : Nat → Int32} (hu : bA 32 u.2.2.1) (he : bA 240 e) (i : Nat) (hi : i ≤ 32) : bA 240 (itr (B_X11_shut_u_53 u) i e) := by
  induction i with
  | zero => rw [itr_0]; exact he
  | succ i ih => rw [itr_s]; exact isB_upd (ih (by omega)) (hu _ (by omega)) _
theorem L_shut_o_53 {u : Nat × (Nat → Int32) × (Nat → Int32) × (Nat → Int32) × (Nat → Int32) × (Nat → Int32)} {e : Nat → Int32} (hu : bA 32 u.2.2.1) (he : bA 240 e) (i : Nat) (hi : i ≤ 32) : bA 240 (itr (B_X11_shut_o_53 u) i e) := by
  induction i with
  | zero => rw [itr_0]; exact he
  | succ i ih => rw [itr_s]; exact isB_upd (ih (by omega)) (hu _ (by omega)) _
theorem L_shut_u_159 {u : (Nat → Int32) × (Nat → Int32) × (Nat → Int32)} {e : Nat → Int32} (hu : bA 48 u.2.2) (he : bA 240 e) (i : Nat) (hi : i ≤ 32) : bA 240 (itr (B_X11_shut_u_159 u) i e) := by
  induction i with
  | zero => rw [itr_0]; exact he
  | succ i ih => rw [itr_s]; exact isB_upd (ih (by omega)) (hu _ (by omega)) _
theorem L_shut_o_159 {u : (Nat → Int32) × (Nat → Int32) × (Nat → Int32)} {e : Nat → Int32} (hu : bA 48 u.2.2) (he : bA 240 e) (i : Nat) (hi : i ≤ 32) : bA 240 (itr (B_X11_shut_o_159 u) i e) := by
  induction i with
  | zero => rw [itr_0]; exact he
  | succ i ih => rw [itr_s]; exact isB_upd (ih (by omega)) (hu _ (by omega)) _
theorem L_chain0_all {bx rk st ot w : Nat → Int32} {n m : Nat} (hbox : bA 256 bx) (hrk : bA (16 * n + 16) rk) (hw : bA (16 * m + 16) w) : bA (16 * m + 16) (F_X11_chain_0 bx rk n st ot w m).2.2 := L_chain0_B hbox hrk hw m (Nat.le_refl _)
theorem L_chain1_all {bx rk st ot w : Nat → Int32} {n m : Nat} (hbox : bA 256 bx) (hrk : bA (16 * n + 16) rk) (hw : bA (16 * m + 16) w) : bA (16 * m + 16) (F_X11_chain_1 bx rk n st ot w m).2.2 := L_chain1_B hbox hrk hw m (Nat.le_refl _)
theorem L_shut_u_ent {tape : Nat → Int32} {t : Nat} {e key m d w h v r bx rk st ot wk y : Nat → Int32} {n : Nat} (he : bA 240 e) (ht : bA 400 tape) (hn : t + 16 ≤ 400) (hk : bA 32 key) (hb : bA 256 bx) : bA 240 (F_X11_shut_u tape t e key m d w h v r bx rk st ot wk y n).2.1 := by
  have h1 := itr_tape (B_X11_shut_u_10 tape) (fun i => 48 + (32 + i)) (fun _ _ => rfl) ht 16 hn he 16 (Nat.le_refl _)
  unfold F_X11_shut_u
  dsimp only [gLet]
  exact L_shut_u_159 (L_chain0_all (n := 14) (m := 2) hb (L_setKey32_all L_hw0_B hb) (L_shut_u_w hk 48 (Nat.le_refl _))) (L_shut_u_53 L_hw0_B h1 32 (Nat.le_refl _)) 32 (Nat.le_refl _)
theorem L_shut_o_ent {tape : Nat → Int32} {t : Nat} {e key m d w h v r bx rk st ot wk y : Nat → Int32} {n : Nat} (he : bA 240 e) (ht : bA 400 tape) (hn : t + 16 ≤ 400) (hk : bA 32 key) (hb : bA 256 bx) : bA 240 (F_X11_shut_o tape t e key m d w h v r bx rk st ot wk y n).2.1 := by
  have h1 := itr_tape (B_X11_shut_o_10 tape) (fun i => 0 + (32 + i)) (fun _ _ => rfl) ht 16 hn he 16 (Nat.le_refl _)
  unfold F_X11_shut_o
  dsimp only [gLet]
  exact L_shut_o_159 (L_chain0_all (n := 14) (m := 2) hb (L_setKey32_all L_hw1_B hb) (L_shut_o_w hk 48 (Nat.le_refl _))) (L_shut_o_53 L_hw1_B h1 32 (Nat.le_refl _)) 32 (Nat.le_refl _)
theorem L_ml_key {tape key : Nat → Int32} {t : Nat} (ht : bA 400 tape) (hn : t + 32 ≤ 400) (hk : bA 32 key) (i : Nat) (hi : i ≤ 32) : bA 32 (itr (B_X11_makeLate_43 tape) i (t, key)).2 := itr_tape (B_X11_makeLate_43 tape) (fun i => i) (fun _ _ => rfl) ht 32 hn hk i hi
theorem L_ml_101 {pm : Int32} {e : Nat → Int32} (he : bA 240 e) (i : Nat) (hi : i ≤ 4) : bA 240 (itr (B_X11_makeLate_101 pm) i e) := by
  induction i with
  | zero => rw [itr_0]; exact he
  | succ i ih => rw [itr_s]; exact isB_upd (isB_upd (ih (by omega)) (isB_and _) _) ⟨(by decide), (by decide)⟩ _
theorem L_ol_u_w {e w : Nat → Int32} (he : bA 240 e) (i : Nat) (hi : i ≤ 48) : bA i (itr (B_X11_opensLate_u_93_t e) i w) := by
  induction i with
  | zero => exact bA_0 _
  | succ i ih =>
    have ih := ih (by omega)
    rw [itr_s]
    generalize itr (B_X11_opensLate_u_93_t e) i w = z at ih ⊢
    unfold B_X11_opensLate_u_93_t
    split
    · exact bA_ext ih (he _ (by omega))
    · exact bA_ext ih isB_0
theorem L_ol_o_w {e w : Nat → Int32} (he : bA 240 e) (i : Nat) (hi : i ≤ 48) : bA i (itr (B_X11_opensLate_o_93_t e) i w) := by
  induction i with
  | zero => exact bA_0 _
  | succ i ih =>
    have ih := ih (by omega)
    rw [itr_s]
    generalize itr (B_X11_opensLate_o_93_t e) i w = z at ih ⊢
    unfold B_X11_opensLate_o_93_t
    split
    · exact bA_ext ih (he _ (by omega))
    · exact bA_ext ih isB_0
theorem L_ene_w {c : Nat} {by_ w : Nat → Int32} (hb : bA 400 by_) (hc : c ≤ 400) (hc0 : 0 < c) (hw : bA 16 w) (i : Nat) (hi : i ≤ c / 16 * 16 + 16) : bA (16 + i) (itr (B_X11_encipher_e_54_t c by_) i w) := by
  induction i with
  | zero => rw [itr_0]; exact hw
  | succ i ih =>
    have ih := ih (by omega)
    rw [itr_s]
    generalize itr (B_X11_encipher_e_54_t c by_) i w = z at ih ⊢
    show bA (16 + i + 1) _
    unfold B_X11_encipher_e_54_t
    split
    · exact bA_ext ih (isB_of (by omega))
    · exact bA_ext ih (hb _ (by omega))
theorem L_enl_w {c : Nat} {by_ w : Nat → Int32} (hb : bA 400 by_) (hc : c ≤ 400) (hc0 : 0 < c) (hw : bA 16 w) (i : Nat) (hi : i ≤ c / 16 * 16 + 16) : bA (16 + i) (itr (B_X11_encipher_l_54_t c by_) i w) := by
  induction i with
  | zero => rw [itr_0]; exact hw
  | succ i ih =>
    have ih := ih (by omega)
    rw [itr_s]
    generalize itr (B_X11_encipher_l_54_t c by_) i w = z at ih ⊢
    show bA (16 + i + 1) _
    unfold B_X11_encipher_l_54_t
    split
    · exact bA_ext ih (isB_of (by omega))
    · exact bA_ext ih (hb _ (by omega))
theorem L_dee_w {by_ w : Nat → Int32} (hb : bA 400 by_) (i : Nat) (hi : i ≤ 400) : bA i (itr (B_X11_decipher_e_27_tft by_) i w) := by
  induction i with
  | zero => exact bA_0 _
  | succ i ih => rw [itr_s]; exact bA_ext (ih (by omega)) (hb _ (by omega))
theorem L_del_w {by_ w : Nat → Int32} (hb : bA 400 by_) (i : Nat) (hi : i ≤ 400) : bA i (itr (B_X11_decipher_l_27_tft by_) i w) := by
  induction i with
  | zero => exact bA_0 _
  | succ i ih => rw [itr_s]; exact bA_ext (ih (by omega)) (hb _ (by omega))
theorem L_de_onee {u : (Nat → Int32) × (Nat → Int32) × (Nat → Int32)} {c n i : Nat} (h : i < min n (g_first (fun k => decide (¬ (u.2.2 (c - 1 - k)) = (u.2.2 (c - 1)))) n + 1)) : itr (B_X11_decipher_e_106_tftff u c) i 1 = 1 := by
  cases i with
  | zero => rw [itr_0]
  | succ i =>
    rw [itr_s]
    have h1 := g_first_no (fun k => decide (¬ (u.2.2 (c - 1 - k)) = (u.2.2 (c - 1)))) n i (by omega)
    exact if_pos (Decidable.of_not_not (of_decide_eq_false h1))
theorem L_de_ende {u : (Nat → Int32) × (Nat → Int32) × (Nat → Int32)} {c n : Nat} : itr (B_X11_decipher_e_106_tftff u c) (min n (g_first (fun k => decide (¬ (u.2.2 (c - 1 - k)) = (u.2.2 (c - 1)))) n + 1)) 1 = 0 ∨ min n (g_first (fun k => decide (¬ (u.2.2 (c - 1 - k)) = (u.2.2 (c - 1)))) n + 1) = n := by
  have h0 := g_first_le (fun k => decide (¬ (u.2.2 (c - 1 - k)) = (u.2.2 (c - 1)))) n
  by_cases h : g_first (fun k => decide (¬ (u.2.2 (c - 1 - k)) = (u.2.2 (c - 1)))) n < n
  · left
    rw [show min n (g_first (fun k => decide (¬ (u.2.2 (c - 1 - k)) = (u.2.2 (c - 1)))) n + 1) = g_first (fun k => decide (¬ (u.2.2 (c - 1 - k)) = (u.2.2 (c - 1)))) n + 1 by omega, itr_s]
    exact if_neg (of_decide_eq_true (g_first_yes (fun k => decide (¬ (u.2.2 (c - 1 - k)) = (u.2.2 (c - 1)))) n h))
  · right
    omega
theorem L_de_onel {u : (Nat → Int32) × (Nat → Int32) × (Nat → Int32)} {c n i : Nat} (h : i < min n (g_first (fun k => decide (¬ (u.2.2 (c - 1 - k)) = (u.2.2 (c - 1)))) n + 1)) : itr (B_X11_decipher_l_106_tftff u c) i 1 = 1 := by
  cases i with
  | zero => rw [itr_0]
  | succ i =>
    rw [itr_s]
    have h1 := g_first_no (fun k => decide (¬ (u.2.2 (c - 1 - k)) = (u.2.2 (c - 1)))) n i (by omega)
    exact if_pos (Decidable.of_not_not (of_decide_eq_false h1))
theorem L_de_endl {u : (Nat → Int32) × (Nat → Int32) × (Nat → Int32)} {c n : Nat} : itr (B_X11_decipher_l_106_tftff u c) (min n (g_first (fun k => decide (¬ (u.2.2 (c - 1 - k)) = (u.2.2 (c - 1)))) n + 1)) 1 = 0 ∨ min n (g_first (fun k => decide (¬ (u.2.2 (c - 1 - k)) = (u.2.2 (c - 1)))) n + 1) = n := by
  have h0 := g_first_le (fun k => decide (¬ (u.2.2 (c - 1 - k)) = (u.2.2 (c - 1)))) n
  by_cases h : g_first (fun k => decide (¬ (u.2.2 (c - 1 - k)) = (u.2.2 (c - 1)))) n < n
  · left
    rw [show min n (g_first (fun k => decide (¬ (u.2.2 (c - 1 - k)) = (u.2.2 (c - 1)))) n + 1) = g_first (fun k => decide (¬ (u.2.2 (c - 1 - k)) = (u.2.2 (c - 1)))) n + 1 by omega, itr_s]
    exact if_neg (of_decide_eq_true (g_first_yes (fun k => decide (¬ (u.2.2 (c - 1 - k)) = (u.2.2 (c - 1)))) n h))
  · right
    omega
theorem L_npos {x : Int32} (h : ¬ x ≤ 0) : ¬ x < 0 := by
  rw [Int32.le_iff_toInt_le] at h
  rw [Int32.lt_iff_toInt_lt]
  omega
theorem L_clt {x : Int32} {n : Nat} (hn : n + 1 < 2147483648) (h : ¬ nI (n + 1) ≤ x) : x.toNatClampNeg ≤ n := by
  have h2 : x.toNatClampNeg = x.toInt.toNat := rfl
  rw [Int32.le_iff_toInt_le, nI_toInt hn] at h
  omega
theorem L_subn {a : Nat} {x : Int32} (h : ¬ x < 0) (h2 : x.toNatClampNeg ≤ a) : nI a - x = nI (a - x.toNatClampNeg) := by
  have e := g_nat h
  generalize x.toNatClampNeg = k at e h2
  subst e
  exact pk_sub h2
theorem L_isEntry_p {Ms : Nat → Int32} {w i : Int32} (h : ¬ F_X11_isEntry Ms w i = 0) : ¬ w < 0 ∧ ¬ 5 ≤ w ∧ ¬ i < 0 ∧ ¬ Ms w.toNatClampNeg ≤ i := by
  unfold F_X11_isEntry at h
  split at h
  · exact absurd rfl h
  · split at h
    · exact absurd rfl h
    · split at h
      · exact absurd rfl h
      · split at h
        · exact absurd rfl h
        · rename_i h1 h2 h3 h4
          exact ⟨h1, h2, h3, h4⟩
theorem L_isEntry_w {Ms : Nat → Int32} {w i : Int32} (h : ¬ F_X11_isEntry Ms w i = 0) : vp_in w 5 := by
  obtain ⟨h1, h2, -, -⟩ := L_isEntry_p h
  exact g_in h1 h2 (by decide)
theorem L_isEntry_n {Ms : Nat → Int32} (hsz : ∀ k : Nat, k < 5 → ∃ n, n ≤ 48 ∧ Ms k = nI n) {w i : Int32} (h : ¬ F_X11_isEntry Ms w i = 0) : ∃ a b : Nat, a < 5 ∧ b < 48 ∧ w = nI a ∧ i = nI b ∧ (48 * w) + i = nI (48 * a + b) := by
  obtain ⟨h1, h2, h3, h4⟩ := L_isEntry_p h
  obtain ⟨a, ha, rfl⟩ := vp_in_of (g_in (n := 5) h1 h2 (by decide)) (by decide)
  rw [nI_clamp (by omega)] at h4
  obtain ⟨n, hn, e⟩ := hsz a ha
  rw [e] at h4
  obtain ⟨b, hb, rfl⟩ := vp_in_of (g_in h3 h4 (by omega)) (by omega)
  refine ⟨a, b, ha, by omega, rfl, rfl, ?_⟩
  rw [show (48 : Int32) * nI a = nI (48 * a) from pk_mul 48 a, nI_add]
theorem L_isEntry_ix {Ms : Nat → Int32} (hsz : ∀ k : Nat, k < 5 → ∃ n, n ≤ 48 ∧ Ms k = nI n) {w i : Int32} (h : ¬ F_X11_isEntry Ms w i = 0) : vp_in ((48 * w) + i) 240 := by
  obtain ⟨a, b, ha, hb, -, -, e⟩ := L_isEntry_n hsz h
  rw [e]
  exact vp_in_nI (by omega) (by decide)
theorem L_told_w {e w : Nat → Int32} (he : bA 240 e) (i : Nat) (hi : i ≤ 16) : bA i (itr (B_X11_told_l_87_fttf e) i w) := by
  induction i with
  | zero => exact bA_0 _
  | succ i ih => rw [itr_s]; exact bA_ext (ih (by omega)) (he _ (by omega))
