theorem sizesLate (Ms : Nat → Int32) : itr B_X11_makeLate_2 5 Ms 0 = 48 ∧ itr B_X11_makeLate_2 5 Ms 1 = 48 ∧ itr B_X11_makeLate_2 5 Ms 2 = 32 ∧ itr B_X11_makeLate_2 5 Ms 3 = 32 ∧ itr B_X11_makeLate_2 5 Ms 4 = 16 := by
  have h := itr_fill (b := B_X11_makeLate_2) (w := fun i => if 2 ≤ i then (if 4 ≤ i then 16 else 32) else 48) (fun i z => by
    unfold B_X11_makeLate_2
    by_cases h2 : 2 ≤ i
    · rw [if_pos h2, if_pos h2]
      by_cases h4 : 4 ≤ i
      · rw [if_pos h4, if_pos h4]
      · rw [if_neg h4, if_neg h4]
    · rw [if_neg h2, if_neg h2]) 5 Ms
  exact ⟨h 0 (by decide), h 1 (by decide), h 2 (by decide), h 3 (by decide), h 4 (by decide)⟩
theorem permFill (perm : Int32) (E : Nat → Int32) : (∀ k : Nat, k < 4 → itr (B_X11_makeLate_101 perm) 4 E (192 + k) = (perm >>> ((nI (8 * k)) &&& 31)) &&& 255) ∧ (∀ k : Nat, k < 4 → itr (B_X11_makeLate_101 perm) 4 E (196 + k) = 255) ∧ ∀ x : Nat, (x < 192 ∨ 200 ≤ x) → itr (B_X11_makeLate_101 perm) 4 E x = E x := by
  refine itr_inv (fun (n : Nat) (z : Nat → Int32) => (∀ k : Nat, k < n → z (192 + k) = (perm >>> ((nI (8 * k)) &&& 31)) &&& 255) ∧ (∀ k : Nat, k < n → z (196 + k) = 255) ∧ ∀ x : Nat, (x < 192 ∨ 200 ≤ x) → z x = E x) (n := 4) ⟨fun k hk => absurd hk (Nat.not_lt_zero k), fun k hk => absurd hk (Nat.not_lt_zero k), fun x _ => rfl⟩ ?_
  intro i z hi hz
  obtain ⟨h1, h2, h3⟩ := hz
  unfold B_X11_makeLate_101
  refine ⟨fun k hk => ?_, fun k hk => ?_, fun x hx => ?_⟩
  · rw [upd_n _ (by omega)]
    by_cases hki : k = i
    · rw [hki, upd_s]
    · rw [upd_n _ (by omega), h1 k (by omega)]
  · by_cases hki : k = i
    · rw [hki, upd_s]
    · rw [upd_n _ (by omega), upd_n _ (by omega), h2 k (by omega)]
  · rw [upd_n _ (by omega), upd_n _ (by omega), h3 x hx]
theorem lateCore {taken : Nat} {perm plain tf : Int32} {Xuser Xowner Xe0 Xe1 Xe2 Xe3 Xe4 Xtext Xsum u75 u83 u97 : gRow} {wdgr stgr kybl clbl mvbl labl : Nat → Int32} {u79 u85 u93 u99 : (Nat → Int32) × (Nat → Int32) × gRow × gRow} {u89 u103 : Int32 × (Nat → Int32) × (Nat → Int32) × (Nat → Int32) × (Nat → Int32) × gRow × gRow} {u107 : Int32 × (Nat → Int32) × (Nat → Int32) × (Nat → Int32) × (Nat → Int32) × gRow × gRow × gRow}
    {Muser Mowner tape En Mk msg dg wd hh v rt bx rk st ot wk E4 : Nat → Int32} {Musers Mowners : Nat} {z517 z609 : Nat × (Nat → Int32)} {u519 u521 : Nat × (Nat → Int32) × Nat × (Nat → Int32) × (Nat → Int32) × (Nat → Int32) × (Nat → Int32) × (Nat → Int32) × (Nat → Int32) × Nat × (Nat → Int32) × (Nat → Int32) × (Nat → Int32)} {b205 : Nat → Nat × (Nat → Int32) → Nat × (Nat → Int32)} {F : (Nat → Int32) × (Nat → Int32) × (Nat → Int32)}
    (hu : rowR 127 Xuser Muser Musers) (ho : rowR 127 Xowner Mowner Mowners) (h75 : rowR 68 u75 (fun k => tape (taken + k)) 68) (htB : bA 400 tape) (ht4 : taken + 68 ≤ 400) (hbe : bA 240 En) (hr : ∀ k : Nat, k < 64 → rt k = gTf 3 k) (hbx : ∀ k : Nat, k < 256 → bx k = gTf 5 k) (hbB : bA 256 bx)
    (h79 : u79 = F_X3_sumSalted_0 68 48 wdgr stgr Xtext Xuser u75 Xe1 (nI 32)) (h83 : u83 = F_X5_addPart 48 68 u79.2.2.2 u75 (nI 32) (nI 16)) (h85 : u85 = F_X3_sumSalted_0 68 32 u79.1 u79.2.1 u79.2.2.1 Xuser u75 Xsum (nI 40))
    (h89 : u89 = F_X3_wrapKey 48 kybl clbl mvbl labl u85.2.2.1 u85.2.2.2 u75 Xe3) (h93 : u93 = F_X3_sumSalted_1 68 48 u83 u85.1 u85.2.1 u89.2.2.2.2.2.1 Xowner u75 Xe0 (nI 48)) (h97 : u97 = F_X5_addPart 48 68 u93.2.2.2 u75 (nI 48) (nI 16))
    (h99 : u99 = F_X3_sumSalted_1 68 32 u83 u93.1 u93.2.1 u93.2.2.1 Xowner u75 u85.2.2.2 (nI 56)) (h103 : u103 = F_X3_wrapKey 48 u89.2.1 u89.2.2.1 u89.2.2.2.1 u89.2.2.2.2.1 u99.2.2.1 u99.2.2.2 u75 Xe2)
    (h107 : u107 = F_X3_wrapPermissions 48 perm plain u103.2.1 u103.2.2.1 u103.2.2.2.1 u103.2.2.2.2.1 u103.2.2.2.2.2.1 u99.2.2.2 u75 Xe4)
    (hz517 : z517 = itr (B_X11_makeLate_43 tape) 32 (taken, Mk)) (h519 : u519 = F_X11_shut_u tape z517.1 En z517.2 msg dg wd hh v rt bx rk st ot wk Muser Musers)
    (h521 : u521 = F_X11_shut_o tape u519.1 u519.2.1 z517.2 u519.2.2.2.1 u519.2.2.2.2.1 u519.2.2.2.2.2.1 u519.2.2.2.2.2.2.1 u519.2.2.2.2.2.2.2.1 rt bx u519.2.2.2.2.2.2.2.2.1 u519.2.2.2.2.2.2.2.2.2.2.1 u519.2.2.2.2.2.2.2.2.2.2.2.1 u519.2.2.2.2.2.2.2.2.2.2.2.2 Mowner Mowners)
    (hb205 : ∀ i z, b205 i z = (z.1 + 1, upd z.2 (204 + i) (tape z.1))) (htf : tf = if plain = 0 then 84 else 70)
    (hE4 : E4 = upd (upd (upd (upd (itr (B_X11_makeLate_101 perm) 4 u521.2.1) 200 tf) 201 97) 202 100) 203 98) (hz609 : z609 = itr b205 4 (u521.1, E4))
    (hF : F = F_X11_block_0 bx (F_X11_setKey_32 bx u521.2.2.2.2.2.2.2.2.1 z517.2).1 (F_X11_setKey_32 bx u521.2.2.2.2.2.2.2.2.1 z517.2).2 u521.2.2.2.2.2.2.2.2.2.2.1 u521.2.2.2.2.2.2.2.2.2.2.2.1 z609.2 192) :
    z609.1 = taken + 68 ∧ rowR 48 u97 F.2.2 48 ∧ rowR 48 u83 (fun k => F.2.2 (48 + k)) 48 ∧ rowR 48 u103.2.2.2.2.2.2 (fun k => F.2.2 (96 + k)) 32 ∧ rowR 48 u89.2.2.2.2.2.2 (fun k => F.2.2 (144 + k)) 32 ∧ rowR 48 u107.2.2.2.2.2.2.2 (fun k => F.2.2 (192 + k)) 16 ∧ bA 240 F.2.2 ∧ bA 32 z517.2 := by
  obtain ⟨k1, k2, k3⟩ := tape_itr (fr := 0) (t := taken) (n := 32) (s := Mk) (b := B_X11_makeLate_43 tape) (tape := tape) (fun i z => by rw [Nat.zero_add]; rfl)
  rw [← hz517] at k1 k2 k3
  have hkey : ∀ k : Nat, k < 32 → z517.2 k = tape (taken + k) := fun k hk => by have := k2 k hk; rw [Nat.zero_add] at this; exact this
  have ekB : bA 32 z517.2 := fun k hk => by rw [hkey k hk]; exact htB _ (by omega)
  obtain ⟨s1, s2, s3, s4⟩ := shut_u_R (Xt := Xtext) (q1 := Xe1) (q2 := Xe3) (Xs := Xsum) (Xt1 := u79.2.2.1) (Xt2 := u85.2.2.1) (wd0 := wdgr) (st0 := stgr) (wd1 := u79.1) (st1 := u79.2.1) (ky := kybl) (cl := clbl) (mv := mvbl) (la := labl) (En := En) (msg := msg) (dg := dg) (wd := wd) (hh := hh) (v := v) (rk := rk) (st := st) (ot := ot) (wk := wk) hu h75 hkey hr hbx hbB
  rw [← h79, ← h83, ← k1, ← h519] at s2
  rw [← h85, ← h89, ← k1, ← h519] at s3
  rw [← k1, ← h519] at s1 s4
  have t1 : u519.1 = taken + 48 := by omega
  obtain ⟨r1, r2, r3, r4⟩ := shut_o_R (Xt := u89.2.2.2.2.2.1) (q1 := Xe0) (q2 := Xe2) (Xs := u85.2.2.2) (Xt1 := u93.2.2.1) (Xt2 := u99.2.2.1) (wd0 := u85.1) (st0 := u85.2.1) (wd1 := u93.1) (st1 := u93.2.1) (ky := u89.2.1) (cl := u89.2.2.1) (mv := u89.2.2.2.1) (la := u89.2.2.2.2.1) (msg := u519.2.2.2.1) (dg := u519.2.2.2.2.1) (wd := u519.2.2.2.2.2.1) (hh := u519.2.2.2.2.2.2.1) (v := u519.2.2.2.2.2.2.2.1) (rk := u519.2.2.2.2.2.2.2.2.1) (st := u519.2.2.2.2.2.2.2.2.2.2.1) (ot := u519.2.2.2.2.2.2.2.2.2.2.2.1) (wk := u519.2.2.2.2.2.2.2.2.2.2.2.2) ho h75 hkey s2 hr hbx hbB
  rw [← h93, ← h97, ← t1, ← h521] at r2
  rw [← h99, ← h103, ← t1, ← h521] at r3
  rw [← t1, ← h521] at r1 r4
  have t2 : u521.1 = taken + 64 := by omega
  obtain ⟨p1, p2, p3⟩ := permFill perm u521.2.1
  have q8 : E4 203 = 98 := by rw [hE4, upd_s]
  have q7 : E4 202 = 100 := by rw [hE4, upd_n _ (by decide), upd_s]
  have q6 : E4 201 = 97 := by rw [hE4, upd_n _ (by decide), upd_n _ (by decide), upd_s]
  have q5 : E4 200 = tf := by rw [hE4, upd_n _ (by decide), upd_n _ (by decide), upd_n _ (by decide), upd_s]
  have q0 : ∀ x : Nat, (x < 200 ∨ 204 ≤ x) → E4 x = itr (B_X11_makeLate_101 perm) 4 u521.2.1 x := fun x hx => by
    rw [hE4, upd_n _ (by omega), upd_n _ (by omega), upd_n _ (by omega), upd_n _ (by omega)]
  obtain ⟨w1, w2, w3⟩ := tape_itr (fr := 204) (t := u521.1) (n := 4) (s := E4) (b := b205) (tape := tape) hb205
  rw [← hz609] at w1 w2 w3
  have hwp := wrapPerm_R (Xt := u103.2.2.2.2.2.1) (Xs := u99.2.2.2) (q := Xe4) (plain := plain) (perm := perm) (tf := tf) (E := z609.2) (key := z517.2) (ky := u103.2.1) (cl := u103.2.2.1) (mv := u103.2.2.2.1) (la := u103.2.2.2.2.1) (rk := u521.2.2.2.2.2.2.2.2.1) (st := u521.2.2.2.2.2.2.2.2.2.2.1) (ot := u521.2.2.2.2.2.2.2.2.2.2.2.1) h75 hkey hbx hbB htf (fun k hk => by rw [w3 _ (by omega), q0 _ (by omega), p1 k hk]) (fun k hk => by rw [w3 _ (by omega), q0 _ (by omega), p2 k hk]) (by rw [w3 _ (by omega), q5]) (by rw [w3 _ (by omega), q6]) (by rw [w3 _ (by omega), q7]) (by rw [w3 _ (by omega), q8]) (fun k hk => by
    rw [w2 k hk, t2]
    show tape (taken + 64 + k) = tape (taken + (64 + k))
    rw [Nat.add_assoc])
  have eF : F.2.2 = (F_X11_block_0 bx (F_X11_setKey_32 bx u521.2.2.2.2.2.2.2.2.1 z517.2).1 14 u521.2.2.2.2.2.2.2.2.2.2.1 u521.2.2.2.2.2.2.2.2.2.2.2.1 z609.2 192).2.2 := by rw [hF]; rfl
  rw [← h107, ← eF] at hwp
  have hlo : ∀ x : Nat, x < 192 → F.2.2 x = u521.2.1 x := fun x hx => by rw [eF, block0_out x (by omega), w3 x (by omega), q0 x (by omega), p3 x (by omega)]
  have hhi : ∀ x : Nat, 208 ≤ x → F.2.2 x = u521.2.1 x := fun x hx => by rw [eF, block0_out x (by omega), w3 x (by omega), q0 x (by omega), p3 x (by omega)]
  have f0 : rowR 48 u97 F.2.2 48 := r2.congr (fun k hk => by
    rw [hlo k (by omega), Nat.zero_add])
  have f1 : rowR 48 u83 (fun k => F.2.2 (48 + k)) 48 := s2.congr (fun k hk => by
    rw [hlo _ (by omega), r4 _ (by omega) (by omega)])
  have f2 : rowR 48 u103.2.2.2.2.2.2 (fun k => F.2.2 (96 + k)) 32 := r3.congr (fun k hk => by rw [hlo _ (by omega)])
  have f3 : rowR 48 u89.2.2.2.2.2.2 (fun k => F.2.2 (144 + k)) 32 := s3.congr (fun k hk => by
    rw [hlo _ (by omega), r4 _ (by omega) (by omega)])
  refine ⟨by omega, f0, f1, f2, f3, hwp, fun x hx => ?_, ekB⟩
  by_cases x0 : x < 48
  · exact f0.byt x0
  · by_cases x1 : x < 96
    · have := f1.byt (k := x - 48) (by omega)
      rw [show 48 + (x - 48) = x by omega] at this
      exact this
    · by_cases x2 : x < 128
      · have := f2.byt (k := x - 96) (by omega)
        rw [show 96 + (x - 96) = x by omega] at this
        exact this
      · by_cases x3 : 144 ≤ x ∧ x < 176
        · have := f3.byt (k := x - 144) (by omega)
          rw [show 144 + (x - 144) = x by omega] at this
          exact this
        · by_cases x4 : 192 ≤ x ∧ x < 208
          · have := hwp.byt (k := x - 192) (by omega)
            rw [show 192 + (x - 192) = x by omega] at this
            exact this
          · have : F.2.2 x = En x := by
              by_cases x5 : x < 192
              · rw [hlo x x5, r4 x (by omega) (by omega), s4 x (by omega) (by omega)]
              · rw [hhi x (by omega), r4 x (by omega) (by omega), s4 x (by omega) (by omega)]
            rw [this]
            exact hbe x hx
