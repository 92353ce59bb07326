theorem giveTape_le (n2 : Nat) (given : Int32) (Xt q : gRow) (b : Int32) : F_X9_giveTape_l n2 given Xt q b = F_X9_giveTape_e n2 given Xt q b := rfl
theorem makeLate_R {taken taped : Nat} {given perm plain : Int32} {Xuser Xowner Xtape Xe0 Xe1 Xe2 Xe3 Xe4 Xtext Xsum Xch : gRow} {wdgr stgr kybl clbl mvbl labl : Nat → Int32}
    {Muser Mowner tape En Ms Mk msg dg wd hh v rt bx rk st ot wk : Nat → Int32} {Musers Mowners : Nat}
    (hg : given = nI taken) (ht : rowR 400 Xtape tape taped) (h68 : taken + 68 ≤ taped) (hu : rowR 127 Xuser Muser Musers) (ho : rowR 127 Xowner Mowner Mowners) (htB : bA 400 tape) (hbe : bA 240 En) (hr : ∀ k : Nat, k < 64 → rt k = gTf 3 k) (hbx : ∀ k : Nat, k < 256 → bx k = gTf 5 k) (hbB : bA 256 bx) :
    (F_X11_makeLate Muser Musers Mowner Mowners tape taken plain perm En Ms Mk msg dg wd hh v rt bx rk st ot wk).1 = 5 ∧
    (F_X3_makeEntries given perm plain Xuser Xowner Xtape Xe0 Xe1 Xe2 Xe3 Xe4 wdgr stgr kybl clbl mvbl labl Xtext Xsum Xch).1 = nI (taken + 68) ∧
    (F_X11_makeLate Muser Musers Mowner Mowners tape taken plain perm En Ms Mk msg dg wd hh v rt bx rk st ot wk).2.2.2.1 = itr B_X11_makeLate_2 5 Ms ∧
    (F_X11_makeLate Muser Musers Mowner Mowners tape taken plain perm En Ms Mk msg dg wd hh v rt bx rk st ot wk).2.1 = taken + 68 ∧
    rowR 48 (F_X3_makeEntries given perm plain Xuser Xowner Xtape Xe0 Xe1 Xe2 Xe3 Xe4 wdgr stgr kybl clbl mvbl labl Xtext Xsum Xch).2.1 (F_X11_makeLate Muser Musers Mowner Mowners tape taken plain perm En Ms Mk msg dg wd hh v rt bx rk st ot wk).2.2.1 48 ∧
    rowR 48 (F_X3_makeEntries given perm plain Xuser Xowner Xtape Xe0 Xe1 Xe2 Xe3 Xe4 wdgr stgr kybl clbl mvbl labl Xtext Xsum Xch).2.2.1 (fun k => (F_X11_makeLate Muser Musers Mowner Mowners tape taken plain perm En Ms Mk msg dg wd hh v rt bx rk st ot wk).2.2.1 (48 + k)) 48 ∧
    rowR 48 (F_X3_makeEntries given perm plain Xuser Xowner Xtape Xe0 Xe1 Xe2 Xe3 Xe4 wdgr stgr kybl clbl mvbl labl Xtext Xsum Xch).2.2.2.1 (fun k => (F_X11_makeLate Muser Musers Mowner Mowners tape taken plain perm En Ms Mk msg dg wd hh v rt bx rk st ot wk).2.2.1 (96 + k)) 32 ∧
    rowR 48 (F_X3_makeEntries given perm plain Xuser Xowner Xtape Xe0 Xe1 Xe2 Xe3 Xe4 wdgr stgr kybl clbl mvbl labl Xtext Xsum Xch).2.2.2.2.1 (fun k => (F_X11_makeLate Muser Musers Mowner Mowners tape taken plain perm En Ms Mk msg dg wd hh v rt bx rk st ot wk).2.2.1 (144 + k)) 32 ∧
    rowR 48 (F_X3_makeEntries given perm plain Xuser Xowner Xtape Xe0 Xe1 Xe2 Xe3 Xe4 wdgr stgr kybl clbl mvbl labl Xtext Xsum Xch).2.2.2.2.2.1 (fun k => (F_X11_makeLate Muser Musers Mowner Mowners tape taken plain perm En Ms Mk msg dg wd hh v rt bx rk st ot wk).2.2.1 (192 + k)) 16 ∧
    bA 240 (F_X11_makeLate Muser Musers Mowner Mowners tape taken plain perm En Ms Mk msg dg wd hh v rt bx rk st ot wk).2.2.1 ∧
    bA 32 (F_X11_makeLate Muser Musers Mowner Mowners tape taken plain perm En Ms Mk msg dg wd hh v rt bx rk st ot wk).2.2.2.2.1 := by
  have ht4 := ht.2.1
  obtain ⟨g1, g2⟩ := giveTape_R (n2 := 68) (b := 68) (c0 := 0) (q := ((F_X5_clear Xch).1, Xch.2)) (f := tape) (e := fun k => tape (taken + k)) hg ht h68 rowR.clear (by decide) (by decide) (fun k hk => absurd hk (Nat.not_lt_zero k)) (fun k _ => by rw [Nat.zero_add])
  rw [Nat.zero_add] at g2
  rw [show nI 68 = (68 : Int32) from rfl, ← giveTape_le] at g1 g2
  unfold F_X3_makeEntries F_X11_makeLate
  simp only [gLet_p]
  generalize F_X9_giveTape_l 68 given Xtape ((F_X5_clear Xch).1, Xch.2) 68 = u75 at g1 g2 ⊢
  by_cases hp : plain = 0
  · rw [if_pos hp]
    exact ⟨rfl, g1, rfl, lateCore (tf := 84) (b205 := B_X11_makeLate_205_t tape) hu ho g2 htB (by omega) hbe hr hbx hbB rfl rfl rfl rfl rfl rfl rfl rfl rfl rfl rfl rfl (fun i z => by
      unfold B_X11_makeLate_205_t F_X11_nextByte
      simp only [gLet_p]
      rw [show 192 + (12 + i) = 204 + i by omega, Nat.add_sub_cancel]) (by rw [if_pos hp]) rfl rfl rfl⟩
  · rw [if_neg hp]
    exact ⟨rfl, g1, rfl, lateCore (tf := 70) (b205 := B_X11_makeLate_205_f tape) hu ho g2 htB (by omega) hbe hr hbx hbB rfl rfl rfl rfl rfl rfl rfl rfl rfl rfl rfl rfl (fun i z => by
      unfold B_X11_makeLate_205_f F_X11_nextByte
      simp only [gLet_p]
      rw [show 192 + (12 + i) = 204 + i by omega, Nat.add_sub_cancel]) (by rw [if_neg hp]) rfl rfl rfl⟩
