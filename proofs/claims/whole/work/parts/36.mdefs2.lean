def B_X11_setKey_16_31 (i_2380 : Nat) (Mbox : Nat → Int32) (z_2380 : Int32 × (Nat → Int32)) (Yby : Nat → Int32) : Nat → (Nat → Int32) → (Nat → Int32) := fun i_2484 z_2483 =>
  if 16 ≤ (4 * i_2380) + i_2484 then
    if (4 * i_2380) % 16 = 0 then
      gLet (Mbox (z_2483 (((4 * i_2380) - 4) + ((i_2484 + 1) % 4))).toNatClampNeg) fun v_2517 =>
      if i_2484 = 0 then
        gLet ((z_2483 (((4 * i_2380) + i_2484) - 16)) ^^^ (v_2517 ^^^ z_2380.1)) fun v_2527 =>
        (upd z_2483 ((4 * i_2380) + i_2484) v_2527)
      else
        (upd z_2483 ((4 * i_2380) + i_2484) ((z_2483 (((4 * i_2380) + i_2484) - 16)) ^^^ v_2517))
    else
      gLet ((z_2483 (((4 * i_2380) + i_2484) - 16)) ^^^ (z_2483 (((4 * i_2380) - 4) + i_2484))) fun v_2505 =>
      (upd z_2483 ((4 * i_2380) + i_2484) v_2505)
  else
    (upd z_2483 ((4 * i_2380) + i_2484) (Yby ((4 * i_2380) + i_2484)))
def B_X11_setKey_16_15 (Mbox : Nat → Int32) (Yby : Nat → Int32) : Nat → (Int32 × (Nat → Int32)) → (Int32 × (Nat → Int32)) := fun i_2165 z_2164 =>
  gLet (itr (B_X11_setKey_16_31 i_2165 Mbox z_2164 Yby) 4 (z_2164.2 : Nat → Int32)) fun z_2366 =>
  if 4 * i_2165 < 16 then
    (z_2164.1, z_2366)
  else
    if (4 * i_2165) % 16 = 0 then
      gLet (F_X11_times z_2164.1 2) fun r_2375 =>
      (r_2375, z_2366)
    else
      (z_2164.1, z_2366)
def F_X11_setKey_16 (Mbox : Nat → Int32) (MroundKeys : Nat → Int32) (Yby : Nat → Int32) : (Nat → Int32) × Nat :=
  gLet (itr (B_X11_setKey_16_15 Mbox Yby) 44 ((1, MroundKeys) : Int32 × (Nat → Int32))) fun z_2594 =>
  (z_2594.2, 10)
def B_X11_setKey_32_31 (i_2776 : Nat) (Mbox : Nat → Int32) (z_2776 : Int32 × (Nat → Int32)) (Yby : Nat → Int32) : Nat → (Nat → Int32) → (Nat → Int32) := fun i_2898 z_2897 =>
  if 32 ≤ (4 * i_2776) + i_2898 then
    if (4 * i_2776) % 32 = 0 then
      gLet (Mbox (z_2897 (((4 * i_2776) - 4) + ((i_2898 + 1) % 4))).toNatClampNeg) fun v_2940 =>
      if i_2898 = 0 then
        gLet ((z_2897 (((4 * i_2776) + i_2898) - 32)) ^^^ (v_2940 ^^^ z_2776.1)) fun v_2950 =>
        (upd z_2897 ((4 * i_2776) + i_2898) v_2950)
      else
        (upd z_2897 ((4 * i_2776) + i_2898) ((z_2897 (((4 * i_2776) + i_2898) - 32)) ^^^ v_2940))
    else
      if i_2776 % 8 = 4 then
        gLet ((z_2897 (((4 * i_2776) + i_2898) - 32)) ^^^ (Mbox (z_2897 (((4 * i_2776) - 4) + i_2898)).toNatClampNeg)) fun v_2928 =>
        (upd z_2897 ((4 * i_2776) + i_2898) v_2928)
      else
        gLet ((z_2897 (((4 * i_2776) + i_2898) - 32)) ^^^ (z_2897 (((4 * i_2776) - 4) + i_2898))) fun v_2921 =>
        (upd z_2897 ((4 * i_2776) + i_2898) v_2921)
  else
    (upd z_2897 ((4 * i_2776) + i_2898) (Yby ((4 * i_2776) + i_2898)))
def B_X11_setKey_32_15 (Mbox : Nat → Int32) (Yby : Nat → Int32) : Nat → (Int32 × (Nat → Int32)) → (Int32 × (Nat → Int32)) := fun i_2525 z_2524 =>
  gLet (itr (B_X11_setKey_32_31 i_2525 Mbox z_2524 Yby) 4 (z_2524.2 : Nat → Int32)) fun z_2762 =>
  if 4 * i_2525 < 32 then
    (z_2524.1, z_2762)
  else
    if (4 * i_2525) % 32 = 0 then
      gLet (F_X11_times z_2524.1 2) fun r_2771 =>
      (r_2771, z_2762)
    else
      (z_2524.1, z_2762)
def F_X11_setKey_32 (Mbox : Nat → Int32) (MroundKeys : Nat → Int32) (Yby : Nat → Int32) : (Nat → Int32) × Nat :=
  gLet (itr (B_X11_setKey_32_15 Mbox Yby) 60 ((1, MroundKeys) : Int32 × (Nat → Int32))) fun z_3026 =>
  (z_3026.2, 14)
def B_X11_block_0_3 (Yrow : Nat → Int32) (fr : Nat) : Nat → (Nat → Int32) → (Nat → Int32) := fun i_247 z_246 =>
  (upd z_246 i_247 (Yrow (fr + i_247)))
def B_X11_block_0_98 (Mbox : Nat → Int32) (Mrounds : Nat) (MroundKeys : Nat → Int32) : Nat → ((Nat → Int32) × (Nat → Int32)) → ((Nat → Int32) × (Nat → Int32)) := fun i_293 z_292 =>
  gLet (F_X11_substitute_0 Mbox z_292.1 z_292.2) fun u_295 =>
  if Mrounds ≤ 1 + i_293 then
    gLet (F_X11_addRound MroundKeys u_295.1 (1 + i_293)) fun u_298 =>
    (u_298, u_295.2)
  else
    gLet (F_X11_mix u_295.1 u_295.2 2 3 1 1) fun u_301 =>
    gLet (F_X11_addRound MroundKeys u_301.1 (1 + i_293)) fun u_303 =>
    (u_303, u_301.2)
def B_X11_block_0_144 (fr : Nat) (z_320 : (Nat → Int32) × (Nat → Int32)) : Nat → (Nat → Int32) → (Nat → Int32) := fun i_336 z_335 =>
  (upd z_335 (fr + i_336) (z_320.1 i_336))
def F_X11_block_0 (Mbox : Nat → Int32) (MroundKeys : Nat → Int32) (Mrounds : Nat) (Mstate : Nat → Int32) (Mother : Nat → Int32) (Yrow : Nat → Int32) (fr : Nat) : (Nat → Int32) × (Nat → Int32) × (Nat → Int32) :=
  gLet (itr (B_X11_block_0_3 Yrow fr) 16 (Mstate : Nat → Int32)) fun z_258 =>
  gLet (F_X11_addRound MroundKeys z_258 0) fun u_261 =>
  gLet (itr (B_X11_block_0_98 Mbox Mrounds MroundKeys) Mrounds ((u_261, Mother) : (Nat → Int32) × (Nat → Int32))) fun z_320 =>
  gLet (itr (B_X11_block_0_144 fr z_320) 16 (Yrow : Nat → Int32)) fun z_347 =>
  (z_320.1, z_320.2, z_347)
def B_X11_block_1_3 (Yrow : Nat → Int32) (fr : Nat) : Nat → (Nat → Int32) → (Nat → Int32) := fun i_247 z_246 =>
  (upd z_246 i_247 (Yrow (fr + i_247)))
def B_X11_block_1_39 (MroundKeys : Nat → Int32) (Mrounds : Nat) (MbackBox : Nat → Int32) : Nat → ((Nat → Int32) × (Nat → Int32)) → ((Nat → Int32) × (Nat → Int32)) := fun i_291 z_290 =>
  gLet (F_X11_addRound MroundKeys z_290.1 (Mrounds - i_291)) fun u_293 =>
  if Mrounds ≤ Mrounds - i_291 then
    gLet (F_X11_substitute_1 MbackBox u_293 z_290.2) fun u_296 =>
    (u_296.1, u_296.2)
  else
    gLet (F_X11_mix u_293 z_290.2 14 11 13 9) fun u_299 =>
    gLet (F_X11_substitute_1 MbackBox u_299.1 u_299.2) fun u_301 =>
    (u_301.1, u_301.2)
def B_X11_block_1_144 (fr : Nat) (u_320 : Nat → Int32) : Nat → (Nat → Int32) → (Nat → Int32) := fun i_336 z_335 =>
  (upd z_335 (fr + i_336) (u_320 i_336))
def F_X11_block_1 (MbackBox : Nat → Int32) (MroundKeys : Nat → Int32) (Mrounds : Nat) (Mstate : Nat → Int32) (Mother : Nat → Int32) (Yrow : Nat → Int32) (fr : Nat) : (Nat → Int32) × (Nat → Int32) × (Nat → Int32) :=
  gLet (itr (B_X11_block_1_3 Yrow fr) 16 (Mstate : Nat → Int32)) fun z_258 =>
  gLet (itr (B_X11_block_1_39 MroundKeys Mrounds MbackBox) Mrounds ((z_258, Mother) : (Nat → Int32) × (Nat → Int32))) fun z_318 =>
  gLet (F_X11_addRound MroundKeys z_318.1 0) fun u_320 =>
  gLet (itr (B_X11_block_1_144 fr u_320) 16 (Yrow : Nat → Int32)) fun z_347 =>
  (u_320, z_318.2, z_347)
def B_X11_chain_0_32 (i_669 : Nat) : Nat → (Nat → Int32) → (Nat → Int32) := fun i_699 z_698 =>
  gLet ((z_698 (((16 * i_669) + 16) + i_699)) ^^^ (z_698 ((((16 * i_669) + 16) + i_699) - 16))) fun v_706 =>
  (upd z_698 (((16 * i_669) + 16) + i_699) v_706)
def B_X11_chain_0_2 (Mbox : Nat → Int32) (MroundKeys : Nat → Int32) (Mrounds : Nat) : Nat → ((Nat → Int32) × (Nat → Int32) × (Nat → Int32)) → ((Nat → Int32) × (Nat → Int32) × (Nat → Int32)) := fun i_609 z_608 =>
  gLet (itr (B_X11_chain_0_32 i_609) 16 (z_608.2.2 : Nat → Int32)) fun z_660 =>
  gLet (F_X11_block_0 Mbox MroundKeys Mrounds z_608.1 z_608.2.1 z_660 ((16 * i_609) + 16)) fun u_662 =>
  (u_662.1, u_662.2.1, u_662.2.2)
def F_X11_chain_0 (Mbox : Nat → Int32) (MroundKeys : Nat → Int32) (Mrounds : Nat) (Mstate : Nat → Int32) (Mother : Nat → Int32) (Mwork : Nat → Int32) (bl : Nat) : (Nat → Int32) × (Nat → Int32) × (Nat → Int32) :=
  gLet (itr (B_X11_chain_0_2 Mbox MroundKeys Mrounds) bl ((Mstate, Mother, Mwork) : (Nat → Int32) × (Nat → Int32) × (Nat → Int32))) fun z_728 =>
  (z_728.1, z_728.2.1, z_728.2.2)
def B_X11_chain_1_97 (bl : Nat) (i_669 : Nat) : Nat → (Nat → Int32) → (Nat → Int32) := fun i_704 z_703 =>
  gLet ((z_703 ((16 * (bl - i_669)) + i_704)) ^^^ (z_703 (((16 * (bl - i_669)) + i_704) - 16))) fun v_711 =>
  (upd z_703 ((16 * (bl - i_669)) + i_704) v_711)
def B_X11_chain_1_2 (MbackBox : Nat → Int32) (MroundKeys : Nat → Int32) (Mrounds : Nat) (bl : Nat) : Nat → ((Nat → Int32) × (Nat → Int32) × (Nat → Int32)) → ((Nat → Int32) × (Nat → Int32) × (Nat → Int32)) := fun i_609 z_608 =>
  gLet (F_X11_block_1 MbackBox MroundKeys Mrounds z_608.1 z_608.2.1 z_608.2.2 (16 * (bl - i_609))) fun u_618 =>
  gLet (itr (B_X11_chain_1_97 bl i_609) 16 (u_618.2.2 : Nat → Int32)) fun z_665 =>
  (u_618.1, u_618.2.1, z_665)
def F_X11_chain_1 (MbackBox : Nat → Int32) (MroundKeys : Nat → Int32) (Mrounds : Nat) (Mstate : Nat → Int32) (Mother : Nat → Int32) (Mwork : Nat → Int32) (bl : Nat) : (Nat → Int32) × (Nat → Int32) × (Nat → Int32) :=
  gLet (itr (B_X11_chain_1_2 MbackBox MroundKeys Mrounds bl) bl ((Mstate, Mother, Mwork) : (Nat → Int32) × (Nat → Int32) × (Nat → Int32))) fun z_728 =>
  (z_728.1, z_728.2.1, z_728.2.2)
