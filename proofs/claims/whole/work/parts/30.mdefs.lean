def F_X11_thrown (Mthrown : Int32) : Int32 :=
  Mthrown
def F_X11_say (Msaid : Nat) (Mmessage : Nat → Int32) (vb : Int32) : Nat × (Nat → Int32) :=
  (Msaid + 1, (upd Mmessage Msaid (vb &&& 255)))
def B_X11_sayRow_3 (Yof : Nat → Int32) (fr : Nat) : Nat → (Nat × (Nat → Int32)) → (Nat × (Nat → Int32)) := fun i_79 z_78 =>
  gLet (F_X11_say z_78.1 z_78.2 (Yof (fr + i_79))) fun u_82 =>
  (u_82.1, u_82.2)
def F_X11_sayRow (Msaid : Nat) (Mmessage : Nat → Int32) (Yof : Nat → Int32) (fr : Nat) (cn : Nat) : Nat × (Nat → Int32) :=
  gLet (itr (B_X11_sayRow_3 Yof fr) cn ((Msaid, Mmessage) : Nat × (Nat → Int32))) fun z_92 =>
  (z_92.1, z_92.2)
def B_X11_sayLow_2 (vw : Int32) : Nat → (Nat × (Nat → Int32)) → (Nat × (Nat → Int32)) := fun i_79 z_78 =>
  gLet (F_X11_say z_78.1 z_78.2 (vw >>> ((nI (8 * i_79)) &&& 31))) fun u_82 =>
  (u_82.1, u_82.2)
def F_X11_sayLow (Msaid : Nat) (Mmessage : Nat → Int32) (vw : Int32) (cn : Nat) : Nat × (Nat → Int32) :=
  gLet (itr (B_X11_sayLow_2 vw) cn ((Msaid, Mmessage) : Nat × (Nat → Int32))) fun z_92 =>
  (z_92.1, z_92.2)
def F_X11_left (vw : Int32) (vn : Int32) : Int32 :=
  ((vw <<< (vn &&& 31)) ||| (g_us vw (32 - vn)))
def B_X11_close_0_15 : Nat → (Nat × (Nat → Int32)) → (Nat × (Nat → Int32)) := fun i_230 z_229 =>
  gLet (F_X11_say z_229.1 z_229.2 0) fun u_233 =>
  (u_233.1, u_233.2)
def F_X11_close_0 (Msaid : Nat) (Mmessage : Nat → Int32) : Int32 × (Nat × (Nat → Int32)) :=
  gLet (F_X11_say Msaid Mmessage 128) fun u_215 =>
  gLet (itr B_X11_close_0_15 ((120 - (Msaid + 1) % 64) % 64) ((u_215.1, u_215.2) : Nat × (Nat → Int32))) fun z_241 =>
  gLet (F_X11_say z_241.1 z_241.2 0) fun u_250 =>
  gLet (F_X11_say u_250.1 u_250.2 0) fun u_258 =>
  gLet (F_X11_say u_258.1 u_258.2 0) fun u_266 =>
  gLet (F_X11_say u_266.1 u_266.2 0) fun u_274 =>
  gLet (F_X11_say u_274.1 u_274.2 (nI ((8 * Msaid) / 16777216))) fun u_284 =>
  gLet (F_X11_say u_284.1 u_284.2 (nI ((8 * Msaid) / 65536))) fun u_294 =>
  gLet (F_X11_say u_294.1 u_294.2 (nI ((8 * Msaid) / 256))) fun u_304 =>
  gLet (F_X11_say u_304.1 u_304.2 (nI ((8 * Msaid) / 1))) fun u_314 =>
  ((nI (u_314.1 / 64)), (u_314.1, u_314.2))
def B_X11_readWords_0_2 (Mmessage : Nat → Int32) (bk : Nat) : Nat → (Nat → Int32) → (Nat → Int32) := fun i_159 z_158 =>
  gLet (((Mmessage ((64 * bk) + (4 * i_159))) <<< (24 &&& 31)) ||| ((Mmessage (((64 * bk) + (4 * i_159)) + 1)) <<< (16 &&& 31))) fun v_167 =>
  gLet (v_167 ||| ((Mmessage (((64 * bk) + (4 * i_159)) + 2)) <<< (8 &&& 31))) fun v_169 =>
  (upd z_158 i_159 (v_169 ||| (Mmessage (((64 * bk) + (4 * i_159)) + 3))))
def F_X11_readWords_0 (Mmessage : Nat → Int32) (Mwords : Nat → Int32) (bk : Nat) : Nat → Int32 :=
  gLet (itr (B_X11_readWords_0_2 Mmessage bk) 16 (Mwords : Nat → Int32)) fun z_188 =>
  z_188
def B_X11_close_1_15 : Nat → (Nat × (Nat → Int32)) → (Nat × (Nat → Int32)) := fun i_214 z_213 =>
  gLet (F_X11_say z_213.1 z_213.2 0) fun u_217 =>
  (u_217.1, u_217.2)
def F_X11_close_1 (Msaid : Nat) (Mmessage : Nat → Int32) : Int32 × (Nat × (Nat → Int32)) :=
  gLet (F_X11_say Msaid Mmessage 128) fun u_199 =>
  gLet (itr B_X11_close_1_15 ((120 - (Msaid + 1) % 64) % 64) ((u_199.1, u_199.2) : Nat × (Nat → Int32))) fun z_225 =>
  gLet (F_X11_say z_225.1 z_225.2 (nI ((8 * Msaid) / 1))) fun u_235 =>
  gLet (F_X11_say u_235.1 u_235.2 (nI ((8 * Msaid) / 256))) fun u_244 =>
  gLet (F_X11_say u_244.1 u_244.2 (nI ((8 * Msaid) / 65536))) fun u_253 =>
  gLet (F_X11_say u_253.1 u_253.2 (nI ((8 * Msaid) / 16777216))) fun u_262 =>
  gLet (F_X11_say u_262.1 u_262.2 0) fun u_269 =>
  gLet (F_X11_say u_269.1 u_269.2 0) fun u_276 =>
  gLet (F_X11_say u_276.1 u_276.2 0) fun u_283 =>
  gLet (F_X11_say u_283.1 u_283.2 0) fun u_290 =>
  ((nI (u_290.1 / 64)), (u_290.1, u_290.2))
def B_X11_readWords_1_2 (Mmessage : Nat → Int32) (bk : Nat) : Nat → (Nat → Int32) → (Nat → Int32) := fun i_169 z_168 =>
  gLet ((Mmessage ((64 * bk) + (4 * i_169))) ||| ((Mmessage (((64 * bk) + (4 * i_169)) + 1)) <<< (8 &&& 31))) fun v_177 =>
  gLet (v_177 ||| ((Mmessage (((64 * bk) + (4 * i_169)) + 2)) <<< (16 &&& 31))) fun v_179 =>
  gLet (v_179 ||| ((Mmessage (((64 * bk) + (4 * i_169)) + 3)) <<< (24 &&& 31))) fun v_181 =>
  (upd z_168 i_169 v_181)
def F_X11_readWords_1 (Mmessage : Nat → Int32) (Mwords : Nat → Int32) (bk : Nat) : Nat → Int32 :=
  gLet (itr (B_X11_readWords_1_2 Mmessage bk) 16 (Mwords : Nat → Int32)) fun z_200 =>
  z_200
def B_X11_keep_4_2 (Mh : Nat → Int32) : Nat → (Nat → Int32) → (Nat → Int32) := fun i_111 z_110 =>
  (upd z_110 i_111 ((g_us (Mh (i_111 / 4)) (nI (8 * (i_111 % 4)))) &&& 255))
def F_X11_keep_4 (Mdigest : Nat → Int32) (Mh : Nat → Int32) : Nat → Int32 :=
  gLet (itr (B_X11_keep_4_2 Mh) 16 (Mdigest : Nat → Int32)) fun z_130 =>
  z_130
def B_X11_keep_8_2 (Mh : Nat → Int32) : Nat → (Nat → Int32) → (Nat → Int32) := fun i_122 z_121 =>
  gLet ((g_us (Mh (i_122 / 4)) (nI (8 * (3 - (i_122 % 4))))) &&& 255) fun v_130 =>
  (upd z_121 i_122 v_130)
def F_X11_keep_8 (Mdigest : Nat → Int32) (Mh : Nat → Int32) : Nat → Int32 :=
  gLet (itr (B_X11_keep_8_2 Mh) 32 (Mdigest : Nat → Int32)) fun z_145 =>
  z_145
def F_X11_turnOf (kk : Nat) : Int32 :=
  if kk / 16 = 0 then
    (nI (7 + (5 * (kk % 4))))
  else
    if kk / 16 = 1 then
      if kk % 4 = 0 then
        5
      else
        if kk % 4 = 1 then
          9
        else
          if kk % 4 = 2 then
            14
          else
            20
    else
      if kk / 16 = 2 then
        if kk % 4 = 0 then
          4
        else
          if kk % 4 = 1 then
            11
          else
            if kk % 4 = 2 then
              16
            else
              23
      else
        if kk % 4 = 0 then
          6
        else
          if kk % 4 = 1 then
            10
          else
            if kk % 4 = 2 then
              15
            else
              21
def B_X11_small_85 (Msines : Nat → Int32) (u_3650 : Nat → Int32) : Nat → (Int32 × Int32 × Int32 × Int32) → (Int32 × Int32 × Int32 × Int32) := fun i_3814 z_3813 =>
  if 16 ≤ i_3814 then
    if 32 ≤ i_3814 then
      if 48 ≤ i_3814 then
        gLet (z_3813.1 + (z_3813.2.2.1 ^^^ (z_3813.2.1 ||| (z_3813.2.2.2 ^^^ (-1))))) fun v_3826 =>
        gLet (F_X11_turnOf i_3814) fun r_3827 =>
        gLet (F_X11_left ((v_3826 + (Msines i_3814)) + (u_3650 ((7 * i_3814) % 16))) r_3827) fun r_3829 =>
        (z_3813.2.2.2, (z_3813.2.1 + r_3829), z_3813.2.1, z_3813.2.2.1)
      else
        gLet (z_3813.1 + ((z_3813.2.1 ^^^ z_3813.2.2.1) ^^^ z_3813.2.2.2)) fun v_3845 =>
        gLet ((v_3845 + (Msines i_3814)) + (u_3650 (((3 * i_3814) + 5) % 16))) fun v_3846 =>
        gLet (F_X11_turnOf i_3814) fun r_3847 =>
        gLet (F_X11_left v_3846 r_3847) fun r_3849 =>
        (z_3813.2.2.2, (z_3813.2.1 + r_3849), z_3813.2.1, z_3813.2.2.1)
    else
      gLet (z_3813.2.2.1 ^^^ (z_3813.2.2.2 &&& (z_3813.2.1 ^^^ z_3813.2.2.1))) fun v_3857 =>
      gLet (((z_3813.1 + v_3857) + (Msines i_3814)) + (u_3650 (((5 * i_3814) + 1) % 16))) fun v_3865 =>
      gLet (F_X11_turnOf i_3814) fun r_3866 =>
      gLet (F_X11_left v_3865 r_3866) fun r_3868 =>
      (z_3813.2.2.2, (z_3813.2.1 + r_3868), z_3813.2.1, z_3813.2.2.1)
  else
    gLet (z_3813.2.2.2 ^^^ (z_3813.2.1 &&& (z_3813.2.2.1 ^^^ z_3813.2.2.2))) fun v_3876 =>
    gLet (F_X11_turnOf i_3814) fun r_3880 =>
    gLet (F_X11_left (((z_3813.1 + v_3876) + (Msines i_3814)) + (u_3650 i_3814)) r_3880) fun r_3882 =>
    (z_3813.2.2.2, (z_3813.2.1 + r_3882), z_3813.2.1, z_3813.2.2.1)
def B_X11_small_40 (u_2648 : Nat × (Nat → Int32)) (Msines : Nat → Int32) : Nat → ((Nat → Int32) × (Nat → Int32)) → ((Nat → Int32) × (Nat → Int32)) := fun i_3318 z_3317 =>
  gLet (F_X11_readWords_1 u_2648.2 z_3317.1 i_3318) fun u_3320 =>
  gLet (itr (B_X11_small_85 Msines u_3320) 64 (((z_3317.2 0), (z_3317.2 1), (z_3317.2 2), (z_3317.2 3)) : Int32 × Int32 × Int32 × Int32)) fun z_3637 =>
  gLet (((upd z_3317.2 0 ((z_3317.2 0) + z_3637.1)) 1) + z_3637.2.1) fun v_3640 =>
  gLet (((upd (upd z_3317.2 0 ((z_3317.2 0) + z_3637.1)) 1 v_3640) 2) + z_3637.2.2.1) fun v_3642 =>
  gLet (((upd (upd (upd z_3317.2 0 ((z_3317.2 0) + z_3637.1)) 1 v_3640) 2 v_3642) 3) + z_3637.2.2.2) fun v_3644 =>
  (u_3320, (upd (upd (upd (upd z_3317.2 0 ((z_3317.2 0) + z_3637.1)) 1 v_3640) 2 v_3642) 3 v_3644))
def F_X11_small (Msaid : Nat) (Mmessage : Nat → Int32) (Mdigest : Nat → Int32) (Mwords : Nat → Int32) (Mh : Nat → Int32) (Msines : Nat → Int32) : Nat × (Nat → Int32) × (Nat → Int32) × (Nat → Int32) × (Nat → Int32) :=
  gLet ((F_X11_close_1 Msaid Mmessage).2) fun u_2648 =>
  gLet (itr (B_X11_small_40 u_2648 Msines) ((Msaid + 1 + (120 - (Msaid + 1) % 64) % 64 + 8) / 64) ((Mwords, (upd (upd (upd (upd Mh 0 1732584193) 1 (-271733879)) 2 (-1732584194)) 3 271733878)) : (Nat → Int32) × (Nat → Int32))) fun z_3977 =>
  gLet (F_X11_keep_4 Mdigest z_3977.2) fun u_3979 =>
  (u_2648.1, u_2648.2, u_3979, z_3977.1, z_3977.2)
def B_X11_great_96 : Nat → (Nat → Int32) → (Nat → Int32) := fun i_4190 z_4189 =>
  gLet ((z_4189 ((16 + i_4190) - 16)) + (z_4189 ((16 + i_4190) - 7))) fun v_4198 =>
  gLet (F_X11_left (z_4189 ((16 + i_4190) - 15)) 25) fun r_4199 =>
  gLet (F_X11_left (z_4189 ((16 + i_4190) - 15)) 14) fun r_4201 =>
  gLet ((r_4199 ^^^ r_4201) ^^^ (g_us (z_4189 ((16 + i_4190) - 15)) 3)) fun v_4203 =>
  gLet (F_X11_left (z_4189 ((16 + i_4190) - 2)) 15) fun r_4204 =>
  gLet (F_X11_left (z_4189 ((16 + i_4190) - 2)) 13) fun r_4206 =>
  gLet ((r_4204 ^^^ r_4206) ^^^ (g_us (z_4189 ((16 + i_4190) - 2)) 10)) fun v_4208 =>
  (upd z_4189 (16 + i_4190) ((v_4198 + v_4203) + v_4208))
def B_X11_great_199 (z_4140 : (Nat → Int32) × (Nat → Int32) × (Nat → Int32)) : Nat → (Nat → Int32) → (Nat → Int32) := fun i_4247 z_4246 =>
  (upd z_4246 i_4247 (z_4140.2.1 i_4247))
def B_X11_great_225 (Mroots : Nat → Int32) (z_4233 : Nat → Int32) : Nat → (Nat → Int32) → (Nat → Int32) := fun i_4374 z_4373 =>
  gLet (F_X11_left (z_4373 4) 26) fun r_4378 =>
  gLet (F_X11_left (z_4373 4) 21) fun r_4380 =>
  gLet (F_X11_left (z_4373 4) 7) fun r_4382 =>
  gLet ((z_4373 6) ^^^ ((z_4373 4) &&& ((z_4373 5) ^^^ (z_4373 6)))) fun v_4384 =>
  gLet ((((z_4373 7) + ((r_4378 ^^^ r_4380) ^^^ r_4382)) + v_4384) + (Mroots i_4374)) fun v_4385 =>
  gLet (F_X11_left (z_4373 0) 30) fun r_4387 =>
  gLet (F_X11_left (z_4373 0) 19) fun r_4389 =>
  gLet (F_X11_left (z_4373 0) 10) fun r_4391 =>
  gLet (((z_4373 0) &&& (z_4373 1)) ||| ((z_4373 2) &&& ((z_4373 0) ||| (z_4373 1)))) fun v_4393 =>
  gLet (((upd (upd (upd (upd (upd (upd (upd z_4373 7 (z_4373 6)) 6 ((upd z_4373 7 (z_4373 6)) 5)) 5 ((upd (upd z_4373 7 (z_4373 6)) 6 ((upd z_4373 7 (z_4373 6)) 5)) 4)) 4 ((upd (upd (upd z_4373 7 (z_4373 6)) 6 ((upd z_4373 7 (z_4373 6)) 5)) 5 ((upd (upd z_4373 7 (z_4373 6)) 6 ((upd z_4373 7 (z_4373 6)) 5)) 4)) 3)) 3 ((upd (upd (upd (upd z_4373 7 (z_4373 6)) 6 ((upd z_4373 7 (z_4373 6)) 5)) 5 ((upd (upd z_4373 7 (z_4373 6)) 6 ((upd z_4373 7 (z_4373 6)) 5)) 4)) 4 ((upd (upd (upd z_4373 7 (z_4373 6)) 6 ((upd z_4373 7 (z_4373 6)) 5)) 5 ((upd (upd z_4373 7 (z_4373 6)) 6 ((upd z_4373 7 (z_4373 6)) 5)) 4)) 3)) 2)) 2 ((upd (upd (upd (upd (upd z_4373 7 (z_4373 6)) 6 ((upd z_4373 7 (z_4373 6)) 5)) 5 ((upd (upd z_4373 7 (z_4373 6)) 6 ((upd z_4373 7 (z_4373 6)) 5)) 4)) 4 ((upd (upd (upd z_4373 7 (z_4373 6)) 6 ((upd z_4373 7 (z_4373 6)) 5)) 5 ((upd (upd z_4373 7 (z_4373 6)) 6 ((upd z_4373 7 (z_4373 6)) 5)) 4)) 3)) 3 ((upd (upd (upd (upd z_4373 7 (z_4373 6)) 6 ((upd z_4373 7 (z_4373 6)) 5)) 5 ((upd (upd z_4373 7 (z_4373 6)) 6 ((upd z_4373 7 (z_4373 6)) 5)) 4)) 4 ((upd (upd (upd z_4373 7 (z_4373 6)) 6 ((upd z_4373 7 (z_4373 6)) 5)) 5 ((upd (upd z_4373 7 (z_4373 6)) 6 ((upd z_4373 7 (z_4373 6)) 5)) 4)) 3)) 2)) 1)) 1 ((upd (upd (upd (upd (upd (upd z_4373 7 (z_4373 6)) 6 ((upd z_4373 7 (z_4373 6)) 5)) 5 ((upd (upd z_4373 7 (z_4373 6)) 6 ((upd z_4373 7 (z_4373 6)) 5)) 4)) 4 ((upd (upd (upd z_4373 7 (z_4373 6)) 6 ((upd z_4373 7 (z_4373 6)) 5)) 5 ((upd (upd z_4373 7 (z_4373 6)) 6 ((upd z_4373 7 (z_4373 6)) 5)) 4)) 3)) 3 ((upd (upd (upd (upd z_4373 7 (z_4373 6)) 6 ((upd z_4373 7 (z_4373 6)) 5)) 5 ((upd (upd z_4373 7 (z_4373 6)) 6 ((upd z_4373 7 (z_4373 6)) 5)) 4)) 4 ((upd (upd (upd z_4373 7 (z_4373 6)) 6 ((upd z_4373 7 (z_4373 6)) 5)) 5 ((upd (upd z_4373 7 (z_4373 6)) 6 ((upd z_4373 7 (z_4373 6)) 5)) 4)) 3)) 2)) 2 ((upd (upd (upd (upd (upd z_4373 7 (z_4373 6)) 6 ((upd z_4373 7 (z_4373 6)) 5)) 5 ((upd (upd z_4373 7 (z_4373 6)) 6 ((upd z_4373 7 (z_4373 6)) 5)) 4)) 4 ((upd (upd (upd z_4373 7 (z_4373 6)) 6 ((upd z_4373 7 (z_4373 6)) 5)) 5 ((upd (upd z_4373 7 (z_4373 6)) 6 ((upd z_4373 7 (z_4373 6)) 5)) 4)) 3)) 3 ((upd (upd (upd (upd z_4373 7 (z_4373 6)) 6 ((upd z_4373 7 (z_4373 6)) 5)) 5 ((upd (upd z_4373 7 (z_4373 6)) 6 ((upd z_4373 7 (z_4373 6)) 5)) 4)) 4 ((upd (upd (upd z_4373 7 (z_4373 6)) 6 ((upd z_4373 7 (z_4373 6)) 5)) 5 ((upd (upd z_4373 7 (z_4373 6)) 6 ((upd z_4373 7 (z_4373 6)) 5)) 4)) 3)) 2)) 1)) 0)) 4) + (v_4385 + (z_4233 i_4374))) fun v_4425 =>
  gLet ((v_4385 + (z_4233 i_4374)) + (((r_4387 ^^^ r_4389) ^^^ r_4391) + v_4393)) fun v_4427 =>
  (upd (upd (upd (upd (upd (upd (upd (upd (upd z_4373 7 (z_4373 6)) 6 ((upd z_4373 7 (z_4373 6)) 5)) 5 ((upd (upd z_4373 7 (z_4373 6)) 6 ((upd z_4373 7 (z_4373 6)) 5)) 4)) 4 ((upd (upd (upd z_4373 7 (z_4373 6)) 6 ((upd z_4373 7 (z_4373 6)) 5)) 5 ((upd (upd z_4373 7 (z_4373 6)) 6 ((upd z_4373 7 (z_4373 6)) 5)) 4)) 3)) 3 ((upd (upd (upd (upd z_4373 7 (z_4373 6)) 6 ((upd z_4373 7 (z_4373 6)) 5)) 5 ((upd (upd z_4373 7 (z_4373 6)) 6 ((upd z_4373 7 (z_4373 6)) 5)) 4)) 4 ((upd (upd (upd z_4373 7 (z_4373 6)) 6 ((upd z_4373 7 (z_4373 6)) 5)) 5 ((upd (upd z_4373 7 (z_4373 6)) 6 ((upd z_4373 7 (z_4373 6)) 5)) 4)) 3)) 2)) 2 ((upd (upd (upd (upd (upd z_4373 7 (z_4373 6)) 6 ((upd z_4373 7 (z_4373 6)) 5)) 5 ((upd (upd z_4373 7 (z_4373 6)) 6 ((upd z_4373 7 (z_4373 6)) 5)) 4)) 4 ((upd (upd (upd z_4373 7 (z_4373 6)) 6 ((upd z_4373 7 (z_4373 6)) 5)) 5 ((upd (upd z_4373 7 (z_4373 6)) 6 ((upd z_4373 7 (z_4373 6)) 5)) 4)) 3)) 3 ((upd (upd (upd (upd z_4373 7 (z_4373 6)) 6 ((upd z_4373 7 (z_4373 6)) 5)) 5 ((upd (upd z_4373 7 (z_4373 6)) 6 ((upd z_4373 7 (z_4373 6)) 5)) 4)) 4 ((upd (upd (upd z_4373 7 (z_4373 6)) 6 ((upd z_4373 7 (z_4373 6)) 5)) 5 ((upd (upd z_4373 7 (z_4373 6)) 6 ((upd z_4373 7 (z_4373 6)) 5)) 4)) 3)) 2)) 1)) 1 ((upd (upd (upd (upd (upd (upd z_4373 7 (z_4373 6)) 6 ((upd z_4373 7 (z_4373 6)) 5)) 5 ((upd (upd z_4373 7 (z_4373 6)) 6 ((upd z_4373 7 (z_4373 6)) 5)) 4)) 4 ((upd (upd (upd z_4373 7 (z_4373 6)) 6 ((upd z_4373 7 (z_4373 6)) 5)) 5 ((upd (upd z_4373 7 (z_4373 6)) 6 ((upd z_4373 7 (z_4373 6)) 5)) 4)) 3)) 3 ((upd (upd (upd (upd z_4373 7 (z_4373 6)) 6 ((upd z_4373 7 (z_4373 6)) 5)) 5 ((upd (upd z_4373 7 (z_4373 6)) 6 ((upd z_4373 7 (z_4373 6)) 5)) 4)) 4 ((upd (upd (upd z_4373 7 (z_4373 6)) 6 ((upd z_4373 7 (z_4373 6)) 5)) 5 ((upd (upd z_4373 7 (z_4373 6)) 6 ((upd z_4373 7 (z_4373 6)) 5)) 4)) 3)) 2)) 2 ((upd (upd (upd (upd (upd z_4373 7 (z_4373 6)) 6 ((upd z_4373 7 (z_4373 6)) 5)) 5 ((upd (upd z_4373 7 (z_4373 6)) 6 ((upd z_4373 7 (z_4373 6)) 5)) 4)) 4 ((upd (upd (upd z_4373 7 (z_4373 6)) 6 ((upd z_4373 7 (z_4373 6)) 5)) 5 ((upd (upd z_4373 7 (z_4373 6)) 6 ((upd z_4373 7 (z_4373 6)) 5)) 4)) 3)) 3 ((upd (upd (upd (upd z_4373 7 (z_4373 6)) 6 ((upd z_4373 7 (z_4373 6)) 5)) 5 ((upd (upd z_4373 7 (z_4373 6)) 6 ((upd z_4373 7 (z_4373 6)) 5)) 4)) 4 ((upd (upd (upd z_4373 7 (z_4373 6)) 6 ((upd z_4373 7 (z_4373 6)) 5)) 5 ((upd (upd z_4373 7 (z_4373 6)) 6 ((upd z_4373 7 (z_4373 6)) 5)) 4)) 3)) 2)) 1)) 0)) 4 v_4425) 0 v_4427)
def B_X11_great_433 (z_4487 : Nat → Int32) : Nat → (Nat → Int32) → (Nat → Int32) := fun i_4501 z_4500 =>
  (upd z_4500 i_4501 ((z_4500 i_4501) + (z_4487 i_4501)))
def B_X11_great_82 (u_3004 : Nat × (Nat → Int32)) (Mroots : Nat → Int32) : Nat → ((Nat → Int32) × (Nat → Int32) × (Nat → Int32)) → ((Nat → Int32) × (Nat → Int32) × (Nat → Int32)) := fun i_3766 z_3765 =>
  gLet (F_X11_readWords_0 u_3004.2 z_3765.1 i_3766) fun u_3768 =>
  gLet (itr B_X11_great_96 48 (u_3768 : Nat → Int32)) fun z_3859 =>
  gLet (itr (B_X11_great_199 z_3765) 8 (z_3765.2.2 : Nat → Int32)) fun z_3882 =>
  gLet (itr (B_X11_great_225 Mroots z_3859) 64 (z_3882 : Nat → Int32)) fun z_4113 =>
  gLet (itr (B_X11_great_433 z_4113) 8 (z_3765.2.1 : Nat → Int32)) fun z_4136 =>
  (z_3859, z_4136, z_4113)
def F_X11_great (Msaid : Nat) (Mmessage : Nat → Int32) (Mdigest : Nat → Int32) (Mwords : Nat → Int32) (Mh : Nat → Int32) (Mv : Nat → Int32) (Mroots : Nat → Int32) : Nat × (Nat → Int32) × (Nat → Int32) × (Nat → Int32) × (Nat → Int32) × (Nat → Int32) :=
  gLet ((F_X11_close_0 Msaid Mmessage).2) fun u_3004 =>
  gLet (itr (B_X11_great_82 u_3004 Mroots) ((Msaid + 1 + (120 - (Msaid + 1) % 64) % 64 + 8) / 64) ((Mwords, (upd (upd (upd (upd (upd (upd (upd (upd Mh 0 1779033703) 1 (-1150833019)) 2 1013904242) 3 (-1521486534)) 4 1359893119) 5 (-1694144372)) 6 528734635) 7 1541459225), Mv) : (Nat → Int32) × (Nat → Int32) × (Nat → Int32))) fun z_4513 =>
  gLet (F_X11_keep_8 Mdigest z_4513.2.1) fun u_4515 =>
  (u_3004.1, u_3004.2, u_4515, z_4513.1, z_4513.2.1, z_4513.2.2)
def B_X11_throughStream_3 : Nat → (Nat → Int32) → (Nat → Int32) := fun i_291 z_290 =>
  (upd z_290 i_291 (nI i_291))
def B_X11_throughStream_32 (Yby : Nat → Int32) (size : Nat) (xv : Int32) : Nat → (Int32 × (Nat → Int32)) → (Int32 × (Nat → Int32)) := fun i_325 z_324 =>
  gLet ((z_324.1 + (z_324.2 i_325)) + ((Yby (i_325 % size)) ^^^ xv)) fun v_328 =>
  ((v_328 - v_328 / 256 * 256), (upd (upd z_324.2 i_325 (z_324.2 (v_328 - v_328 / 256 * 256).toNatClampNeg)) (v_328 - v_328 / 256 * 256).toNatClampNeg (z_324.2 i_325)))
def B_X11_throughStream_109 (fr : Nat) : Nat → (Int32 × (Nat → Int32) × (Nat → Int32)) → (Int32 × (Nat → Int32) × (Nat → Int32)) := fun i_383 z_382 =>
  gLet ((z_382.1 + (z_382.2.1 ((i_383 + 1) % 256))) - (z_382.1 + (z_382.2.1 ((i_383 + 1) % 256))) / 256 * 256) fun v_388 =>
  gLet (((upd (upd z_382.2.1 ((i_383 + 1) % 256) (z_382.2.1 v_388.toNatClampNeg)) v_388.toNatClampNeg (z_382.2.1 ((i_383 + 1) % 256))) ((i_383 + 1) % 256)) + ((upd (upd z_382.2.1 ((i_383 + 1) % 256) (z_382.2.1 v_388.toNatClampNeg)) v_388.toNatClampNeg (z_382.2.1 ((i_383 + 1) % 256))) v_388.toNatClampNeg)) fun v_395 =>
  gLet ((z_382.2.2 (fr + i_383)) ^^^ ((upd (upd z_382.2.1 ((i_383 + 1) % 256) (z_382.2.1 v_388.toNatClampNeg)) v_388.toNatClampNeg (z_382.2.1 ((i_383 + 1) % 256))) (v_395 - v_395 / 256 * 256).toNatClampNeg)) fun v_396 =>
  (v_388, (upd (upd z_382.2.1 ((i_383 + 1) % 256) (z_382.2.1 v_388.toNatClampNeg)) v_388.toNatClampNeg (z_382.2.1 ((i_383 + 1) % 256))), (upd z_382.2.2 (fr + i_383) v_396))
def F_X11_throughStream (Mstream : Nat → Int32) (Yby : Nat → Int32) (Yrow : Nat → Int32) (size : Nat) (xv : Int32) (fr : Nat) (cn : Nat) : (Nat → Int32) × (Nat → Int32) :=
  gLet (itr B_X11_throughStream_3 256 (Mstream : Nat → Int32)) fun z_300 =>
  gLet (itr (B_X11_throughStream_32 Yby size xv) 256 ((0, z_300) : Int32 × (Nat → Int32))) fun z_344 =>
  gLet (itr (B_X11_throughStream_109 fr) cn ((0, z_344.2, Yrow) : Int32 × (Nat → Int32) × (Nat → Int32))) fun z_416 =>
  (z_416.2.1, z_416.2.2)
def B_X11_times_5 (tb : Int32) (ta : Int32) : Nat → Int32 → Int32 := fun i_167 z_166 =>
  if (2 * z_166) ≤ 255 then
    if ((tb >>> ((nI i_167) &&& 31)) &&& 1) = 1 then
      ((2 * z_166) ^^^ ta)
    else
      (2 * z_166)
  else
    if ((tb >>> ((nI i_167) &&& 31)) &&& 1) = 1 then
      (((2 * z_166) ^^^ 283) ^^^ ta)
    else
      ((2 * z_166) ^^^ 283)
def F_X11_times (ta : Int32) (tb : Int32) : Int32 :=
  gLet (itd (B_X11_times_5 tb ta) 8 (0 : Int32)) fun z_200 =>
  z_200
def B_X11_addRound_2 (MroundKeys : Nat → Int32) (rr : Nat) : Nat → (Nat → Int32) → (Nat → Int32) := fun i_79 z_78 =>
  (upd z_78 i_79 ((z_78 i_79) ^^^ (MroundKeys ((16 * rr) + i_79))))
def F_X11_addRound (MroundKeys : Nat → Int32) (Mstate : Nat → Int32) (rr : Nat) : Nat → Int32 :=
  gLet (itr (B_X11_addRound_2 MroundKeys rr) 16 (Mstate : Nat → Int32)) fun z_92 =>
  z_92
def B_X11_mix_3 (ma : Int32) (Mstate : Nat → Int32) (mb : Int32) (mc_ : Int32) (md : Int32) : Nat → (Nat → Int32) → (Nat → Int32) := fun i_305 z_304 =>
  gLet (F_X11_times ma (Mstate i_305)) fun r_310 =>
  gLet (F_X11_times mb (Mstate ((i_305 - (i_305 % 4)) + ((i_305 + 1) % 4)))) fun r_315 =>
  gLet (F_X11_times mc_ (Mstate ((i_305 - (i_305 % 4)) + ((i_305 + 2) % 4)))) fun r_320 =>
  gLet (F_X11_times md (Mstate ((i_305 - (i_305 % 4)) + ((i_305 + 3) % 4)))) fun r_325 =>
  (upd z_304 i_305 (((r_310 ^^^ r_315) ^^^ r_320) ^^^ r_325))
def B_X11_mix_104 (z_354 : Nat → Int32) : Nat → (Nat → Int32) → (Nat → Int32) := fun i_368 z_367 =>
  (upd z_367 i_368 (z_354 i_368))
def F_X11_mix (Mstate : Nat → Int32) (Mother : Nat → Int32) (ma : Int32) (mb : Int32) (mc_ : Int32) (md : Int32) : (Nat → Int32) × (Nat → Int32) :=
  gLet (itr (B_X11_mix_3 ma Mstate mb mc_ md) 16 (Mother : Nat → Int32)) fun z_354 =>
  gLet (itr (B_X11_mix_104 z_354) 16 (Mstate : Nat → Int32)) fun z_377 =>
  (z_377, z_354)
def B_X11_substitute_0_98 (Mother : Nat → Int32) (Mbox : Nat → Int32) (Mstate : Nat → Int32) : Nat → (Nat → Int32) → (Nat → Int32) := fun i_689 z_688 =>
  (upd z_688 i_689 ((upd (upd (upd (upd (upd (upd (upd (upd (upd (upd (upd (upd (upd (upd (upd (upd Mother 0 (Mbox (Mstate 0).toNatClampNeg)) 1 (Mbox (Mstate 5).toNatClampNeg)) 2 (Mbox (Mstate 10).toNatClampNeg)) 3 (Mbox (Mstate 15).toNatClampNeg)) 4 (Mbox (Mstate 4).toNatClampNeg)) 5 (Mbox (Mstate 9).toNatClampNeg)) 6 (Mbox (Mstate 14).toNatClampNeg)) 7 (Mbox (Mstate 3).toNatClampNeg)) 8 (Mbox (Mstate 8).toNatClampNeg)) 9 (Mbox (Mstate 13).toNatClampNeg)) 10 (Mbox (Mstate 2).toNatClampNeg)) 11 (Mbox (Mstate 7).toNatClampNeg)) 12 (Mbox (Mstate 12).toNatClampNeg)) 13 (Mbox (Mstate 1).toNatClampNeg)) 14 (Mbox (Mstate 6).toNatClampNeg)) 15 (Mbox (Mstate 11).toNatClampNeg)) i_689))
def F_X11_substitute_0 (Mbox : Nat → Int32) (Mstate : Nat → Int32) (Mother : Nat → Int32) : (Nat → Int32) × (Nat → Int32) :=
  gLet (itr (B_X11_substitute_0_98 Mother Mbox Mstate) 16 (Mstate : Nat → Int32)) fun z_698 =>
  (z_698, (upd (upd (upd (upd (upd (upd (upd (upd (upd (upd (upd (upd (upd (upd (upd (upd Mother 0 (Mbox (Mstate 0).toNatClampNeg)) 1 (Mbox (Mstate 5).toNatClampNeg)) 2 (Mbox (Mstate 10).toNatClampNeg)) 3 (Mbox (Mstate 15).toNatClampNeg)) 4 (Mbox (Mstate 4).toNatClampNeg)) 5 (Mbox (Mstate 9).toNatClampNeg)) 6 (Mbox (Mstate 14).toNatClampNeg)) 7 (Mbox (Mstate 3).toNatClampNeg)) 8 (Mbox (Mstate 8).toNatClampNeg)) 9 (Mbox (Mstate 13).toNatClampNeg)) 10 (Mbox (Mstate 2).toNatClampNeg)) 11 (Mbox (Mstate 7).toNatClampNeg)) 12 (Mbox (Mstate 12).toNatClampNeg)) 13 (Mbox (Mstate 1).toNatClampNeg)) 14 (Mbox (Mstate 6).toNatClampNeg)) 15 (Mbox (Mstate 11).toNatClampNeg)))
def B_X11_substitute_1_98 (Mother : Nat → Int32) (MbackBox : Nat → Int32) (Mstate : Nat → Int32) : Nat → (Nat → Int32) → (Nat → Int32) := fun i_737 z_736 =>
  (upd z_736 i_737 ((upd (upd (upd (upd (upd (upd (upd (upd (upd (upd (upd (upd (upd (upd (upd (upd Mother 0 (MbackBox (Mstate 0).toNatClampNeg)) 1 (MbackBox (Mstate 13).toNatClampNeg)) 2 (MbackBox (Mstate 10).toNatClampNeg)) 3 (MbackBox (Mstate 7).toNatClampNeg)) 4 (MbackBox (Mstate 4).toNatClampNeg)) 5 (MbackBox (Mstate 1).toNatClampNeg)) 6 (MbackBox (Mstate 14).toNatClampNeg)) 7 (MbackBox (Mstate 11).toNatClampNeg)) 8 (MbackBox (Mstate 8).toNatClampNeg)) 9 (MbackBox (Mstate 5).toNatClampNeg)) 10 (MbackBox (Mstate 2).toNatClampNeg)) 11 (MbackBox (Mstate 15).toNatClampNeg)) 12 (MbackBox (Mstate 12).toNatClampNeg)) 13 (MbackBox (Mstate 9).toNatClampNeg)) 14 (MbackBox (Mstate 6).toNatClampNeg)) 15 (MbackBox (Mstate 3).toNatClampNeg)) i_737))
def F_X11_substitute_1 (MbackBox : Nat → Int32) (Mstate : Nat → Int32) (Mother : Nat → Int32) : (Nat → Int32) × (Nat → Int32) :=
  gLet (itr (B_X11_substitute_1_98 Mother MbackBox Mstate) 16 (Mstate : Nat → Int32)) fun z_746 =>
  (z_746, (upd (upd (upd (upd (upd (upd (upd (upd (upd (upd (upd (upd (upd (upd (upd (upd Mother 0 (MbackBox (Mstate 0).toNatClampNeg)) 1 (MbackBox (Mstate 13).toNatClampNeg)) 2 (MbackBox (Mstate 10).toNatClampNeg)) 3 (MbackBox (Mstate 7).toNatClampNeg)) 4 (MbackBox (Mstate 4).toNatClampNeg)) 5 (MbackBox (Mstate 1).toNatClampNeg)) 6 (MbackBox (Mstate 14).toNatClampNeg)) 7 (MbackBox (Mstate 11).toNatClampNeg)) 8 (MbackBox (Mstate 8).toNatClampNeg)) 9 (MbackBox (Mstate 5).toNatClampNeg)) 10 (MbackBox (Mstate 2).toNatClampNeg)) 11 (MbackBox (Mstate 15).toNatClampNeg)) 12 (MbackBox (Mstate 12).toNatClampNeg)) 13 (MbackBox (Mstate 9).toNatClampNeg)) 14 (MbackBox (Mstate 6).toNatClampNeg)) 15 (MbackBox (Mstate 3).toNatClampNeg)))
def F_X11_keySize (rv : Nat) : Int32 :=
  if rv = 2 then
    5
  else
    if rv = 5 then
      32
    else
      16
def B_X11_pad_2 (cn : Nat) (MfillBytes : Nat → Int32) (Yw : Nat → Int32) : Nat → (Nat → Int32) → (Nat → Int32) := fun i_99 z_98 =>
  if cn ≤ i_99 then
    (upd z_98 i_99 (MfillBytes (i_99 - cn)))
  else
    (upd z_98 i_99 (Yw i_99))
def F_X11_pad (MfillBytes : Nat → Int32) (Mpadded : Nat → Int32) (Yw : Nat → Int32) (cn : Nat) : Nat → Int32 :=
  gLet (itr (B_X11_pad_2 cn MfillBytes Yw) 32 (Mpadded : Nat → Int32)) fun z_116 =>
  z_116
def B_X11_smallAgain_2 (rv : Nat) (Msines : Nat → Int32) : Nat → (Nat × (Nat → Int32) × (Nat → Int32) × (Nat → Int32) × (Nat → Int32)) → (Nat × (Nat → Int32) × (Nat → Int32) × (Nat → Int32) × (Nat → Int32)) := fun i_131 z_130 =>
  gLet (F_X11_sayRow 0 z_130.2.1 z_130.2.2.1 0 (gks rv)) fun u_137 =>
  gLet (F_X11_small u_137.1 u_137.2 z_130.2.2.1 z_130.2.2.2.1 z_130.2.2.2.2 Msines) fun u_139 =>
  (u_139.1, u_139.2.1, u_139.2.2.1, u_139.2.2.2.1, u_139.2.2.2.2)
def F_X11_smallAgain (rv : Nat) (Msaid : Nat) (Mmessage : Nat → Int32) (Mdigest : Nat → Int32) (Mwords : Nat → Int32) (Mh : Nat → Int32) (Msines : Nat → Int32) : Nat × (Nat → Int32) × (Nat → Int32) × (Nat → Int32) × (Nat → Int32) :=
  gLet (itr (B_X11_smallAgain_2 rv Msines) (50 * min 1 (rv - 2)) ((Msaid, Mmessage, Mdigest, Mwords, Mh) : Nat × (Nat → Int32) × (Nat → Int32) × (Nat → Int32) × (Nat → Int32))) fun z_154 =>
  if 50 ≤ (50 * min 1 (rv - 2)) then
    (z_154.1, z_154.2.1, z_154.2.2.1, z_154.2.2.2.1, z_154.2.2.2.2)
  else
    (z_154.1, z_154.2.1, z_154.2.2.1, z_154.2.2.2.1, z_154.2.2.2.2)
def B_X11_makeOwnerKey_26 (u_86 : Nat × (Nat → Int32) × (Nat → Int32) × (Nat → Int32) × (Nat → Int32)) : Nat → (Nat → Int32) → (Nat → Int32) := fun i_104 z_103 =>
  (upd z_103 i_104 (u_86.2.2.1 i_104))
def F_X11_makeOwnerKey (rv : Nat) (Mmessage : Nat → Int32) (Mdigest : Nat → Int32) (Mwords : Nat → Int32) (Mh : Nat → Int32) (Msines : Nat → Int32) (Mpadded : Nat → Int32) (MownKey : Nat → Int32) : Nat × (Nat → Int32) × (Nat → Int32) × (Nat → Int32) × (Nat → Int32) × (Nat → Int32) :=
  gLet (F_X11_sayRow 0 Mmessage Mpadded 0 32) fun u_82 =>
  gLet (F_X11_small u_82.1 u_82.2 Mdigest Mwords Mh Msines) fun u_84 =>
  gLet (F_X11_smallAgain rv u_84.1 u_84.2.1 u_84.2.2.1 u_84.2.2.2.1 u_84.2.2.2.2 Msines) fun u_86 =>
  gLet (itr (B_X11_makeOwnerKey_26 u_86) (gks rv) (MownKey : Nat → Int32)) fun z_117 =>
  (u_86.1, u_86.2.1, u_86.2.2.1, u_86.2.2.2.1, u_86.2.2.2.2, z_117)
def B_X11_makeKey_80_f (u_261 : Nat × (Nat → Int32) × (Nat → Int32) × (Nat → Int32) × (Nat → Int32)) : Nat → (Nat → Int32) → (Nat → Int32) := fun i_279 z_278 =>
  (upd z_278 i_279 (u_261.2.2.1 i_279))
def B_X11_makeKey_80_tt (u_299 : Nat × (Nat → Int32) × (Nat → Int32) × (Nat → Int32) × (Nat → Int32)) : Nat → (Nat → Int32) → (Nat → Int32) := fun i_317 z_316 =>
  (upd z_316 i_317 (u_299.2.2.1 i_317))
def B_X11_makeKey_80_tf (u_338 : Nat × (Nat → Int32) × (Nat → Int32) × (Nat → Int32) × (Nat → Int32)) : Nat → (Nat → Int32) → (Nat → Int32) := fun i_356 z_355 =>
  (upd z_355 i_356 (u_338.2.2.1 i_356))
def F_X11_makeKey (rv : Nat) (Mid : Nat → Int32) (Mids : Nat) (MisPlain : Int32) (Mpermissions : Int32) (Mentries : Nat → Int32) (Mkey : Nat → Int32) (Mmessage : Nat → Int32) (Mdigest : Nat → Int32) (Mwords : Nat → Int32) (Mh : Nat → Int32) (Msines : Nat → Int32) (Mpadded : Nat → Int32) : (Nat → Int32) × Nat × (Nat → Int32) × (Nat → Int32) × (Nat → Int32) × (Nat → Int32) :=
  gLet (F_X11_sayRow 0 Mmessage Mpadded 0 32) fun u_250 =>
  gLet (F_X11_sayRow u_250.1 u_250.2 Mentries 0 32) fun u_252 =>
  gLet (F_X11_sayLow u_252.1 u_252.2 Mpermissions 4) fun u_254 =>
  gLet (F_X11_sayRow u_254.1 u_254.2 Mid 0 Mids) fun u_256 =>
  if rv = 4 then
    if MisPlain = 0 then
      gLet (F_X11_small u_256.1 u_256.2 Mdigest Mwords Mh Msines) fun u_297 =>
      gLet (F_X11_smallAgain rv u_297.1 u_297.2.1 u_297.2.2.1 u_297.2.2.2.1 u_297.2.2.2.2 Msines) fun u_299 =>
      gLet (itr (B_X11_makeKey_80_tt u_299) (gks rv) (Mkey : Nat → Int32)) fun z_330 =>
      (z_330, u_299.1, u_299.2.1, u_299.2.2.1, u_299.2.2.2.1, u_299.2.2.2.2)
    else
      gLet (F_X11_sayLow u_256.1 u_256.2 (-1) 4) fun u_334 =>
      gLet (F_X11_small u_334.1 u_334.2 Mdigest Mwords Mh Msines) fun u_336 =>
      gLet (F_X11_smallAgain rv u_336.1 u_336.2.1 u_336.2.2.1 u_336.2.2.2.1 u_336.2.2.2.2 Msines) fun u_338 =>
      gLet (itr (B_X11_makeKey_80_tf u_338) (gks rv) (Mkey : Nat → Int32)) fun z_369 =>
      (z_369, u_338.1, u_338.2.1, u_338.2.2.1, u_338.2.2.2.1, u_338.2.2.2.2)
  else
    gLet (F_X11_small u_256.1 u_256.2 Mdigest Mwords Mh Msines) fun u_259 =>
    gLet (F_X11_smallAgain rv u_259.1 u_259.2.1 u_259.2.2.1 u_259.2.2.2.1 u_259.2.2.2.2 Msines) fun u_261 =>
    gLet (itr (B_X11_makeKey_80_f u_261) (gks rv) (Mkey : Nat → Int32)) fun z_292 =>
    (z_292, u_261.1, u_261.2.1, u_261.2.2.1, u_261.2.2.2.1, u_261.2.2.2.2)
def F_X11_nextByte (Mtape : Nat → Int32) (Mtaken : Nat) : Int32 × (Nat) :=
  ((Mtape ((Mtaken + 1) - 1)), Mtaken + 1)
def F_X11_shutAll : Int32 × Nat :=
  (0, 0)
def F_X11_word (Muser : Nat → Int32) (Musers : Nat) (Mowner : Nat → Int32) (Mowners : Nat) (vc : Int32) (own : Int32) : Int32 × (Int32 × (Nat → Int32) × Nat × (Nat → Int32) × Nat) :=
  if own = 0 then
    if Musers = 127 then
      (0, (1, Muser, Musers, Mowner, Mowners))
    else
      ((nI (Musers + 1)), (0, (upd Muser Musers (vc &&& 255)), Musers + 1, Mowner, Mowners))
  else
    if Mowners = 127 then
      (0, (1, Muser, Musers, Mowner, Mowners))
    else
      ((nI (Mowners + 1)), (0, Muser, Musers, (upd Mowner Mowners (vc &&& 255)), Mowners + 1))
def F_X11_id (Mid : Nat → Int32) (Mids : Nat) (vb : Int32) : Int32 × (Nat → Int32) × Nat :=
  if Mids = 32 then
    (1, Mid, Mids)
  else
    (0, (upd Mid Mids (vb &&& 255)), Mids + 1)
def F_X11_tape (Mtape : Nat → Int32) (Mtaped : Nat) (vw : Int32) : Int32 × (Int32 × (Nat → Int32) × Nat) :=
  if Mtaped + 4 ≤ 400 then
    ((nI ((((Mtaped + 1) + 1) + 1) + 1)), (0, (upd (upd (upd (upd Mtape Mtaped ((vw >>> (24 &&& 31)) &&& 255)) (Mtaped + 1) ((vw >>> (16 &&& 31)) &&& 255)) ((Mtaped + 1) + 1) ((vw >>> (8 &&& 31)) &&& 255)) (((Mtaped + 1) + 1) + 1) ((vw >>> (0 &&& 31)) &&& 255)), (((Mtaped + 1) + 1) + 1) + 1))
  else
    (0, (1, Mtape, Mtaped))
def F_X11_metadata (MisPlain : Int32) (npl : Int32) : Int32 × (Int32 × Int32) :=
  if MisPlain = 0 then
    (0, (0, npl))
  else
    (1, (0, npl))
def F_X11_isEntry (Msizes : Nat → Int32) (which : Int32) (vi : Int32) : Int32 :=
  if which < 0 then
    0
  else
    if 5 ≤ which then
      0
    else
      if vi < 0 then
        0
      else
        if (Msizes which.toNatClampNeg) ≤ vi then
          0
        else
          1
def F_X11_filter (rv : Nat) (Mfilter : Int32) (kind : Int32) : Int32 × (Int32 × Int32) :=
  if kind < 0 then
    (0, (1, Mfilter))
  else
    if 2 < kind then
      (0, (1, Mfilter))
    else
      if kind = 2 then
        if rv < 4 then
          (0, (1, Mfilter))
        else
          if kind = 1 then
            if rv = 5 then
              (0, (1, Mfilter))
            else
              (Mfilter, (0, kind))
          else
            (Mfilter, (0, kind))
      else
        if kind = 1 then
          if rv = 5 then
            (0, (1, Mfilter))
          else
            (Mfilter, (0, kind))
        else
          (Mfilter, (0, kind))
def F_X11_weak (rv : Nat) (Mfilter : Int32) : Int32 × (Int32) :=
  if rv = 2 then
    (1, 0)
  else
    if Mfilter = 0 then
      (1, 0)
    else
      (0, 0)
def F_X11_apply (MisOpen : Int32) (Mcollected : Nat) (Mbytes : Nat → Int32) (Mobject : Int32) (MisBack : Int32) (number : Int32) (back : Int32) (vb : Int32) : Int32 × (Int32 × Nat × (Nat → Int32) × Int32 × Int32) :=
  if MisOpen = 0 then
    (0, (1, Mcollected, Mbytes, Mobject, MisBack))
  else
    if Mcollected = 0 then
      if Mcollected = 400 then
        (0, (2, Mcollected, Mbytes, Mobject, MisBack))
      else
        ((nI (Mcollected + 1)), (0, Mcollected + 1, (upd Mbytes Mcollected (vb &&& 255)), number, back))
    else
      if number = Mobject then
        if back = MisBack then
          if Mcollected = 400 then
            (0, (2, Mcollected, Mbytes, Mobject, MisBack))
          else
            ((nI (Mcollected + 1)), (0, Mcollected + 1, (upd Mbytes Mcollected (vb &&& 255)), number, back))
        else
          (0, (1, Mcollected, Mbytes, Mobject, MisBack))
      else
        (0, (1, Mcollected, Mbytes, Mobject, MisBack))
def B_X11_become_3 (Yof : Nat → Int32) (fr : Nat) : Nat → (Nat → Int32) → (Nat → Int32) := fun i_71 z_70 =>
  (upd z_70 i_71 (Yof (fr + i_71)))
def F_X11_become (Mout : Nat → Int32) (Yof : Nat → Int32) (fr : Nat) (cn : Nat) : Int32 × (Nat × (Nat → Int32)) :=
  gLet (itr (B_X11_become_3 Yof fr) cn (Mout : Nat → Int32)) fun z_82 =>
  ((nI cn), (cn, z_82))
def F_X11_digest (Mcollected : Nat) (Mbytes : Nat → Int32) (MoutSize : Nat) (Mout : Nat → Int32) (Msaid : Nat) (Mmessage : Nat → Int32) (Mdigest : Nat → Int32) (Mwords : Nat → Int32) (Mh : Nat → Int32) (Mv : Nat → Int32) (Msines : Nat → Int32) (Mroots : Nat → Int32) (kind : Int32) : Int32 × (Int32 × Nat × (Nat → Int32) × Nat × (Nat → Int32) × (Nat → Int32) × (Nat → Int32) × (Nat → Int32) × (Nat → Int32)) :=
  if kind < 0 then
    (0, (1, MoutSize, Mout, Msaid, Mmessage, Mdigest, Mwords, Mh, Mv))
  else
    if kind ≤ 1 then
      gLet (F_X11_sayRow 0 Mmessage Mbytes 0 Mcollected) fun u_52 =>
      if kind = 0 then
        gLet (F_X11_small u_52.1 u_52.2 Mdigest Mwords Mh Msines) fun u_60 =>
        gLet ((F_X11_become Mout u_60.2.2.1 0 16).2) fun u_63 =>
        ((nI 16), (0, u_63.1, u_63.2, u_60.1, u_60.2.1, u_60.2.2.1, u_60.2.2.2.1, u_60.2.2.2.2, Mv))
      else
        gLet (F_X11_great u_52.1 u_52.2 Mdigest Mwords Mh Mv Mroots) fun u_55 =>
        gLet ((F_X11_become Mout u_55.2.2.1 0 32).2) fun u_58 =>
        ((nI 32), (0, u_58.1, u_58.2, u_55.1, u_55.2.1, u_55.2.2.1, u_55.2.2.2.1, u_55.2.2.2.2.1, u_55.2.2.2.2.2))
    else
      (0, (1, MoutSize, Mout, Msaid, Mmessage, Mdigest, Mwords, Mh, Mv))
def F_X11_hashWord_0 (Mentries : Nat → Int32) (Mmessage : Nat → Int32) (Mdigest : Nat → Int32) (Mwords : Nat → Int32) (Mh : Nat → Int32) (Mv : Nat → Int32) (Mroots : Nat → Int32) (Yw : Nat → Int32) (cn : Nat) (salt : Nat) : Nat × (Nat → Int32) × (Nat → Int32) × (Nat → Int32) × (Nat → Int32) × (Nat → Int32) :=
  gLet (F_X11_sayRow 0 Mmessage Yw 0 cn) fun u_18 =>
  gLet (F_X11_sayRow u_18.1 u_18.2 Mentries salt 8) fun u_20 =>
  gLet (F_X11_great u_20.1 u_20.2 Mdigest Mwords Mh Mv Mroots) fun u_23 =>
  (u_23.1, u_23.2.1, u_23.2.2.1, u_23.2.2.2.1, u_23.2.2.2.2.1, u_23.2.2.2.2.2)
def F_X11_hashWord_1 (Mentries : Nat → Int32) (Mmessage : Nat → Int32) (Mdigest : Nat → Int32) (Mwords : Nat → Int32) (Mh : Nat → Int32) (Mv : Nat → Int32) (Mroots : Nat → Int32) (Yw : Nat → Int32) (cn : Nat) (salt : Nat) : Nat × (Nat → Int32) × (Nat → Int32) × (Nat → Int32) × (Nat → Int32) × (Nat → Int32) :=
  gLet (F_X11_sayRow 0 Mmessage Yw 0 cn) fun u_22 =>
  gLet (F_X11_sayRow u_22.1 u_22.2 Mentries salt 8) fun u_24 =>
  gLet (F_X11_sayRow u_24.1 u_24.2 Mentries 48 48) fun u_27 =>
  gLet (F_X11_great u_27.1 u_27.2 Mdigest Mwords Mh Mv Mroots) fun u_29 =>
  (u_29.1, u_29.2.1, u_29.2.2.1, u_29.2.2.2.1, u_29.2.2.2.2.1, u_29.2.2.2.2.2)
def B_X11_objectKey_10_t (Mkey : Nat → Int32) : Nat → (Nat → Int32) → (Nat → Int32) := fun i_152 z_151 =>
  (upd z_151 i_152 (Mkey i_152))
def F_X11_objectKey (rv : Nat) (Mkey : Nat → Int32) (Mfilter : Int32) (Msaid : Nat) (Mmessage : Nat → Int32) (Mdigest : Nat → Int32) (Mwords : Nat → Int32) (Mh : Nat → Int32) (Msines : Nat → Int32) (number : Int32) (generation : Int32) : Int32 × (Nat × (Nat → Int32) × (Nat → Int32) × (Nat → Int32) × (Nat → Int32)) :=
  if rv = 5 then
    gLet (itr (B_X11_objectKey_10_t Mkey) 32 (Mdigest : Nat → Int32)) fun z_161 =>
    (32, (Msaid, Mmessage, z_161, Mwords, Mh))
  else
    gLet (F_X11_sayRow 0 Mmessage Mkey 0 (gks rv)) fun u_113 =>
    gLet (F_X11_sayLow u_113.1 u_113.2 number 3) fun u_115 =>
    gLet (F_X11_sayLow u_115.1 u_115.2 generation 2) fun u_117 =>
    if Mfilter = 2 then
      gLet (F_X11_sayLow u_117.1 u_117.2 1416380787 4) fun u_129 =>
      gLet (F_X11_small u_129.1 u_129.2 Mdigest Mwords Mh Msines) fun u_131 =>
      if 16 ≤ (gks rv) + 5 then
        (16, (u_131.1, u_131.2.1, u_131.2.2.1, u_131.2.2.2.1, u_131.2.2.2.2))
      else
        ((nI ((gks rv) + 5)), (u_131.1, u_131.2.1, u_131.2.2.1, u_131.2.2.2.1, u_131.2.2.2.2))
    else
      gLet (F_X11_small u_117.1 u_117.2 Mdigest Mwords Mh Msines) fun u_120 =>
      if 16 ≤ (gks rv) + 5 then
        (16, (u_120.1, u_120.2.1, u_120.2.2.1, u_120.2.2.2.1, u_120.2.2.2.2))
      else
        ((nI ((gks rv) + 5)), (u_120.1, u_120.2.1, u_120.2.2.1, u_120.2.2.2.1, u_120.2.2.2.2))
