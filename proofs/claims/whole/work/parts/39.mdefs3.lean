def gok (rv : Nat) : Nat := if rv = 5 then 32 else min 16 (gks rv + 5)
def B_X11_check_83_f (fr : Nat) (u_213 : Nat × (Nat → Int32) × (Nat → Int32) × (Nat → Int32) × (Nat → Int32)) : Nat → (Nat → Int32) → (Nat → Int32) := fun i_235 z_234 =>
  if 16 ≤ i_235 then
    (upd z_234 (fr + i_235) 0)
  else
    (upd z_234 (fr + i_235) (u_213.2.2.1 i_235))
def B_X11_check_118_f (Mkey : Nat → Int32) (fr : Nat) : Nat → ((Nat → Int32) × (Nat → Int32)) → ((Nat → Int32) × (Nat → Int32)) := fun i_268 z_267 =>
  gLet (F_X11_throughStream z_267.1 Mkey z_267.2 16 (nI i_268) fr 16) fun u_270 =>
  (u_270.1, u_270.2)
def B_X11_check_10_t (fr : Nat) (MfillBytes : Nat → Int32) : Nat → (Nat → Int32) → (Nat → Int32) := fun i_295 z_294 =>
  (upd z_294 (fr + i_295) (MfillBytes i_295))
def F_X11_check (rv : Nat) (Mid : Nat → Int32) (Mids : Nat) (Mkey : Nat → Int32) (Msaid : Nat) (Mmessage : Nat → Int32) (Mdigest : Nat → Int32) (Mwords : Nat → Int32) (Mh : Nat → Int32) (MfillBytes : Nat → Int32) (Msines : Nat → Int32) (Mstream : Nat → Int32) (Yto : Nat → Int32) (fr : Nat) : Nat × (Nat → Int32) × (Nat → Int32) × (Nat → Int32) × (Nat → Int32) × (Nat → Int32) × (Nat → Int32) :=
  if rv = 2 then
    gLet (itr (B_X11_check_10_t fr MfillBytes) 32 (Yto : Nat → Int32)) fun z_306 =>
    gLet (F_X11_throughStream Mstream Mkey z_306 5 0 fr 32) fun u_308 =>
    (Msaid, Mmessage, Mdigest, Mwords, Mh, u_308.1, u_308.2)
  else
    gLet (F_X11_sayRow 0 Mmessage MfillBytes 0 32) fun u_209 =>
    gLet (F_X11_sayRow u_209.1 u_209.2 Mid 0 Mids) fun u_211 =>
    gLet (F_X11_small u_211.1 u_211.2 Mdigest Mwords Mh Msines) fun u_213 =>
    gLet (itr (B_X11_check_83_f fr u_213) 32 (Yto : Nat → Int32)) fun z_252 =>
    gLet (itr (B_X11_check_118_f Mkey fr) 20 ((Mstream, z_252) : (Nat → Int32) × (Nat → Int32))) fun z_279 =>
    (u_213.1, u_213.2.1, u_213.2.2.1, u_213.2.2.2.1, u_213.2.2.2.2, z_279.1, z_279.2)
def B_X11_makeEarly_68_f (u_414 : Nat → Int32) : Nat → (Nat → Int32) → (Nat → Int32) := fun i_428 z_427 =>
  (upd z_427 i_428 (u_414 i_428))
def B_X11_makeEarly_94_f (u_412 : Nat × (Nat → Int32) × (Nat → Int32) × (Nat → Int32) × (Nat → Int32) × (Nat → Int32)) (rv : Nat) : Nat → ((Nat → Int32) × (Nat → Int32)) → ((Nat → Int32) × (Nat → Int32)) := fun i_473 z_472 =>
  if i_473 = 0 then
    gLet (F_X11_throughStream z_472.2 u_412.2.2.2.2.2 z_472.1 (gks rv) (nI i_473) 0 32) fun u_478 =>
    (u_478.2, u_478.1)
  else
    if rv ≤ 2 then
      (z_472.1, z_472.2)
    else
      gLet (F_X11_throughStream z_472.2 u_412.2.2.2.2.2 z_472.1 (gks rv) (nI i_473) 0 32) fun u_485 =>
      (u_485.2, u_485.1)
def B_X11_makeEarly_68_t (u_514 : Nat → Int32) : Nat → (Nat → Int32) → (Nat → Int32) := fun i_528 z_527 =>
  (upd z_527 i_528 (u_514 i_528))
def B_X11_makeEarly_94_t (u_512 : Nat × (Nat → Int32) × (Nat → Int32) × (Nat → Int32) × (Nat → Int32) × (Nat → Int32)) (rv : Nat) : Nat → ((Nat → Int32) × (Nat → Int32)) → ((Nat → Int32) × (Nat → Int32)) := fun i_573 z_572 =>
  if i_573 = 0 then
    gLet (F_X11_throughStream z_572.2 u_512.2.2.2.2.2 z_572.1 (gks rv) (nI i_573) 0 32) fun u_578 =>
    (u_578.2, u_578.1)
  else
    if rv ≤ 2 then
      (z_572.1, z_572.2)
    else
      gLet (F_X11_throughStream z_572.2 u_512.2.2.2.2.2 z_572.1 (gks rv) (nI i_573) 0 32) fun u_585 =>
      (u_585.2, u_585.1)
def F_X11_makeEarly (rv : Nat) (Muser : Nat → Int32) (Musers : Nat) (Mowner : Nat → Int32) (Mowners : Nat) (Mid : Nat → Int32) (Mids : Nat) (MisPlain : Int32) (Mpermissions : Int32) (Mentries : Nat → Int32) (Msizes : Nat → Int32) (Mkey : Nat → Int32) (Mmessage : Nat → Int32) (Mdigest : Nat → Int32) (Mwords : Nat → Int32) (Mh : Nat → Int32) (MfillBytes : Nat → Int32) (Msines : Nat → Int32) (Mstream : Nat → Int32) (Mpadded : Nat → Int32) (MownKey : Nat → Int32) : Int32 × ((Nat → Int32) × (Nat → Int32) × (Nat → Int32) × Nat × (Nat → Int32) × (Nat → Int32) × (Nat → Int32) × (Nat → Int32) × (Nat → Int32) × (Nat → Int32) × (Nat → Int32)) :=
  if Mowners = 0 then
    gLet (F_X11_pad MfillBytes Mpadded Muser Musers) fun u_510 =>
    gLet (F_X11_makeOwnerKey rv Mmessage Mdigest Mwords Mh Msines u_510 MownKey) fun u_512 =>
    gLet (F_X11_pad MfillBytes u_510 Muser Musers) fun u_514 =>
    gLet (itr (B_X11_makeEarly_68_t u_514) 32 (Mentries : Nat → Int32)) fun z_537 =>
    gLet (itr (B_X11_makeEarly_94_t u_512 rv) 20 ((z_537, Mstream) : (Nat → Int32) × (Nat → Int32))) fun z_604 =>
    gLet (F_X11_makeKey rv Mid Mids MisPlain Mpermissions z_604.1 Mkey u_512.2.1 u_512.2.2.1 u_512.2.2.2.1 u_512.2.2.2.2.1 Msines u_514) fun u_606 =>
    gLet (F_X11_check rv Mid Mids u_606.1 u_606.2.1 u_606.2.2.1 u_606.2.2.2.1 u_606.2.2.2.2.1 u_606.2.2.2.2.2 MfillBytes Msines z_604.2 z_604.1 48) fun u_608 =>
    (2, (u_608.2.2.2.2.2.2, (upd (upd Msizes 0 32) 1 32), u_606.1, u_608.1, u_608.2.1, u_608.2.2.1, u_608.2.2.2.1, u_608.2.2.2.2.1, u_608.2.2.2.2.2.1, u_514, u_512.2.2.2.2.2))
  else
    gLet (F_X11_pad MfillBytes Mpadded Mowner Mowners) fun u_410 =>
    gLet (F_X11_makeOwnerKey rv Mmessage Mdigest Mwords Mh Msines u_410 MownKey) fun u_412 =>
    gLet (F_X11_pad MfillBytes u_410 Muser Musers) fun u_414 =>
    gLet (itr (B_X11_makeEarly_68_f u_414) 32 (Mentries : Nat → Int32)) fun z_437 =>
    gLet (itr (B_X11_makeEarly_94_f u_412 rv) 20 ((z_437, Mstream) : (Nat → Int32) × (Nat → Int32))) fun z_504 =>
    gLet (F_X11_makeKey rv Mid Mids MisPlain Mpermissions z_504.1 Mkey u_412.2.1 u_412.2.2.1 u_412.2.2.2.1 u_412.2.2.2.2.1 Msines u_414) fun u_506 =>
    gLet (F_X11_check rv Mid Mids u_506.1 u_506.2.1 u_506.2.2.1 u_506.2.2.2.1 u_506.2.2.2.2.1 u_506.2.2.2.2.2 MfillBytes Msines z_504.2 z_504.1 48) fun u_508 =>
    (2, (u_508.2.2.2.2.2.2, (upd (upd Msizes 0 32) 1 32), u_506.1, u_508.1, u_508.2.1, u_508.2.2.1, u_508.2.2.2.1, u_508.2.2.2.2.1, u_508.2.2.2.2.2.1, u_414, u_412.2.2.2.2.2))
def B_X11_opensEarly_17 (rv : Nat) (u_199 : Nat × (Nat → Int32) × (Nat → Int32) × (Nat → Int32) × (Nat → Int32) × (Nat → Int32) × (Nat → Int32)) (Mentries : Nat → Int32) : Nat → Int32 → Int32 := fun i_246 z_245 =>
  if rv = 2 then
    if z_245 = 0 then
      0
    else
      if (u_199.2.2.2.2.2.2 i_246) = (Mentries (48 + i_246)) then
        1
      else
        0
  else
    if z_245 = 0 then
      0
    else
      if (u_199.2.2.2.2.2.2 i_246) = (Mentries (48 + i_246)) then
        1
      else
        0
def F_X11_opensEarly (rv : Nat) (Mid : Nat → Int32) (Mids : Nat) (MisPlain : Int32) (Mpermissions : Int32) (Mentries : Nat → Int32) (Mkey : Nat → Int32) (Mmessage : Nat → Int32) (Mdigest : Nat → Int32) (Mwords : Nat → Int32) (Mh : Nat → Int32) (MfillBytes : Nat → Int32) (Msines : Nat → Int32) (Mstream : Nat → Int32) (Mwork : Nat → Int32) (Mpadded : Nat → Int32) : Int32 × ((Nat → Int32) × Nat × (Nat → Int32) × (Nat → Int32) × (Nat → Int32) × (Nat → Int32) × (Nat → Int32) × (Nat → Int32)) :=
  gLet (F_X11_makeKey rv Mid Mids MisPlain Mpermissions Mentries Mkey Mmessage Mdigest Mwords Mh Msines Mpadded) fun u_197 =>
  gLet (F_X11_check rv Mid Mids u_197.1 u_197.2.1 u_197.2.2.1 u_197.2.2.2.1 u_197.2.2.2.2.1 u_197.2.2.2.2.2 MfillBytes Msines Mstream Mwork 0) fun u_199 =>
  gLet (itr (B_X11_opensEarly_17 rv u_199 Mentries) (48 - 16 * min 2 (rv - 1)) (1 : Int32)) fun z_291 =>
  if rv = 2 then
    (z_291, (u_197.1, u_199.1, u_199.2.1, u_199.2.2.1, u_199.2.2.2.1, u_199.2.2.2.2.1, u_199.2.2.2.2.2.1, u_199.2.2.2.2.2.2))
  else
    (z_291, (u_197.1, u_199.1, u_199.2.1, u_199.2.2.1, u_199.2.2.2.1, u_199.2.2.2.2.1, u_199.2.2.2.2.2.1, u_199.2.2.2.2.2.2))
def B_X11_openEarly_39_t (Mentries : Nat → Int32) : Nat → (Nat → Int32) → (Nat → Int32) := fun i_226 z_225 =>
  (upd z_225 i_226 (Mentries i_226))
def B_X11_openEarly_66_t (u_212 : Nat × (Nat → Int32) × (Nat → Int32) × (Nat → Int32) × (Nat → Int32) × (Nat → Int32)) (rv : Nat) : Nat → ((Nat → Int32) × (Nat → Int32)) → ((Nat → Int32) × (Nat → Int32)) := fun i_271 z_270 =>
  if i_271 = 0 then
    gLet (F_X11_throughStream z_270.1 u_212.2.2.2.2.2 z_270.2 (gks rv) (nI i_271) 0 32) fun u_276 =>
    (u_276.1, u_276.2)
  else
    if rv ≤ 2 then
      (z_270.1, z_270.2)
    else
      gLet (F_X11_throughStream z_270.1 u_212.2.2.2.2.2 z_270.2 (gks rv) (nI i_271) 0 32) fun u_283 =>
      (u_283.1, u_283.2)
def F_X11_openEarly (rv : Nat) (Mtried : Nat → Int32) (Mtries : Nat) (Mid : Nat → Int32) (Mids : Nat) (MisPlain : Int32) (Mpermissions : Int32) (Mentries : Nat → Int32) (Mkey : Nat → Int32) (Mmessage : Nat → Int32) (Mdigest : Nat → Int32) (Mwords : Nat → Int32) (Mh : Nat → Int32) (MfillBytes : Nat → Int32) (Msines : Nat → Int32) (Mstream : Nat → Int32) (Mwork : Nat → Int32) (Mpadded : Nat → Int32) (MownKey : Nat → Int32) : Int32 × ((Nat → Int32) × Nat × (Nat → Int32) × (Nat → Int32) × (Nat → Int32) × (Nat → Int32) × (Nat → Int32) × (Nat → Int32) × (Nat → Int32) × (Nat → Int32)) :=
  gLet (F_X11_pad MfillBytes Mpadded Mtried Mtries) fun u_205 =>
  gLet ((F_X11_opensEarly rv Mid Mids MisPlain Mpermissions Mentries Mkey Mmessage Mdigest Mwords Mh MfillBytes Msines Mstream Mwork u_205).1) fun r_207 =>
  gLet ((F_X11_opensEarly rv Mid Mids MisPlain Mpermissions Mentries Mkey Mmessage Mdigest Mwords Mh MfillBytes Msines Mstream Mwork u_205).2) fun u_207 =>
  if r_207 = 0 then
    gLet (F_X11_pad MfillBytes u_205 Mtried Mtries) fun u_210 =>
    gLet (F_X11_makeOwnerKey rv u_207.2.2.1 u_207.2.2.2.1 u_207.2.2.2.2.1 u_207.2.2.2.2.2.1 Msines u_210 MownKey) fun u_212 =>
    gLet (itr (B_X11_openEarly_39_t Mentries) 32 (u_210 : Nat → Int32)) fun z_235 =>
    gLet (itd (B_X11_openEarly_66_t u_212 rv) 20 ((u_207.2.2.2.2.2.2.1, z_235) : (Nat → Int32) × (Nat → Int32))) fun z_302 =>
    gLet ((F_X11_opensEarly rv Mid Mids MisPlain Mpermissions Mentries u_207.1 u_212.2.1 u_212.2.2.1 u_212.2.2.2.1 u_212.2.2.2.2.1 MfillBytes Msines z_302.1 u_207.2.2.2.2.2.2.2 z_302.2).1) fun r_304 =>
    gLet ((F_X11_opensEarly rv Mid Mids MisPlain Mpermissions Mentries u_207.1 u_212.2.1 u_212.2.2.1 u_212.2.2.2.1 u_212.2.2.2.2.1 MfillBytes Msines z_302.1 u_207.2.2.2.2.2.2.2 z_302.2).2) fun u_304 =>
    if r_304 = 0 then
      (0, (u_304.1, u_304.2.1, u_304.2.2.1, u_304.2.2.2.1, u_304.2.2.2.2.1, u_304.2.2.2.2.2.1, u_304.2.2.2.2.2.2.1, u_304.2.2.2.2.2.2.2, z_302.2, u_212.2.2.2.2.2))
    else
      (2, (u_304.1, u_304.2.1, u_304.2.2.1, u_304.2.2.2.1, u_304.2.2.2.2.1, u_304.2.2.2.2.2.1, u_304.2.2.2.2.2.2.1, u_304.2.2.2.2.2.2.2, z_302.2, u_212.2.2.2.2.2))
  else
    (1, (u_207.1, u_207.2.1, u_207.2.2.1, u_207.2.2.2.1, u_207.2.2.2.2.1, u_207.2.2.2.2.2.1, u_207.2.2.2.2.2.2.1, u_207.2.2.2.2.2.2.2, u_205, MownKey))
def B_X11_shut_u_10 (Mtape : Nat → Int32) : Nat → (Nat × (Nat → Int32)) → (Nat × (Nat → Int32)) := fun i_317 z_316 =>
  gLet ((F_X11_nextByte Mtape z_316.1).1) fun r_320 =>
  gLet ((F_X11_nextByte Mtape z_316.1).2) fun u_320 =>
  (u_320, (upd z_316.2 (48 + (32 + i_317)) r_320))
def B_X11_shut_u_53 (u_335 : Nat × (Nat → Int32) × (Nat → Int32) × (Nat → Int32) × (Nat → Int32) × (Nat → Int32)) : Nat → (Nat → Int32) → (Nat → Int32) := fun i_351 z_350 =>
  (upd z_350 (48 + i_351) (u_335.2.2.1 i_351))
def B_X11_shut_u_109 (Mkey : Nat → Int32) : Nat → (Nat → Int32) → (Nat → Int32) := fun i_389 z_388 =>
  if 16 ≤ i_389 then
    (upd z_388 i_389 (Mkey (i_389 - 16)))
  else
    (upd z_388 i_389 0)
def B_X11_shut_u_159 (u_408 : (Nat → Int32) × (Nat → Int32) × (Nat → Int32)) : Nat → (Nat → Int32) → (Nat → Int32) := fun i_428 z_427 =>
  (upd z_427 (144 + i_428) (u_408.2.2 (16 + i_428)))
def F_X11_shut_u (Mtape : Nat → Int32) (Mtaken : Nat) (Mentries : Nat → Int32) (Mkey : Nat → Int32) (Mmessage : Nat → Int32) (Mdigest : Nat → Int32) (Mwords : Nat → Int32) (Mh : Nat → Int32) (Mv : Nat → Int32) (Mroots : Nat → Int32) (Mbox : Nat → Int32) (MroundKeys : Nat → Int32) (Mstate : Nat → Int32) (Mother : Nat → Int32) (Mwork : Nat → Int32) (Yw : Nat → Int32) (cn : Nat) : Nat × (Nat → Int32) × Nat × (Nat → Int32) × (Nat → Int32) × (Nat → Int32) × (Nat → Int32) × (Nat → Int32) × (Nat → Int32) × Nat × (Nat → Int32) × (Nat → Int32) × (Nat → Int32) :=
  gLet (itr (B_X11_shut_u_10 Mtape) 16 ((Mtaken, Mentries) : Nat × (Nat → Int32))) fun z_332 =>
  gLet (F_X11_hashWord_0 z_332.2 Mmessage Mdigest Mwords Mh Mv Mroots Yw cn 80) fun u_335 =>
  gLet (itr (B_X11_shut_u_53 u_335) 32 (z_332.2 : Nat → Int32)) fun z_362 =>
  gLet (F_X11_hashWord_0 z_362 u_335.2.1 u_335.2.2.1 u_335.2.2.2.1 u_335.2.2.2.2.1 u_335.2.2.2.2.2 Mroots Yw cn 88) fun u_365 =>
  gLet (F_X11_setKey_32 Mbox MroundKeys u_365.2.2.1) fun u_367 =>
  gLet (itr (B_X11_shut_u_109 Mkey) 48 (Mwork : Nat → Int32)) fun z_406 =>
  gLet (F_X11_chain_0 Mbox u_367.1 u_367.2 Mstate Mother z_406 2) fun u_408 =>
  gLet (itr (B_X11_shut_u_159 u_408) 32 (z_362 : Nat → Int32)) fun z_443 =>
  (z_332.1, z_443, u_365.1, u_365.2.1, u_365.2.2.1, u_365.2.2.2.1, u_365.2.2.2.2.1, u_365.2.2.2.2.2, u_367.1, u_367.2, u_408.1, u_408.2.1, u_408.2.2)
def B_X11_shut_o_10 (Mtape : Nat → Int32) : Nat → (Nat × (Nat → Int32)) → (Nat × (Nat → Int32)) := fun i_317 z_316 =>
  gLet ((F_X11_nextByte Mtape z_316.1).1) fun r_320 =>
  gLet ((F_X11_nextByte Mtape z_316.1).2) fun u_320 =>
  (u_320, (upd z_316.2 (0 + (32 + i_317)) r_320))
def B_X11_shut_o_53 (u_335 : Nat × (Nat → Int32) × (Nat → Int32) × (Nat → Int32) × (Nat → Int32) × (Nat → Int32)) : Nat → (Nat → Int32) → (Nat → Int32) := fun i_351 z_350 =>
  (upd z_350 (0 + i_351) (u_335.2.2.1 i_351))
def B_X11_shut_o_109 (Mkey : Nat → Int32) : Nat → (Nat → Int32) → (Nat → Int32) := fun i_389 z_388 =>
  if 16 ≤ i_389 then
    (upd z_388 i_389 (Mkey (i_389 - 16)))
  else
    (upd z_388 i_389 0)
def B_X11_shut_o_159 (u_408 : (Nat → Int32) × (Nat → Int32) × (Nat → Int32)) : Nat → (Nat → Int32) → (Nat → Int32) := fun i_428 z_427 =>
  (upd z_427 (96 + i_428) (u_408.2.2 (16 + i_428)))
def F_X11_shut_o (Mtape : Nat → Int32) (Mtaken : Nat) (Mentries : Nat → Int32) (Mkey : Nat → Int32) (Mmessage : Nat → Int32) (Mdigest : Nat → Int32) (Mwords : Nat → Int32) (Mh : Nat → Int32) (Mv : Nat → Int32) (Mroots : Nat → Int32) (Mbox : Nat → Int32) (MroundKeys : Nat → Int32) (Mstate : Nat → Int32) (Mother : Nat → Int32) (Mwork : Nat → Int32) (Yw : Nat → Int32) (cn : Nat) : Nat × (Nat → Int32) × Nat × (Nat → Int32) × (Nat → Int32) × (Nat → Int32) × (Nat → Int32) × (Nat → Int32) × (Nat → Int32) × Nat × (Nat → Int32) × (Nat → Int32) × (Nat → Int32) :=
  gLet (itr (B_X11_shut_o_10 Mtape) 16 ((Mtaken, Mentries) : Nat × (Nat → Int32))) fun z_332 =>
  gLet (F_X11_hashWord_1 z_332.2 Mmessage Mdigest Mwords Mh Mv Mroots Yw cn 32) fun u_335 =>
  gLet (itr (B_X11_shut_o_53 u_335) 32 (z_332.2 : Nat → Int32)) fun z_362 =>
  gLet (F_X11_hashWord_1 z_362 u_335.2.1 u_335.2.2.1 u_335.2.2.2.1 u_335.2.2.2.2.1 u_335.2.2.2.2.2 Mroots Yw cn 40) fun u_365 =>
  gLet (F_X11_setKey_32 Mbox MroundKeys u_365.2.2.1) fun u_367 =>
  gLet (itr (B_X11_shut_o_109 Mkey) 48 (Mwork : Nat → Int32)) fun z_406 =>
  gLet (F_X11_chain_0 Mbox u_367.1 u_367.2 Mstate Mother z_406 2) fun u_408 =>
  gLet (itr (B_X11_shut_o_159 u_408) 32 (z_362 : Nat → Int32)) fun z_443 =>
  (z_332.1, z_443, u_365.1, u_365.2.1, u_365.2.2.1, u_365.2.2.2.1, u_365.2.2.2.2.1, u_365.2.2.2.2.2, u_367.1, u_367.2, u_408.1, u_408.2.1, u_408.2.2)
def B_X11_makeLate_2 : Nat → (Nat → Int32) → (Nat → Int32) := fun i_465 z_464 =>
  if 2 ≤ i_465 then
    if 4 ≤ i_465 then
      (upd z_464 i_465 16)
    else
      (upd z_464 i_465 32)
  else
    (upd z_464 i_465 48)
def B_X11_makeLate_43 (Mtape : Nat → Int32) : Nat → (Nat × (Nat → Int32)) → (Nat × (Nat → Int32)) := fun i_504 z_503 =>
  gLet ((F_X11_nextByte Mtape z_503.1).1) fun r_506 =>
  gLet ((F_X11_nextByte Mtape z_503.1).2) fun u_506 =>
  (u_506, (upd z_503.2 i_504 r_506))
def B_X11_makeLate_101 (Mpermissions : Int32) : Nat → (Nat → Int32) → (Nat → Int32) := fun i_546 z_545 =>
  (upd (upd z_545 (192 + i_546) ((Mpermissions >>> ((nI (8 * i_546)) &&& 31)) &&& 255)) (196 + i_546) 255)
def B_X11_makeLate_205_t (Mtape : Nat → Int32) : Nat → (Nat × (Nat → Int32)) → (Nat × (Nat → Int32)) := fun i_594 z_593 =>
  gLet ((F_X11_nextByte Mtape z_593.1).1) fun r_597 =>
  gLet ((F_X11_nextByte Mtape z_593.1).2) fun u_597 =>
  (u_597, (upd z_593.2 (192 + (12 + i_594)) r_597))
def B_X11_makeLate_205_f (Mtape : Nat → Int32) : Nat → (Nat × (Nat → Int32)) → (Nat × (Nat → Int32)) := fun i_640 z_639 =>
  gLet ((F_X11_nextByte Mtape z_639.1).1) fun r_643 =>
  gLet ((F_X11_nextByte Mtape z_639.1).2) fun u_643 =>
  (u_643, (upd z_639.2 (192 + (12 + i_640)) r_643))
def F_X11_makeLate (Muser : Nat → Int32) (Musers : Nat) (Mowner : Nat → Int32) (Mowners : Nat) (Mtape : Nat → Int32) (Mtaken : Nat) (MisPlain : Int32) (Mpermissions : Int32) (Mentries : Nat → Int32) (Msizes : Nat → Int32) (Mkey : Nat → Int32) (Mmessage : Nat → Int32) (Mdigest : Nat → Int32) (Mwords : Nat → Int32) (Mh : Nat → Int32) (Mv : Nat → Int32) (Mroots : Nat → Int32) (Mbox : Nat → Int32) (MroundKeys : Nat → Int32) (Mstate : Nat → Int32) (Mother : Nat → Int32) (Mwork : Nat → Int32) : Int32 × (Nat × (Nat → Int32) × (Nat → Int32) × (Nat → Int32) × Nat × (Nat → Int32) × (Nat → Int32) × (Nat → Int32) × (Nat → Int32) × (Nat → Int32) × (Nat → Int32) × Nat × (Nat → Int32) × (Nat → Int32) × (Nat → Int32)) :=
  gLet (itr B_X11_makeLate_2 5 (Msizes : Nat → Int32)) fun z_486 =>
  gLet (itr (B_X11_makeLate_43 Mtape) 32 ((Mtaken, Mkey) : Nat × (Nat → Int32))) fun z_517 =>
  gLet (F_X11_shut_u Mtape z_517.1 Mentries z_517.2 Mmessage Mdigest Mwords Mh Mv Mroots Mbox MroundKeys Mstate Mother Mwork Muser Musers) fun u_519 =>
  gLet (F_X11_shut_o Mtape u_519.1 u_519.2.1 z_517.2 u_519.2.2.2.1 u_519.2.2.2.2.1 u_519.2.2.2.2.2.1 u_519.2.2.2.2.2.2.1 u_519.2.2.2.2.2.2.2.1 Mroots Mbox u_519.2.2.2.2.2.2.2.2.1 u_519.2.2.2.2.2.2.2.2.2.2.1 u_519.2.2.2.2.2.2.2.2.2.2.2.1 u_519.2.2.2.2.2.2.2.2.2.2.2.2 Mowner Mowners) fun u_521 =>
  gLet (itr (B_X11_makeLate_101 Mpermissions) 4 (u_521.2.1 : Nat → Int32)) fun z_565 =>
  if MisPlain = 0 then
    gLet (itr (B_X11_makeLate_205_t Mtape) 4 ((u_521.1, (upd (upd (upd (upd z_565 200 84) 201 97) 202 100) 203 98)) : Nat × (Nat → Int32))) fun z_609 =>
    gLet (F_X11_setKey_32 Mbox u_521.2.2.2.2.2.2.2.2.1 z_517.2) fun u_611 =>
    gLet (F_X11_block_0 Mbox u_611.1 u_611.2 u_521.2.2.2.2.2.2.2.2.2.2.1 u_521.2.2.2.2.2.2.2.2.2.2.2.1 z_609.2 192) fun u_613 =>
    (5, (z_609.1, u_613.2.2, z_486, z_517.2, u_521.2.2.1, u_521.2.2.2.1, u_521.2.2.2.2.1, u_521.2.2.2.2.2.1, u_521.2.2.2.2.2.2.1, u_521.2.2.2.2.2.2.2.1, u_611.1, u_611.2, u_613.1, u_613.2.1, u_521.2.2.2.2.2.2.2.2.2.2.2.2))
  else
    gLet (itr (B_X11_makeLate_205_f Mtape) 4 ((u_521.1, (upd (upd (upd (upd z_565 200 70) 201 97) 202 100) 203 98)) : Nat × (Nat → Int32))) fun z_655 =>
    gLet (F_X11_setKey_32 Mbox u_521.2.2.2.2.2.2.2.2.1 z_517.2) fun u_657 =>
    gLet (F_X11_block_0 Mbox u_657.1 u_657.2 u_521.2.2.2.2.2.2.2.2.2.2.1 u_521.2.2.2.2.2.2.2.2.2.2.2.1 z_655.2 192) fun u_659 =>
    (5, (z_655.1, u_659.2.2, z_486, z_517.2, u_521.2.2.1, u_521.2.2.2.1, u_521.2.2.2.2.1, u_521.2.2.2.2.2.1, u_521.2.2.2.2.2.2.1, u_521.2.2.2.2.2.2.2.1, u_657.1, u_657.2, u_659.1, u_659.2.1, u_521.2.2.2.2.2.2.2.2.2.2.2.2))
def B_X11_opensLate_u_27 : Nat → Unit → Unit := fun i_232 z_231 =>
  ()
def B_X11_opensLate_u_93_t (Mentries : Nat → Int32) : Nat → (Nat → Int32) → (Nat → Int32) := fun i_274 z_273 =>
  if 16 ≤ i_274 then
    (upd z_273 i_274 (Mentries ((144 + i_274) - 16)))
  else
    (upd z_273 i_274 0)
def B_X11_opensLate_u_148_t (u_297 : (Nat → Int32) × (Nat → Int32) × (Nat → Int32)) : Nat → (Nat → Int32) → (Nat → Int32) := fun i_313 z_312 =>
  (upd z_312 i_313 (u_297.2.2 (16 + i_313)))
def F_X11_opensLate_u (Mtried : Nat → Int32) (Mtries : Nat) (Mentries : Nat → Int32) (Mkey : Nat → Int32) (Mmessage : Nat → Int32) (Mdigest : Nat → Int32) (Mwords : Nat → Int32) (Mh : Nat → Int32) (Mv : Nat → Int32) (Mroots : Nat → Int32) (Mbox : Nat → Int32) (MbackBox : Nat → Int32) (MroundKeys : Nat → Int32) (Mrounds : Nat) (Mstate : Nat → Int32) (Mother : Nat → Int32) (Mwork : Nat → Int32) : Int32 × ((Nat → Int32) × Nat × (Nat → Int32) × (Nat → Int32) × (Nat → Int32) × (Nat → Int32) × (Nat → Int32) × (Nat → Int32) × Nat × (Nat → Int32) × (Nat → Int32) × (Nat → Int32)) :=
  gLet (F_X11_hashWord_0 Mentries Mmessage Mdigest Mwords Mh Mv Mroots Mtried Mtries 80) fun u_222 =>
  if 32 ≤ (g_first (fun k => decide (¬ (u_222.2.2.1 k) = (Mentries (48 + k)))) 32) then
    gLet (F_X11_hashWord_0 Mentries u_222.2.1 u_222.2.2.1 u_222.2.2.2.1 u_222.2.2.2.2.1 u_222.2.2.2.2.2 Mroots Mtried Mtries 88) fun u_246 =>
    gLet (F_X11_setKey_32 Mbox MroundKeys u_246.2.2.1) fun u_248 =>
    gLet (itr (B_X11_opensLate_u_93_t Mentries) 48 (Mwork : Nat → Int32)) fun z_295 =>
    gLet (F_X11_chain_1 MbackBox u_248.1 u_248.2 Mstate Mother z_295 2) fun u_297 =>
    gLet (itr (B_X11_opensLate_u_148_t u_297) 32 (Mkey : Nat → Int32)) fun z_324 =>
    (1, (z_324, u_246.1, u_246.2.1, u_246.2.2.1, u_246.2.2.2.1, u_246.2.2.2.2.1, u_246.2.2.2.2.2, u_248.1, u_248.2, u_297.1, u_297.2.1, u_297.2.2))
  else
    (0, (Mkey, u_222.1, u_222.2.1, u_222.2.2.1, u_222.2.2.2.1, u_222.2.2.2.2.1, u_222.2.2.2.2.2, MroundKeys, Mrounds, Mstate, Mother, Mwork))
def B_X11_opensLate_o_27 : Nat → Unit → Unit := fun i_232 z_231 =>
  ()
def B_X11_opensLate_o_93_t (Mentries : Nat → Int32) : Nat → (Nat → Int32) → (Nat → Int32) := fun i_274 z_273 =>
  if 16 ≤ i_274 then
    (upd z_273 i_274 (Mentries ((96 + i_274) - 16)))
  else
    (upd z_273 i_274 0)
def B_X11_opensLate_o_148_t (u_297 : (Nat → Int32) × (Nat → Int32) × (Nat → Int32)) : Nat → (Nat → Int32) → (Nat → Int32) := fun i_313 z_312 =>
  (upd z_312 i_313 (u_297.2.2 (16 + i_313)))
def F_X11_opensLate_o (Mtried : Nat → Int32) (Mtries : Nat) (Mentries : Nat → Int32) (Mkey : Nat → Int32) (Mmessage : Nat → Int32) (Mdigest : Nat → Int32) (Mwords : Nat → Int32) (Mh : Nat → Int32) (Mv : Nat → Int32) (Mroots : Nat → Int32) (Mbox : Nat → Int32) (MbackBox : Nat → Int32) (MroundKeys : Nat → Int32) (Mrounds : Nat) (Mstate : Nat → Int32) (Mother : Nat → Int32) (Mwork : Nat → Int32) : Int32 × ((Nat → Int32) × Nat × (Nat → Int32) × (Nat → Int32) × (Nat → Int32) × (Nat → Int32) × (Nat → Int32) × (Nat → Int32) × Nat × (Nat → Int32) × (Nat → Int32) × (Nat → Int32)) :=
  gLet (F_X11_hashWord_1 Mentries Mmessage Mdigest Mwords Mh Mv Mroots Mtried Mtries 32) fun u_222 =>
  if 32 ≤ (g_first (fun k => decide (¬ (u_222.2.2.1 k) = (Mentries (0 + k)))) 32) then
    gLet (F_X11_hashWord_1 Mentries u_222.2.1 u_222.2.2.1 u_222.2.2.2.1 u_222.2.2.2.2.1 u_222.2.2.2.2.2 Mroots Mtried Mtries 40) fun u_246 =>
    gLet (F_X11_setKey_32 Mbox MroundKeys u_246.2.2.1) fun u_248 =>
    gLet (itr (B_X11_opensLate_o_93_t Mentries) 48 (Mwork : Nat → Int32)) fun z_295 =>
    gLet (F_X11_chain_1 MbackBox u_248.1 u_248.2 Mstate Mother z_295 2) fun u_297 =>
    gLet (itr (B_X11_opensLate_o_148_t u_297) 32 (Mkey : Nat → Int32)) fun z_324 =>
    (1, (z_324, u_246.1, u_246.2.1, u_246.2.2.1, u_246.2.2.2.1, u_246.2.2.2.2.1, u_246.2.2.2.2.2, u_248.1, u_248.2, u_297.1, u_297.2.1, u_297.2.2))
  else
    (0, (Mkey, u_222.1, u_222.2.1, u_222.2.2.1, u_222.2.2.2.1, u_222.2.2.2.2.1, u_222.2.2.2.2.2, MroundKeys, Mrounds, Mstate, Mother, Mwork))
def F_X11_make_e (rv : Nat) (Muser : Nat → Int32) (Musers : Nat) (Mowner : Nat → Int32) (Mowners : Nat) (Mid : Nat → Int32) (Mids : Nat) (MisPlain : Int32) (Mentries : Nat → Int32) (Msizes : Nat → Int32) (Mkey : Nat → Int32) (Mmessage : Nat → Int32) (Mdigest : Nat → Int32) (Mwords : Nat → Int32) (Mh : Nat → Int32) (MfillBytes : Nat → Int32) (Msines : Nat → Int32) (Mstream : Nat → Int32) (Mpadded : Nat → Int32) (MownKey : Nat → Int32) (vp : Int32) : Int32 × (Int32 × Int32 × (Nat → Int32) × (Nat → Int32) × (Nat → Int32) × Int32 × Nat × Nat × (Nat → Int32) × (Nat → Int32) × (Nat → Int32) × (Nat → Int32) × (Nat → Int32) × (Nat → Int32) × (Nat → Int32)) :=
  gLet F_X11_shutAll fun u_23 =>
  gLet ((F_X11_makeEarly rv Muser Musers Mowner Mowners Mid Mids MisPlain vp Mentries Msizes Mkey Mmessage Mdigest Mwords Mh MfillBytes Msines Mstream Mpadded MownKey).1) fun r_26 =>
  gLet ((F_X11_makeEarly rv Muser Musers Mowner Mowners Mid Mids MisPlain vp Mentries Msizes Mkey Mmessage Mdigest Mwords Mh MfillBytes Msines Mstream Mpadded MownKey).2) fun u_26 =>
  (r_26, (0, vp, u_26.1, u_26.2.1, u_26.2.2.1, u_23.1, u_23.2, u_26.2.2.2.1, u_26.2.2.2.2.1, u_26.2.2.2.2.2.1, u_26.2.2.2.2.2.2.1, u_26.2.2.2.2.2.2.2.1, u_26.2.2.2.2.2.2.2.2.1, u_26.2.2.2.2.2.2.2.2.2.1, u_26.2.2.2.2.2.2.2.2.2.2))
def F_X11_make_l (Muser : Nat → Int32) (Musers : Nat) (Mowner : Nat → Int32) (Mowners : Nat) (Mtape : Nat → Int32) (Mtaped : Nat) (Mtaken : Nat) (MisPlain : Int32) (Mpermissions : Int32) (Mentries : Nat → Int32) (Msizes : Nat → Int32) (Mkey : Nat → Int32) (MisOpen : Int32) (Mcollected : Nat) (Msaid : Nat) (Mmessage : Nat → Int32) (Mdigest : Nat → Int32) (Mwords : Nat → Int32) (Mh : Nat → Int32) (Mv : Nat → Int32) (Mroots : Nat → Int32) (Mbox : Nat → Int32) (MroundKeys : Nat → Int32) (Mrounds : Nat) (Mstate : Nat → Int32) (Mother : Nat → Int32) (Mwork : Nat → Int32) (vp : Int32) : Int32 × (Int32 × Nat × Int32 × (Nat → Int32) × (Nat → Int32) × (Nat → Int32) × Int32 × Nat × Nat × (Nat → Int32) × (Nat → Int32) × (Nat → Int32) × (Nat → Int32) × (Nat → Int32) × (Nat → Int32) × Nat × (Nat → Int32) × (Nat → Int32) × (Nat → Int32)) :=
  if 68 ≤ Mtaped - Mtaken then
    gLet F_X11_shutAll fun u_33 =>
    gLet ((F_X11_makeLate Muser Musers Mowner Mowners Mtape Mtaken MisPlain vp Mentries Msizes Mkey Mmessage Mdigest Mwords Mh Mv Mroots Mbox MroundKeys Mstate Mother Mwork).1) fun r_36 =>
    gLet ((F_X11_makeLate Muser Musers Mowner Mowners Mtape Mtaken MisPlain vp Mentries Msizes Mkey Mmessage Mdigest Mwords Mh Mv Mroots Mbox MroundKeys Mstate Mother Mwork).2) fun u_36 =>
    (r_36, (0, u_36.1, vp, u_36.2.1, u_36.2.2.1, u_36.2.2.2.1, u_33.1, u_33.2, u_36.2.2.2.2.1, u_36.2.2.2.2.2.1, u_36.2.2.2.2.2.2.1, u_36.2.2.2.2.2.2.2.1, u_36.2.2.2.2.2.2.2.2.1, u_36.2.2.2.2.2.2.2.2.2.1, u_36.2.2.2.2.2.2.2.2.2.2.1, u_36.2.2.2.2.2.2.2.2.2.2.2.1, u_36.2.2.2.2.2.2.2.2.2.2.2.2.1, u_36.2.2.2.2.2.2.2.2.2.2.2.2.2.1, u_36.2.2.2.2.2.2.2.2.2.2.2.2.2.2))
  else
    (0, (1, Mtaken, Mpermissions, Mentries, Msizes, Mkey, MisOpen, Mcollected, Msaid, Mmessage, Mdigest, Mwords, Mh, Mv, MroundKeys, Mrounds, Mstate, Mother, Mwork))
def F_X11_entry (Mentries : Nat → Int32) (Msizes : Nat → Int32) (which : Int32) (vi : Int32) : Int32 × (Int32) :=
  if vi = (-1) then
    gLet (F_X11_isEntry Msizes which 0) fun r_44 =>
    if r_44 = 0 then
      (0, 1)
    else
      ((Msizes which.toNatClampNeg), 0)
  else
    gLet (F_X11_isEntry Msizes which vi) fun r_36 =>
    if r_36 = 0 then
      (0, 1)
    else
      ((Mentries ((48 * which) + vi).toNatClampNeg), 0)
def F_X11_alter (Mentries : Nat → Int32) (Msizes : Nat → Int32) (MisOpen : Int32) (Mcollected : Nat) (which : Int32) (vi : Int32) (vb : Int32) : Int32 × (Nat → Int32) × Int32 × Nat :=
  gLet (F_X11_isEntry Msizes which vi) fun r_21 =>
  if r_21 = 0 then
    (1, Mentries, MisOpen, Mcollected)
  else
    gLet F_X11_shutAll fun u_29 =>
    (0, (upd Mentries ((48 * which) + vi).toNatClampNeg (vb &&& 255)), u_29.1, u_29.2)
def F_X11_open_e (rv : Nat) (Mtried : Nat → Int32) (Mtries : Nat) (Mid : Nat → Int32) (Mids : Nat) (MisPlain : Int32) (Mpermissions : Int32) (Mentries : Nat → Int32) (Msizes : Nat → Int32) (Mkey : Nat → Int32) (MisOpen : Int32) (Mcollected : Nat) (Msaid : Nat) (Mmessage : Nat → Int32) (Mdigest : Nat → Int32) (Mwords : Nat → Int32) (Mh : Nat → Int32) (MfillBytes : Nat → Int32) (Msines : Nat → Int32) (Mstream : Nat → Int32) (Mwork : Nat → Int32) (Mpadded : Nat → Int32) (MownKey : Nat → Int32) (vc : Int32) : Int32 × (Int32 × (Nat → Int32) × Nat × (Nat → Int32) × Int32 × Nat × Nat × (Nat → Int32) × (Nat → Int32) × (Nat → Int32) × (Nat → Int32) × (Nat → Int32) × (Nat → Int32) × (Nat → Int32) × (Nat → Int32)) :=
  if vc < (-1) then
    (0, (1, Mtried, Mtries, Mkey, MisOpen, Mcollected, Msaid, Mmessage, Mdigest, Mwords, Mh, Mstream, Mwork, Mpadded, MownKey))
  else
    if vc ≤ 255 then
      if vc = (-1) then
        if (Msizes 0) = 0 then
          (0, (2, Mtried, Mtries, Mkey, MisOpen, Mcollected, Msaid, Mmessage, Mdigest, Mwords, Mh, Mstream, Mwork, Mpadded, MownKey))
        else
          if vc < 0 then
            gLet ((F_X11_openEarly rv Mtried Mtries Mid Mids MisPlain Mpermissions Mentries Mkey Mmessage Mdigest Mwords Mh MfillBytes Msines Mstream Mwork Mpadded MownKey).1) fun r_157 =>
            gLet ((F_X11_openEarly rv Mtried Mtries Mid Mids MisPlain Mpermissions Mentries Mkey Mmessage Mdigest Mwords Mh MfillBytes Msines Mstream Mwork Mpadded MownKey).2) fun u_157 =>
            if r_157 ≤ 0 then
              gLet F_X11_shutAll fun u_164 =>
              (r_157, (0, Mtried, 0, u_157.1, u_164.1, u_164.2, u_157.2.1, u_157.2.2.1, u_157.2.2.2.1, u_157.2.2.2.2.1, u_157.2.2.2.2.2.1, u_157.2.2.2.2.2.2.1, u_157.2.2.2.2.2.2.2.1, u_157.2.2.2.2.2.2.2.2.1, u_157.2.2.2.2.2.2.2.2.2))
            else
              (r_157, (0, Mtried, 0, u_157.1, 1, Mcollected, u_157.2.1, u_157.2.2.1, u_157.2.2.2.1, u_157.2.2.2.2.1, u_157.2.2.2.2.2.1, u_157.2.2.2.2.2.2.1, u_157.2.2.2.2.2.2.2.1, u_157.2.2.2.2.2.2.2.2.1, u_157.2.2.2.2.2.2.2.2.2))
          else
            if Mtries = 127 then
              (0, (3, Mtried, Mtries, Mkey, MisOpen, Mcollected, Msaid, Mmessage, Mdigest, Mwords, Mh, Mstream, Mwork, Mpadded, MownKey))
            else
              ((nI (Mtries + 1)), (0, (upd Mtried Mtries vc), Mtries + 1, Mkey, MisOpen, Mcollected, Msaid, Mmessage, Mdigest, Mwords, Mh, Mstream, Mwork, Mpadded, MownKey))
      else
        if vc < 0 then
          gLet ((F_X11_openEarly rv Mtried Mtries Mid Mids MisPlain Mpermissions Mentries Mkey Mmessage Mdigest Mwords Mh MfillBytes Msines Mstream Mwork Mpadded MownKey).1) fun r_131 =>
          gLet ((F_X11_openEarly rv Mtried Mtries Mid Mids MisPlain Mpermissions Mentries Mkey Mmessage Mdigest Mwords Mh MfillBytes Msines Mstream Mwork Mpadded MownKey).2) fun u_131 =>
          if r_131 ≤ 0 then
            gLet F_X11_shutAll fun u_138 =>
            (r_131, (0, Mtried, 0, u_131.1, u_138.1, u_138.2, u_131.2.1, u_131.2.2.1, u_131.2.2.2.1, u_131.2.2.2.2.1, u_131.2.2.2.2.2.1, u_131.2.2.2.2.2.2.1, u_131.2.2.2.2.2.2.2.1, u_131.2.2.2.2.2.2.2.2.1, u_131.2.2.2.2.2.2.2.2.2))
          else
            (r_131, (0, Mtried, 0, u_131.1, 1, Mcollected, u_131.2.1, u_131.2.2.1, u_131.2.2.2.1, u_131.2.2.2.2.1, u_131.2.2.2.2.2.1, u_131.2.2.2.2.2.2.1, u_131.2.2.2.2.2.2.2.1, u_131.2.2.2.2.2.2.2.2.1, u_131.2.2.2.2.2.2.2.2.2))
        else
          if Mtries = 127 then
            (0, (3, Mtried, Mtries, Mkey, MisOpen, Mcollected, Msaid, Mmessage, Mdigest, Mwords, Mh, Mstream, Mwork, Mpadded, MownKey))
          else
            ((nI (Mtries + 1)), (0, (upd Mtried Mtries vc), Mtries + 1, Mkey, MisOpen, Mcollected, Msaid, Mmessage, Mdigest, Mwords, Mh, Mstream, Mwork, Mpadded, MownKey))
    else
      (0, (1, Mtried, Mtries, Mkey, MisOpen, Mcollected, Msaid, Mmessage, Mdigest, Mwords, Mh, Mstream, Mwork, Mpadded, MownKey))
def F_X11_open_l (Mtried : Nat → Int32) (Mtries : Nat) (Mentries : Nat → Int32) (Msizes : Nat → Int32) (Mkey : Nat → Int32) (MisOpen : Int32) (Mcollected : Nat) (Msaid : Nat) (Mmessage : Nat → Int32) (Mdigest : Nat → Int32) (Mwords : Nat → Int32) (Mh : Nat → Int32) (Mv : Nat → Int32) (Mroots : Nat → Int32) (Mbox : Nat → Int32) (MbackBox : Nat → Int32) (MroundKeys : Nat → Int32) (Mrounds : Nat) (Mstate : Nat → Int32) (Mother : Nat → Int32) (Mwork : Nat → Int32) (vc : Int32) : Int32 × (Int32 × (Nat → Int32) × Nat × (Nat → Int32) × Int32 × Nat × Nat × (Nat → Int32) × (Nat → Int32) × (Nat → Int32) × (Nat → Int32) × (Nat → Int32) × (Nat → Int32) × Nat × (Nat → Int32) × (Nat → Int32) × (Nat → Int32)) :=
  if vc < (-1) then
    (0, (1, Mtried, Mtries, Mkey, MisOpen, Mcollected, Msaid, Mmessage, Mdigest, Mwords, Mh, Mv, MroundKeys, Mrounds, Mstate, Mother, Mwork))
  else
    if vc ≤ 255 then
      if vc = (-1) then
        if (Msizes 0) = 0 then
          (0, (2, Mtried, Mtries, Mkey, MisOpen, Mcollected, Msaid, Mmessage, Mdigest, Mwords, Mh, Mv, MroundKeys, Mrounds, Mstate, Mother, Mwork))
        else
          if vc < 0 then
            gLet ((F_X11_opensLate_u Mtried Mtries Mentries Mkey Mmessage Mdigest Mwords Mh Mv Mroots Mbox MbackBox MroundKeys Mrounds Mstate Mother Mwork).1) fun r_217 =>
            gLet ((F_X11_opensLate_u Mtried Mtries Mentries Mkey Mmessage Mdigest Mwords Mh Mv Mroots Mbox MbackBox MroundKeys Mrounds Mstate Mother Mwork).2) fun u_217 =>
            if r_217 = 0 then
              gLet ((F_X11_opensLate_o Mtried Mtries Mentries u_217.1 u_217.2.2.1 u_217.2.2.2.1 u_217.2.2.2.2.1 u_217.2.2.2.2.2.1 u_217.2.2.2.2.2.2.1 Mroots Mbox MbackBox u_217.2.2.2.2.2.2.2.1 u_217.2.2.2.2.2.2.2.2.1 u_217.2.2.2.2.2.2.2.2.2.1 u_217.2.2.2.2.2.2.2.2.2.2.1 u_217.2.2.2.2.2.2.2.2.2.2.2).1) fun r_220 =>
              gLet ((F_X11_opensLate_o Mtried Mtries Mentries u_217.1 u_217.2.2.1 u_217.2.2.2.1 u_217.2.2.2.2.1 u_217.2.2.2.2.2.1 u_217.2.2.2.2.2.2.1 Mroots Mbox MbackBox u_217.2.2.2.2.2.2.2.1 u_217.2.2.2.2.2.2.2.2.1 u_217.2.2.2.2.2.2.2.2.2.1 u_217.2.2.2.2.2.2.2.2.2.2.1 u_217.2.2.2.2.2.2.2.2.2.2.2).2) fun u_220 =>
              if r_220 = 0 then
                gLet F_X11_shutAll fun u_228 =>
                (0, (0, Mtried, 0, u_220.1, u_228.1, u_228.2, u_220.2.1, u_220.2.2.1, u_220.2.2.2.1, u_220.2.2.2.2.1, u_220.2.2.2.2.2.1, u_220.2.2.2.2.2.2.1, u_220.2.2.2.2.2.2.2.1, u_220.2.2.2.2.2.2.2.2.1, u_220.2.2.2.2.2.2.2.2.2.1, u_220.2.2.2.2.2.2.2.2.2.2.1, u_220.2.2.2.2.2.2.2.2.2.2.2))
              else
                (2, (0, Mtried, 0, u_220.1, 1, Mcollected, u_220.2.1, u_220.2.2.1, u_220.2.2.2.1, u_220.2.2.2.2.1, u_220.2.2.2.2.2.1, u_220.2.2.2.2.2.2.1, u_220.2.2.2.2.2.2.2.1, u_220.2.2.2.2.2.2.2.2.1, u_220.2.2.2.2.2.2.2.2.2.1, u_220.2.2.2.2.2.2.2.2.2.2.1, u_220.2.2.2.2.2.2.2.2.2.2.2))
            else
              (1, (0, Mtried, 0, u_217.1, 1, Mcollected, u_217.2.1, u_217.2.2.1, u_217.2.2.2.1, u_217.2.2.2.2.1, u_217.2.2.2.2.2.1, u_217.2.2.2.2.2.2.1, u_217.2.2.2.2.2.2.2.1, u_217.2.2.2.2.2.2.2.2.1, u_217.2.2.2.2.2.2.2.2.2.1, u_217.2.2.2.2.2.2.2.2.2.2.1, u_217.2.2.2.2.2.2.2.2.2.2.2))
          else
            if Mtries = 127 then
              (0, (3, Mtried, Mtries, Mkey, MisOpen, Mcollected, Msaid, Mmessage, Mdigest, Mwords, Mh, Mv, MroundKeys, Mrounds, Mstate, Mother, Mwork))
            else
              ((nI (Mtries + 1)), (0, (upd Mtried Mtries vc), Mtries + 1, Mkey, MisOpen, Mcollected, Msaid, Mmessage, Mdigest, Mwords, Mh, Mv, MroundKeys, Mrounds, Mstate, Mother, Mwork))
      else
        if vc < 0 then
          gLet ((F_X11_opensLate_u Mtried Mtries Mentries Mkey Mmessage Mdigest Mwords Mh Mv Mroots Mbox MbackBox MroundKeys Mrounds Mstate Mother Mwork).1) fun r_179 =>
          gLet ((F_X11_opensLate_u Mtried Mtries Mentries Mkey Mmessage Mdigest Mwords Mh Mv Mroots Mbox MbackBox MroundKeys Mrounds Mstate Mother Mwork).2) fun u_179 =>
          if r_179 = 0 then
            gLet ((F_X11_opensLate_o Mtried Mtries Mentries u_179.1 u_179.2.2.1 u_179.2.2.2.1 u_179.2.2.2.2.1 u_179.2.2.2.2.2.1 u_179.2.2.2.2.2.2.1 Mroots Mbox MbackBox u_179.2.2.2.2.2.2.2.1 u_179.2.2.2.2.2.2.2.2.1 u_179.2.2.2.2.2.2.2.2.2.1 u_179.2.2.2.2.2.2.2.2.2.2.1 u_179.2.2.2.2.2.2.2.2.2.2.2).1) fun r_182 =>
            gLet ((F_X11_opensLate_o Mtried Mtries Mentries u_179.1 u_179.2.2.1 u_179.2.2.2.1 u_179.2.2.2.2.1 u_179.2.2.2.2.2.1 u_179.2.2.2.2.2.2.1 Mroots Mbox MbackBox u_179.2.2.2.2.2.2.2.1 u_179.2.2.2.2.2.2.2.2.1 u_179.2.2.2.2.2.2.2.2.2.1 u_179.2.2.2.2.2.2.2.2.2.2.1 u_179.2.2.2.2.2.2.2.2.2.2.2).2) fun u_182 =>
            if r_182 = 0 then
              gLet F_X11_shutAll fun u_190 =>
              (0, (0, Mtried, 0, u_182.1, u_190.1, u_190.2, u_182.2.1, u_182.2.2.1, u_182.2.2.2.1, u_182.2.2.2.2.1, u_182.2.2.2.2.2.1, u_182.2.2.2.2.2.2.1, u_182.2.2.2.2.2.2.2.1, u_182.2.2.2.2.2.2.2.2.1, u_182.2.2.2.2.2.2.2.2.2.1, u_182.2.2.2.2.2.2.2.2.2.2.1, u_182.2.2.2.2.2.2.2.2.2.2.2))
            else
              (2, (0, Mtried, 0, u_182.1, 1, Mcollected, u_182.2.1, u_182.2.2.1, u_182.2.2.2.1, u_182.2.2.2.2.1, u_182.2.2.2.2.2.1, u_182.2.2.2.2.2.2.1, u_182.2.2.2.2.2.2.2.1, u_182.2.2.2.2.2.2.2.2.1, u_182.2.2.2.2.2.2.2.2.2.1, u_182.2.2.2.2.2.2.2.2.2.2.1, u_182.2.2.2.2.2.2.2.2.2.2.2))
          else
            (1, (0, Mtried, 0, u_179.1, 1, Mcollected, u_179.2.1, u_179.2.2.1, u_179.2.2.2.1, u_179.2.2.2.2.1, u_179.2.2.2.2.2.1, u_179.2.2.2.2.2.2.1, u_179.2.2.2.2.2.2.2.1, u_179.2.2.2.2.2.2.2.2.1, u_179.2.2.2.2.2.2.2.2.2.1, u_179.2.2.2.2.2.2.2.2.2.2.1, u_179.2.2.2.2.2.2.2.2.2.2.2))
        else
          if Mtries = 127 then
            (0, (3, Mtried, Mtries, Mkey, MisOpen, Mcollected, Msaid, Mmessage, Mdigest, Mwords, Mh, Mv, MroundKeys, Mrounds, Mstate, Mother, Mwork))
          else
            ((nI (Mtries + 1)), (0, (upd Mtried Mtries vc), Mtries + 1, Mkey, MisOpen, Mcollected, Msaid, Mmessage, Mdigest, Mwords, Mh, Mv, MroundKeys, Mrounds, Mstate, Mother, Mwork))
    else
      (0, (1, Mtried, Mtries, Mkey, MisOpen, Mcollected, Msaid, Mmessage, Mdigest, Mwords, Mh, Mv, MroundKeys, Mrounds, Mstate, Mother, Mwork))
def F_X11_key_e (rv : Nat) (Mkey : Nat → Int32) (MisOpen : Int32) (Mfilter : Int32) (MoutSize : Nat) (Mout : Nat → Int32) (Msaid : Nat) (Mmessage : Nat → Int32) (Mdigest : Nat → Int32) (Mwords : Nat → Int32) (Mh : Nat → Int32) (Msines : Nat → Int32) (number : Int32) (generation : Int32) : Int32 × (Int32 × Nat × (Nat → Int32) × Nat × (Nat → Int32) × (Nat → Int32) × (Nat → Int32) × (Nat → Int32)) :=
  if MisOpen = 0 then
    (0, (1, MoutSize, Mout, Msaid, Mmessage, Mdigest, Mwords, Mh))
  else
    gLet ((F_X11_objectKey rv Mkey Mfilter Msaid Mmessage Mdigest Mwords Mh Msines number generation).2) fun u_24 =>
    gLet ((F_X11_become Mout u_24.2.2.1 0 (gok rv)).2) fun u_26 =>
    ((nI ((gok rv))), (0, u_26.1, u_26.2, u_24.1, u_24.2.1, u_24.2.2.1, u_24.2.2.2.1, u_24.2.2.2.2))
def B_X11_encipher_e_19_t (Mtape : Nat → Int32) : Nat → (Nat × (Nat → Int32)) → (Nat × (Nat → Int32)) := fun i_201 z_200 =>
  gLet ((F_X11_nextByte Mtape z_200.1).1) fun r_203 =>
  gLet ((F_X11_nextByte Mtape z_200.1).2) fun u_203 =>
  (u_203, (upd z_200.2 i_201 r_203))
def B_X11_encipher_e_54_t (cn : Nat) (Mbytes : Nat → Int32) : Nat → (Nat → Int32) → (Nat → Int32) := fun i_242 z_241 =>
  if cn ≤ i_242 then
    (upd z_241 (16 + i_242) (nI ((((cn / 16) * 16) + 16) - cn)))
  else
    (upd z_241 (16 + i_242) (Mbytes i_242))
def F_X11_encipher_e (rv : Nat) (Mtape : Nat → Int32) (Mtaped : Nat) (Mtaken : Nat) (Mkey : Nat → Int32) (Mfilter : Int32) (Mbytes : Nat → Int32) (Mobject : Int32) (MoutSize : Nat) (Mout : Nat → Int32) (Msaid : Nat) (Mmessage : Nat → Int32) (Mdigest : Nat → Int32) (Mwords : Nat → Int32) (Mh : Nat → Int32) (Msines : Nat → Int32) (Mbox : Nat → Int32) (MroundKeys : Nat → Int32) (Mrounds : Nat) (Mstate : Nat → Int32) (Mother : Nat → Int32) (Mwork : Nat → Int32) (cn : Nat) : Int32 × (Nat × Nat × (Nat → Int32) × Nat × (Nat → Int32) × (Nat → Int32) × (Nat → Int32) × (Nat → Int32) × (Nat → Int32) × Nat × (Nat → Int32) × (Nat → Int32) × (Nat → Int32)) :=
  if 16 ≤ Mtaped - Mtaken then
    gLet (itr (B_X11_encipher_e_19_t Mtape) 16 ((Mtaken, Mwork) : Nat × (Nat → Int32))) fun z_214 =>
    gLet (itr (B_X11_encipher_e_54_t cn Mbytes) (cn / 16 * 16 + 16) (z_214.2 : Nat → Int32)) fun z_261 =>
    gLet ((F_X11_objectKey rv Mkey Mfilter Msaid Mmessage Mdigest Mwords Mh Msines Mobject 0).2) fun u_263 =>
    gLet (F_X11_setKey_16 Mbox MroundKeys u_263.2.2.1) fun u_266 =>
    gLet (F_X11_chain_0 Mbox u_266.1 u_266.2 Mstate Mother z_261 ((((cn / 16) * 16) + 16) / 16)) fun u_269 =>
    gLet ((F_X11_become Mout u_269.2.2 0 (16 + (((cn / 16) * 16) + 16))).2) fun u_272 =>
    ((nI ((16 + (((cn / 16) * 16) + 16)))), (z_214.1, u_272.1, u_272.2, u_263.1, u_263.2.1, u_263.2.2.1, u_263.2.2.2.1, u_263.2.2.2.2, u_266.1, u_266.2, u_269.1, u_269.2.1, u_269.2.2))
  else
    ((-2), (Mtaken, MoutSize, Mout, Msaid, Mmessage, Mdigest, Mwords, Mh, MroundKeys, Mrounds, Mstate, Mother, Mwork))
def B_X11_decipher_e_27_tft (Mbytes : Nat → Int32) : Nat → (Nat → Int32) → (Nat → Int32) := fun i_223 z_222 =>
  (upd z_222 i_223 (Mbytes i_223))
def B_X11_decipher_e_106_tftff (u_241 : (Nat → Int32) × (Nat → Int32) × (Nat → Int32)) (cn : Nat) : Nat → Int32 → Int32 := fun i_280 z_279 =>
  if (u_241.2.2 ((cn - 1) - i_280)) = (u_241.2.2 (cn - 1)) then
    1
  else
    0
def F_X11_decipher_e (rv : Nat) (Mkey : Nat → Int32) (Mfilter : Int32) (Mbytes : Nat → Int32) (Mobject : Int32) (MoutSize : Nat) (Mout : Nat → Int32) (Msaid : Nat) (Mmessage : Nat → Int32) (Mdigest : Nat → Int32) (Mwords : Nat → Int32) (Mh : Nat → Int32) (Msines : Nat → Int32) (Mbox : Nat → Int32) (MbackBox : Nat → Int32) (MroundKeys : Nat → Int32) (Mrounds : Nat) (Mstate : Nat → Int32) (Mother : Nat → Int32) (Mwork : Nat → Int32) (cn : Nat) : Int32 × (Nat × (Nat → Int32) × Nat × (Nat → Int32) × (Nat → Int32) × (Nat → Int32) × (Nat → Int32) × (Nat → Int32) × Nat × (Nat → Int32) × (Nat → Int32) × (Nat → Int32)) :=
  if 16 ≤ cn then
    if cn < 32 then
      ((-3), (MoutSize, Mout, Msaid, Mmessage, Mdigest, Mwords, Mh, MroundKeys, Mrounds, Mstate, Mother, Mwork))
    else
      if cn % 16 ≤ 0 then
        gLet (itr (B_X11_decipher_e_27_tft Mbytes) cn (Mwork : Nat → Int32)) fun z_232 =>
        gLet ((F_X11_objectKey rv Mkey Mfilter Msaid Mmessage Mdigest Mwords Mh Msines Mobject 0).2) fun u_234 =>
        gLet (F_X11_setKey_16 Mbox MroundKeys u_234.2.2.1) fun u_237 =>
        gLet (F_X11_chain_1 MbackBox u_237.1 u_237.2 Mstate Mother z_232 ((cn / 16) - 1)) fun u_241 =>
        if (u_241.2.2 (cn - 1)) ≤ 0 then
          ((-4), (MoutSize, Mout, u_234.1, u_234.2.1, u_234.2.2.1, u_234.2.2.2.1, u_234.2.2.2.2, u_237.1, u_237.2, u_241.1, u_241.2.1, u_241.2.2))
        else
          if 17 ≤ (u_241.2.2 (cn - 1)) then
            ((-4), (MoutSize, Mout, u_234.1, u_234.2.1, u_234.2.2.1, u_234.2.2.2.1, u_234.2.2.2.2, u_237.1, u_237.2, u_241.1, u_241.2.1, u_241.2.2))
          else
            gLet (itr (B_X11_decipher_e_106_tftff u_241 cn) (min (u_241.2.2 (cn - 1)).toNatClampNeg (g_first (fun k => decide (¬ (u_241.2.2 (cn - 1 - k)) = (u_241.2.2 (cn - 1)))) (u_241.2.2 (cn - 1)).toNatClampNeg + 1)) (1 : Int32)) fun z_301 =>
            if z_301 = 0 then
              ((-4), (MoutSize, Mout, u_234.1, u_234.2.1, u_234.2.2.1, u_234.2.2.2.1, u_234.2.2.2.2, u_237.1, u_237.2, u_241.1, u_241.2.1, u_241.2.2))
            else
              gLet ((F_X11_become Mout u_241.2.2 16 ((cn - 16) - (u_241.2.2 (cn - 1)).toNatClampNeg)).2) fun u_308 =>
              ((nI (((cn - 16) - (u_241.2.2 (cn - 1)).toNatClampNeg))), (u_308.1, u_308.2, u_234.1, u_234.2.1, u_234.2.2.1, u_234.2.2.2.1, u_234.2.2.2.2, u_237.1, u_237.2, u_241.1, u_241.2.1, u_241.2.2))
      else
        ((-3), (MoutSize, Mout, Msaid, Mmessage, Mdigest, Mwords, Mh, MroundKeys, Mrounds, Mstate, Mother, Mwork))
  else
    ((-2), (MoutSize, Mout, Msaid, Mmessage, Mdigest, Mwords, Mh, MroundKeys, Mrounds, Mstate, Mother, Mwork))
def F_X11_end_e (rv : Nat) (Mtape : Nat → Int32) (Mtaped : Nat) (Mtaken : Nat) (Mkey : Nat → Int32) (Mfilter : Int32) (Mcollected : Nat) (Mbytes : Nat → Int32) (Mobject : Int32) (MisBack : Int32) (MoutSize : Nat) (Mout : Nat → Int32) (Msaid : Nat) (Mmessage : Nat → Int32) (Mdigest : Nat → Int32) (Mwords : Nat → Int32) (Mh : Nat → Int32) (Msines : Nat → Int32) (Mbox : Nat → Int32) (MbackBox : Nat → Int32) (MroundKeys : Nat → Int32) (Mrounds : Nat) (Mstate : Nat → Int32) (Mother : Nat → Int32) (Mstream : Nat → Int32) (Mwork : Nat → Int32) : Int32 × (Int32 × Nat × Nat × (Nat → Int32) × Nat × (Nat → Int32) × Nat × (Nat → Int32) × (Nat → Int32) × (Nat → Int32) × (Nat → Int32) × (Nat → Int32) × Nat × (Nat → Int32) × (Nat → Int32) × (Nat → Int32) × (Nat → Int32)) :=
  if Mcollected = 0 then
    ((-1), (0, Mtaken, 0, Mbytes, MoutSize, Mout, Msaid, Mmessage, Mdigest, Mwords, Mh, MroundKeys, Mrounds, Mstate, Mother, Mstream, Mwork))
  else
    if Mfilter = 2 then
      if MisBack = 0 then
        gLet ((F_X11_encipher_e rv Mtape Mtaped Mtaken Mkey Mfilter Mbytes Mobject MoutSize Mout Msaid Mmessage Mdigest Mwords Mh Msines Mbox MroundKeys Mrounds Mstate Mother Mwork Mcollected).1) fun r_57 =>
        gLet ((F_X11_encipher_e rv Mtape Mtaped Mtaken Mkey Mfilter Mbytes Mobject MoutSize Mout Msaid Mmessage Mdigest Mwords Mh Msines Mbox MroundKeys Mrounds Mstate Mother Mwork Mcollected).2) fun u_57 =>
        (r_57, (0, u_57.1, 0, Mbytes, u_57.2.1, u_57.2.2.1, u_57.2.2.2.1, u_57.2.2.2.2.1, u_57.2.2.2.2.2.1, u_57.2.2.2.2.2.2.1, u_57.2.2.2.2.2.2.2.1, u_57.2.2.2.2.2.2.2.2.1, u_57.2.2.2.2.2.2.2.2.2.1, u_57.2.2.2.2.2.2.2.2.2.2.1, u_57.2.2.2.2.2.2.2.2.2.2.2.1, Mstream, u_57.2.2.2.2.2.2.2.2.2.2.2.2))
      else
        gLet ((F_X11_decipher_e rv Mkey Mfilter Mbytes Mobject MoutSize Mout Msaid Mmessage Mdigest Mwords Mh Msines Mbox MbackBox MroundKeys Mrounds Mstate Mother Mwork Mcollected).1) fun r_59 =>
        gLet ((F_X11_decipher_e rv Mkey Mfilter Mbytes Mobject MoutSize Mout Msaid Mmessage Mdigest Mwords Mh Msines Mbox MbackBox MroundKeys Mrounds Mstate Mother Mwork Mcollected).2) fun u_59 =>
        (r_59, (0, Mtaken, 0, Mbytes, u_59.1, u_59.2.1, u_59.2.2.1, u_59.2.2.2.1, u_59.2.2.2.2.1, u_59.2.2.2.2.2.1, u_59.2.2.2.2.2.2.1, u_59.2.2.2.2.2.2.2.1, u_59.2.2.2.2.2.2.2.2.1, u_59.2.2.2.2.2.2.2.2.2.1, u_59.2.2.2.2.2.2.2.2.2.2.1, Mstream, u_59.2.2.2.2.2.2.2.2.2.2.2))
    else
      if Mfilter = 1 then
        gLet ((F_X11_objectKey rv Mkey Mfilter Msaid Mmessage Mdigest Mwords Mh Msines Mobject 0).2) fun u_49 =>
        gLet (F_X11_throughStream Mstream u_49.2.2.1 Mbytes (gok rv) 0 0 Mcollected) fun u_52 =>
        gLet ((F_X11_become Mout u_52.2 0 Mcollected).2) fun u_54 =>
        ((nI Mcollected), (0, Mtaken, 0, u_52.2, u_54.1, u_54.2, u_49.1, u_49.2.1, u_49.2.2.1, u_49.2.2.2.1, u_49.2.2.2.2, MroundKeys, Mrounds, Mstate, Mother, u_52.1, Mwork))
      else
        gLet ((F_X11_become Mout Mbytes 0 Mcollected).2) fun u_47 =>
        ((nI Mcollected), (0, Mtaken, 0, Mbytes, u_47.1, u_47.2, Msaid, Mmessage, Mdigest, Mwords, Mh, MroundKeys, Mrounds, Mstate, Mother, Mstream, Mwork))
def F_X11_told_e (Mtaped : Nat) (Mtaken : Nat) (Mpermissions : Int32) (Mcollected : Nat) (MoutSize : Nat) (vi : Int32) : Int32 × (Int32) :=
  if vi < 0 then
    (0, 1)
  else
    if vi ≤ 3 then
      if 3 ≤ vi then
        (Mpermissions, 0)
      else
        if vi = 0 then
          ((nI Mcollected), 0)
        else
          if vi = 1 then
            ((nI (Mtaped - Mtaken)), 0)
          else
            ((nI MoutSize), 0)
    else
      (0, 1)
def F_X11_key_l (Mkey : Nat → Int32) (MisOpen : Int32) (Mfilter : Int32) (MoutSize : Nat) (Mout : Nat → Int32) (Msaid : Nat) (Mmessage : Nat → Int32) (Mdigest : Nat → Int32) (Mwords : Nat → Int32) (Mh : Nat → Int32) (Msines : Nat → Int32) (number : Int32) (generation : Int32) : Int32 × (Int32 × Nat × (Nat → Int32) × Nat × (Nat → Int32) × (Nat → Int32) × (Nat → Int32) × (Nat → Int32)) :=
  if MisOpen = 0 then
    (0, (1, MoutSize, Mout, Msaid, Mmessage, Mdigest, Mwords, Mh))
  else
    gLet ((F_X11_objectKey 5 Mkey Mfilter Msaid Mmessage Mdigest Mwords Mh Msines number generation).2) fun u_24 =>
    gLet ((F_X11_become Mout u_24.2.2.1 0 (gok 5)).2) fun u_26 =>
    ((nI ((gok 5))), (0, u_26.1, u_26.2, u_24.1, u_24.2.1, u_24.2.2.1, u_24.2.2.2.1, u_24.2.2.2.2))
def B_X11_encipher_l_19_t (Mtape : Nat → Int32) : Nat → (Nat × (Nat → Int32)) → (Nat × (Nat → Int32)) := fun i_201 z_200 =>
  gLet ((F_X11_nextByte Mtape z_200.1).1) fun r_203 =>
  gLet ((F_X11_nextByte Mtape z_200.1).2) fun u_203 =>
  (u_203, (upd z_200.2 i_201 r_203))
def B_X11_encipher_l_54_t (cn : Nat) (Mbytes : Nat → Int32) : Nat → (Nat → Int32) → (Nat → Int32) := fun i_242 z_241 =>
  if cn ≤ i_242 then
    (upd z_241 (16 + i_242) (nI ((((cn / 16) * 16) + 16) - cn)))
  else
    (upd z_241 (16 + i_242) (Mbytes i_242))
def F_X11_encipher_l (Mtape : Nat → Int32) (Mtaped : Nat) (Mtaken : Nat) (Mkey : Nat → Int32) (Mfilter : Int32) (Mbytes : Nat → Int32) (Mobject : Int32) (MoutSize : Nat) (Mout : Nat → Int32) (Msaid : Nat) (Mmessage : Nat → Int32) (Mdigest : Nat → Int32) (Mwords : Nat → Int32) (Mh : Nat → Int32) (Msines : Nat → Int32) (Mbox : Nat → Int32) (MroundKeys : Nat → Int32) (Mrounds : Nat) (Mstate : Nat → Int32) (Mother : Nat → Int32) (Mwork : Nat → Int32) (cn : Nat) : Int32 × (Nat × Nat × (Nat → Int32) × Nat × (Nat → Int32) × (Nat → Int32) × (Nat → Int32) × (Nat → Int32) × (Nat → Int32) × Nat × (Nat → Int32) × (Nat → Int32) × (Nat → Int32)) :=
  if 16 ≤ Mtaped - Mtaken then
    gLet (itr (B_X11_encipher_l_19_t Mtape) 16 ((Mtaken, Mwork) : Nat × (Nat → Int32))) fun z_214 =>
    gLet (itr (B_X11_encipher_l_54_t cn Mbytes) (cn / 16 * 16 + 16) (z_214.2 : Nat → Int32)) fun z_261 =>
    gLet ((F_X11_objectKey 5 Mkey Mfilter Msaid Mmessage Mdigest Mwords Mh Msines Mobject 0).2) fun u_263 =>
    gLet (F_X11_setKey_32 Mbox MroundKeys u_263.2.2.1) fun u_266 =>
    gLet (F_X11_chain_0 Mbox u_266.1 u_266.2 Mstate Mother z_261 ((((cn / 16) * 16) + 16) / 16)) fun u_269 =>
    gLet ((F_X11_become Mout u_269.2.2 0 (16 + (((cn / 16) * 16) + 16))).2) fun u_272 =>
    ((nI ((16 + (((cn / 16) * 16) + 16)))), (z_214.1, u_272.1, u_272.2, u_263.1, u_263.2.1, u_263.2.2.1, u_263.2.2.2.1, u_263.2.2.2.2, u_266.1, u_266.2, u_269.1, u_269.2.1, u_269.2.2))
  else
    ((-2), (Mtaken, MoutSize, Mout, Msaid, Mmessage, Mdigest, Mwords, Mh, MroundKeys, Mrounds, Mstate, Mother, Mwork))
def B_X11_decipher_l_27_tft (Mbytes : Nat → Int32) : Nat → (Nat → Int32) → (Nat → Int32) := fun i_223 z_222 =>
  (upd z_222 i_223 (Mbytes i_223))
def B_X11_decipher_l_106_tftff (u_241 : (Nat → Int32) × (Nat → Int32) × (Nat → Int32)) (cn : Nat) : Nat → Int32 → Int32 := fun i_280 z_279 =>
  if (u_241.2.2 ((cn - 1) - i_280)) = (u_241.2.2 (cn - 1)) then
    1
  else
    0
def F_X11_decipher_l (Mkey : Nat → Int32) (Mfilter : Int32) (Mbytes : Nat → Int32) (Mobject : Int32) (MoutSize : Nat) (Mout : Nat → Int32) (Msaid : Nat) (Mmessage : Nat → Int32) (Mdigest : Nat → Int32) (Mwords : Nat → Int32) (Mh : Nat → Int32) (Msines : Nat → Int32) (Mbox : Nat → Int32) (MbackBox : Nat → Int32) (MroundKeys : Nat → Int32) (Mrounds : Nat) (Mstate : Nat → Int32) (Mother : Nat → Int32) (Mwork : Nat → Int32) (cn : Nat) : Int32 × (Nat × (Nat → Int32) × Nat × (Nat → Int32) × (Nat → Int32) × (Nat → Int32) × (Nat → Int32) × (Nat → Int32) × Nat × (Nat → Int32) × (Nat → Int32) × (Nat → Int32)) :=
  if 16 ≤ cn then
    if cn < 32 then
      ((-3), (MoutSize, Mout, Msaid, Mmessage, Mdigest, Mwords, Mh, MroundKeys, Mrounds, Mstate, Mother, Mwork))
    else
      if cn % 16 ≤ 0 then
        gLet (itr (B_X11_decipher_l_27_tft Mbytes) cn (Mwork : Nat → Int32)) fun z_232 =>
        gLet ((F_X11_objectKey 5 Mkey Mfilter Msaid Mmessage Mdigest Mwords Mh Msines Mobject 0).2) fun u_234 =>
        gLet (F_X11_setKey_32 Mbox MroundKeys u_234.2.2.1) fun u_237 =>
        gLet (F_X11_chain_1 MbackBox u_237.1 u_237.2 Mstate Mother z_232 ((cn / 16) - 1)) fun u_241 =>
        if (u_241.2.2 (cn - 1)) ≤ 0 then
          ((-4), (MoutSize, Mout, u_234.1, u_234.2.1, u_234.2.2.1, u_234.2.2.2.1, u_234.2.2.2.2, u_237.1, u_237.2, u_241.1, u_241.2.1, u_241.2.2))
        else
          if 17 ≤ (u_241.2.2 (cn - 1)) then
            ((-4), (MoutSize, Mout, u_234.1, u_234.2.1, u_234.2.2.1, u_234.2.2.2.1, u_234.2.2.2.2, u_237.1, u_237.2, u_241.1, u_241.2.1, u_241.2.2))
          else
            gLet (itr (B_X11_decipher_l_106_tftff u_241 cn) (min (u_241.2.2 (cn - 1)).toNatClampNeg (g_first (fun k => decide (¬ (u_241.2.2 (cn - 1 - k)) = (u_241.2.2 (cn - 1)))) (u_241.2.2 (cn - 1)).toNatClampNeg + 1)) (1 : Int32)) fun z_301 =>
            if z_301 = 0 then
              ((-4), (MoutSize, Mout, u_234.1, u_234.2.1, u_234.2.2.1, u_234.2.2.2.1, u_234.2.2.2.2, u_237.1, u_237.2, u_241.1, u_241.2.1, u_241.2.2))
            else
              gLet ((F_X11_become Mout u_241.2.2 16 ((cn - 16) - (u_241.2.2 (cn - 1)).toNatClampNeg)).2) fun u_308 =>
              ((nI (((cn - 16) - (u_241.2.2 (cn - 1)).toNatClampNeg))), (u_308.1, u_308.2, u_234.1, u_234.2.1, u_234.2.2.1, u_234.2.2.2.1, u_234.2.2.2.2, u_237.1, u_237.2, u_241.1, u_241.2.1, u_241.2.2))
      else
        ((-3), (MoutSize, Mout, Msaid, Mmessage, Mdigest, Mwords, Mh, MroundKeys, Mrounds, Mstate, Mother, Mwork))
  else
    ((-2), (MoutSize, Mout, Msaid, Mmessage, Mdigest, Mwords, Mh, MroundKeys, Mrounds, Mstate, Mother, Mwork))
def F_X11_end_l (Mtape : Nat → Int32) (Mtaped : Nat) (Mtaken : Nat) (Mkey : Nat → Int32) (Mfilter : Int32) (Mcollected : Nat) (Mbytes : Nat → Int32) (Mobject : Int32) (MisBack : Int32) (MoutSize : Nat) (Mout : Nat → Int32) (Msaid : Nat) (Mmessage : Nat → Int32) (Mdigest : Nat → Int32) (Mwords : Nat → Int32) (Mh : Nat → Int32) (Msines : Nat → Int32) (Mbox : Nat → Int32) (MbackBox : Nat → Int32) (MroundKeys : Nat → Int32) (Mrounds : Nat) (Mstate : Nat → Int32) (Mother : Nat → Int32) (Mstream : Nat → Int32) (Mwork : Nat → Int32) : Int32 × (Int32 × Nat × Nat × (Nat → Int32) × Nat × (Nat → Int32) × Nat × (Nat → Int32) × (Nat → Int32) × (Nat → Int32) × (Nat → Int32) × (Nat → Int32) × Nat × (Nat → Int32) × (Nat → Int32) × (Nat → Int32) × (Nat → Int32)) :=
  if Mcollected = 0 then
    ((-1), (0, Mtaken, 0, Mbytes, MoutSize, Mout, Msaid, Mmessage, Mdigest, Mwords, Mh, MroundKeys, Mrounds, Mstate, Mother, Mstream, Mwork))
  else
    if Mfilter = 2 then
      if MisBack = 0 then
        gLet ((F_X11_encipher_l Mtape Mtaped Mtaken Mkey Mfilter Mbytes Mobject MoutSize Mout Msaid Mmessage Mdigest Mwords Mh Msines Mbox MroundKeys Mrounds Mstate Mother Mwork Mcollected).1) fun r_57 =>
        gLet ((F_X11_encipher_l Mtape Mtaped Mtaken Mkey Mfilter Mbytes Mobject MoutSize Mout Msaid Mmessage Mdigest Mwords Mh Msines Mbox MroundKeys Mrounds Mstate Mother Mwork Mcollected).2) fun u_57 =>
        (r_57, (0, u_57.1, 0, Mbytes, u_57.2.1, u_57.2.2.1, u_57.2.2.2.1, u_57.2.2.2.2.1, u_57.2.2.2.2.2.1, u_57.2.2.2.2.2.2.1, u_57.2.2.2.2.2.2.2.1, u_57.2.2.2.2.2.2.2.2.1, u_57.2.2.2.2.2.2.2.2.2.1, u_57.2.2.2.2.2.2.2.2.2.2.1, u_57.2.2.2.2.2.2.2.2.2.2.2.1, Mstream, u_57.2.2.2.2.2.2.2.2.2.2.2.2))
      else
        gLet ((F_X11_decipher_l Mkey Mfilter Mbytes Mobject MoutSize Mout Msaid Mmessage Mdigest Mwords Mh Msines Mbox MbackBox MroundKeys Mrounds Mstate Mother Mwork Mcollected).1) fun r_59 =>
        gLet ((F_X11_decipher_l Mkey Mfilter Mbytes Mobject MoutSize Mout Msaid Mmessage Mdigest Mwords Mh Msines Mbox MbackBox MroundKeys Mrounds Mstate Mother Mwork Mcollected).2) fun u_59 =>
        (r_59, (0, Mtaken, 0, Mbytes, u_59.1, u_59.2.1, u_59.2.2.1, u_59.2.2.2.1, u_59.2.2.2.2.1, u_59.2.2.2.2.2.1, u_59.2.2.2.2.2.2.1, u_59.2.2.2.2.2.2.2.1, u_59.2.2.2.2.2.2.2.2.1, u_59.2.2.2.2.2.2.2.2.2.1, u_59.2.2.2.2.2.2.2.2.2.2.1, Mstream, u_59.2.2.2.2.2.2.2.2.2.2.2))
    else
      if Mfilter = 1 then
        gLet ((F_X11_objectKey 5 Mkey Mfilter Msaid Mmessage Mdigest Mwords Mh Msines Mobject 0).2) fun u_49 =>
        gLet (F_X11_throughStream Mstream u_49.2.2.1 Mbytes (gok 5) 0 0 Mcollected) fun u_52 =>
        gLet ((F_X11_become Mout u_52.2 0 Mcollected).2) fun u_54 =>
        ((nI Mcollected), (0, Mtaken, 0, u_52.2, u_54.1, u_54.2, u_49.1, u_49.2.1, u_49.2.2.1, u_49.2.2.2.1, u_49.2.2.2.2, MroundKeys, Mrounds, Mstate, Mother, u_52.1, Mwork))
      else
        gLet ((F_X11_become Mout Mbytes 0 Mcollected).2) fun u_47 =>
        ((nI Mcollected), (0, Mtaken, 0, Mbytes, u_47.1, u_47.2, Msaid, Mmessage, Mdigest, Mwords, Mh, MroundKeys, Mrounds, Mstate, Mother, Mstream, Mwork))
def B_X11_told_l_87_fttf (Mentries : Nat → Int32) : Nat → (Nat → Int32) → (Nat → Int32) := fun i_116 z_115 =>
  (upd z_115 i_116 (Mentries (192 + i_116)))
def F_X11_told_l (Mtaped : Nat) (Mtaken : Nat) (Mpermissions : Int32) (Mentries : Nat → Int32) (Mkey : Nat → Int32) (MisOpen : Int32) (Mcollected : Nat) (MoutSize : Nat) (Mbox : Nat → Int32) (MbackBox : Nat → Int32) (MroundKeys : Nat → Int32) (Mrounds : Nat) (Mstate : Nat → Int32) (Mother : Nat → Int32) (Mwork : Nat → Int32) (vi : Int32) : Int32 × (Int32 × (Nat → Int32) × Nat × (Nat → Int32) × (Nat → Int32) × (Nat → Int32)) :=
  if vi < 0 then
    (0, (1, MroundKeys, Mrounds, Mstate, Mother, Mwork))
  else
    if vi ≤ 3 then
      if 3 ≤ vi then
        if MisOpen = 0 then
          (Mpermissions, (0, MroundKeys, Mrounds, Mstate, Mother, Mwork))
        else
          gLet (itr (B_X11_told_l_87_fttf Mentries) 16 (Mwork : Nat → Int32)) fun z_127 =>
          gLet (F_X11_setKey_32 Mbox MroundKeys Mkey) fun u_129 =>
          gLet (F_X11_block_1 MbackBox u_129.1 u_129.2 Mstate Mother z_127 0) fun u_131 =>
          gLet (((u_131.2.2 0) ||| ((u_131.2.2 1) <<< (8 &&& 31))) ||| ((u_131.2.2 2) <<< (16 &&& 31))) fun v_133 =>
          ((v_133 ||| ((u_131.2.2 3) <<< (24 &&& 31))), (0, u_129.1, u_129.2, u_131.1, u_131.2.1, u_131.2.2))
      else
        if vi = 0 then
          ((nI Mcollected), (0, MroundKeys, Mrounds, Mstate, Mother, Mwork))
        else
          if vi = 1 then
            ((nI (Mtaped - Mtaken)), (0, MroundKeys, Mrounds, Mstate, Mother, Mwork))
          else
            ((nI MoutSize), (0, MroundKeys, Mrounds, Mstate, Mother, Mwork))
    else
      (0, (1, MroundKeys, Mrounds, Mstate, Mother, Mwork))
def F_X11_out (MoutSize : Nat) (Mout : Nat → Int32) (vi : Int32) : Int32 × (Int32) :=
  if vi < 0 then
    (0, 1)
  else
    if vi < (nI MoutSize) then
      (((Mout vi.toNatClampNeg).toInt8.toInt32), 0)
    else
      (0, 1)
