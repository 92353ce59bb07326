/-! the environment of all contracts, the heads of the contracts, the calls; laid by wip/gen/base_head.py -/
abbrev vwCl : List vw_C := [(RJ0, TJ0, 2), (RJx00060, TJx00060, 6), (RX0, TX0, 5), (RX1, TX1, 4), (RX2, TX2, 2), (RX3, TX3, 3), (RX5, TX5, 2), (RX6, TX6, 2), (RX7, TX7, 1), (RX8, TX8, 6), (RX9, TX9, 12), (RX10, TX10, 8), (RX11, TX11, 45)]
def gNest : List Cond := [.fieldLinkNest "CryptRows" 107 "CryptRows$Vault" "permissions" "I" "CryptRows",
  .fieldLinkNest "CryptRows" 141 "CryptRows$Vault" "tried" "LCryptRows$Row;" "CryptRows",
  .fieldLinkNest "CryptRows" 191 "CryptRows$Tools" "text" "LCryptRows$Row;" "CryptRows",
  .fieldLinkNest "CryptRows" 207 "CryptRows$Tools" "small" "LCryptRows$Small;" "CryptRows",
  .fieldLinkNest "CryptRows" 217 "CryptRows$Tools" "great" "LCryptRows$Great;" "CryptRows",
  .fieldLinkNest "CryptRows" 232 "CryptRows$Vault" "secret" "LCryptRows$Row;" "CryptRows",
  .fieldLinkNest "CryptRows" 235 "CryptRows$Tools" "sum" "LCryptRows$Row;" "CryptRows",
  .fieldLinkNest "CryptRows" 237 "CryptRows$Tools" "stream" "LCryptRows$Stream;" "CryptRows",
  .fieldLinkNest "CryptRows" 257 "CryptRows$Tools" "blocks" "LCryptRows$Blocks;" "CryptRows",
  .fieldLinkNest "CryptRows" 56 "CryptRows$Vault" "owner" "LCryptRows$Row;" "CryptRows",
  .fieldLinkNest "CryptRows" 61 "CryptRows$Vault" "user" "LCryptRows$Row;" "CryptRows",
  .fieldLinkNest "CryptRows" 82 "CryptRows$Vault" "ident" "LCryptRows$Row;" "CryptRows",
  .fieldLinkNest "CryptRows" 87 "CryptRows$Vault" "tape" "LCryptRows$Row;" "CryptRows",
  .fieldLinkNest "CryptRows" 92 "CryptRows$Vault" "plainMetadata" "Z" "CryptRows",
  .fieldLinkNest "CryptRows$EarlyLock" 101 "CryptRows$Tools" "small" "LCryptRows$Small;" "CryptRows",
  .fieldLinkNest "CryptRows$EarlyLock" 119 "CryptRows$Vault" "permissions" "I" "CryptRows",
  .fieldLinkNest "CryptRows$EarlyLock" 126 "CryptRows$Tools" "sum" "LCryptRows$Row;" "CryptRows",
  .fieldLinkNest "CryptRows$EarlyLock" 141 "CryptRows$Vault" "ident" "LCryptRows$Row;" "CryptRows",
  .fieldLinkNest "CryptRows$EarlyLock" 144 "CryptRows$Vault" "plainMetadata" "Z" "CryptRows",
  .fieldLinkNest "CryptRows$EarlyLock" 154 "CryptRows$Tools" "stream" "LCryptRows$Stream;" "CryptRows",
  .fieldLinkNest "CryptRows$EarlyLock" 25 "CryptRows$Vault" "revision" "I" "CryptRows",
  .fieldLinkNest "CryptRows$EarlyLock" 35 "CryptRows$Vault" "owner" "LCryptRows$Row;" "CryptRows",
  .fieldLinkNest "CryptRows$EarlyLock" 42 "CryptRows$Vault" "user" "LCryptRows$Row;" "CryptRows",
  .fieldLinkNest "CryptRows$EarlyLock" 73 "CryptRows$Vault" "tried" "LCryptRows$Row;" "CryptRows",
  .fieldLinkNest "CryptRows$EarlyLock" 87 "CryptRows$Tools" "text" "LCryptRows$Row;" "CryptRows",
  .fieldLinkNest "CryptRows$EarlyLock" 92 "CryptRows$Vault" "secret" "LCryptRows$Row;" "CryptRows",
  .fieldLinkNest "CryptRows$LateLock" 105 "CryptRows$Vault" "tried" "LCryptRows$Row;" "CryptRows",
  .fieldLinkNest "CryptRows$LateLock" 112 "CryptRows$Tools" "text" "LCryptRows$Row;" "CryptRows",
  .fieldLinkNest "CryptRows$LateLock" 119 "CryptRows$Tools" "great" "LCryptRows$Great;" "CryptRows",
  .fieldLinkNest "CryptRows$LateLock" 133 "CryptRows$Vault" "plainMetadata" "Z" "CryptRows",
  .fieldLinkNest "CryptRows$LateLock" 32 "CryptRows$Vault" "user" "LCryptRows$Row;" "CryptRows",
  .fieldLinkNest "CryptRows$LateLock" 51 "CryptRows$Tools" "sum" "LCryptRows$Row;" "CryptRows",
  .fieldLinkNest "CryptRows$LateLock" 60 "CryptRows$Vault" "owner" "LCryptRows$Row;" "CryptRows",
  .fieldLinkNest "CryptRows$LateLock" 70 "CryptRows$Vault" "secret" "LCryptRows$Row;" "CryptRows",
  .fieldLinkNest "CryptRows$LateLock" 80 "CryptRows$Vault" "permissions" "I" "CryptRows",
  .fieldLinkNest "CryptRows$LateLock" 91 "CryptRows$Tools" "blocks" "LCryptRows$Blocks;" "CryptRows",
  .fieldLinkNest "CryptRows$Row" 38 "CryptRows" "FILL" "[I" "CryptRows",
  .methodLinkNest "CryptRows$Lock" 9 ⟨"CryptRows$Tools", "<init>", "()V"⟩ "CryptRows",
  .methodLinkNest "CryptRows$Tools" 11 ⟨"CryptRows$Small", "<init>", "()V"⟩ "CryptRows",
  .methodLinkNest "CryptRows$Tools" 20 ⟨"CryptRows$Great", "<init>", "()V"⟩ "CryptRows",
  .methodLinkNest "CryptRows$Tools" 27 ⟨"CryptRows$Stream", "<init>", "()V"⟩ "CryptRows",
  .methodLinkNest "CryptRows$Tools" 34 ⟨"CryptRows$Blocks", "<init>", "()V"⟩ "CryptRows",
  .declares ⟨"CryptRows$Lock", "findObjectKey", "(IIZLCryptRows$Row;)V"⟩,
  .declares ⟨"CryptRows$Lock", "knowsFilter", "(I)Z"⟩,
  .declares ⟨"CryptRows$Lock", "makeEntries", "()V"⟩,
  .declares ⟨"CryptRows$Lock", "tapeNeeded", "()I"⟩,
  .declares ⟨"CryptRows$Lock", "tellPermissions", "()I"⟩,
  .declares ⟨"CryptRows$Lock", "tryWord", "()I"⟩]
def gT0 : List Int32 := [40, 191, 78, 94, 78, 117, 138, 65, 100, 0, 78, 86, 255, 250, 1, 8, 46, 46, 0, 182, 208, 104, 62, 128, 47, 12, 169, 254, 100, 83, 105, 122]
def gT1 : List Int32 := [-680876936, -389564586, 606105819, -1044525330, -176418897, 1200080426, -1473231341, -45705983, 1770035416, -1958414417, -42063, -1990404162, 1804603682, -40341101, -1502002290, 1236535329, -165796510, -1069501632, 643717713, -373897302, -701558691, 38016083, -660478335, -405537848, 568446438, -1019803690, -187363961, 1163531501, -1444681467, -51403784, 1735328473, -1926607734, -378558, -2022574463, 1839030562, -35309556, -1530992060, 1272893353, -155497632, -1094730640, 681279174, -358537222, -722521979, 76029189, -640364487, -421815835, 530742520, -995338651, -198630844, 1126891415, -1416354905, -57434055, 1700485571, -1894986606, -1051523, -2054922799, 1873313359, -30611744, -1560198380, 1309151649, -145523070, -1120210379, 718787259, -343485551]
def gT2 : List Int32 := [7, 12, 17, 22, 5, 9, 14, 20, 4, 11, 16, 23, 6, 10, 15, 21]
def gT3 : List Int32 := [1116352408, 1899447441, -1245643825, -373957723, 961987163, 1508970993, -1841331548, -1424204075, -670586216, 310598401, 607225278, 1426881987, 1925078388, -2132889090, -1680079193, -1046744716, -459576895, -272742522, 264347078, 604807628, 770255983, 1249150122, 1555081692, 1996064986, -1740746414, -1473132947, -1341970488, -1084653625, -958395405, -710438585, 113926993, 338241895, 666307205, 773529912, 1294757372, 1396182291, 1695183700, 1986661051, -2117940946, -1838011259, -1564481375, -1474664885, -1035236496, -949202525, -778901479, -694614492, -200395387, 275423344, 430227734, 506948616, 659060556, 883997877, 958139571, 1322822218, 1537002063, 1747873779, 1955562222, 2024104815, -2067236844, -1933114872, -1866530822, -1538233109, -1090935817, -965641998]
def gT4 : List Int32 := [1779033703, -1150833019, 1013904242, -1521486534, 1359893119, -1694144372, 528734635, 1541459225]
def gT5 : List Int32 := [99, 124, 119, 123, 242, 107, 111, 197, 48, 1, 103, 43, 254, 215, 171, 118, 202, 130, 201, 125, 250, 89, 71, 240, 173, 212, 162, 175, 156, 164, 114, 192, 183, 253, 147, 38, 54, 63, 247, 204, 52, 165, 229, 241, 113, 216, 49, 21, 4, 199, 35, 195, 24, 150, 5, 154, 7, 18, 128, 226, 235, 39, 178, 117, 9, 131, 44, 26, 27, 110, 90, 160, 82, 59, 214, 179, 41, 227, 47, 132, 83, 209, 0, 237, 32, 252, 177, 91, 106, 203, 190, 57, 74, 76, 88, 207, 208, 239, 170, 251, 67, 77, 51, 133, 69, 249, 2, 127, 80, 60, 159, 168, 81, 163, 64, 143, 146, 157, 56, 245, 188, 182, 218, 33, 16, 255, 243, 210, 205, 12, 19, 236, 95, 151, 68, 23, 196, 167, 126, 61, 100, 93, 25, 115, 96, 129, 79, 220, 34, 42, 144, 136, 70, 238, 184, 20, 222, 94, 11, 219, 224, 50, 58, 10, 73, 6, 36, 92, 194, 211, 172, 98, 145, 149, 228, 121, 231, 200, 55, 109, 141, 213, 78, 169, 108, 86, 244, 234, 101, 122, 174, 8, 186, 120, 37, 46, 28, 166, 180, 198, 232, 221, 116, 31, 75, 189, 139, 138, 112, 62, 181, 102, 72, 3, 246, 14, 97, 53, 87, 185, 134, 193, 29, 158, 225, 248, 152, 17, 105, 217, 142, 148, 155, 30, 135, 233, 206, 85, 40, 223, 140, 161, 137, 13, 191, 230, 66, 104, 65, 153, 45, 15, 176, 84, 187, 22]
def gT6 : List Int32 := [82, 9, 106, 213, 48, 54, 165, 56, 191, 64, 163, 158, 129, 243, 215, 251, 124, 227, 57, 130, 155, 47, 255, 135, 52, 142, 67, 68, 196, 222, 233, 203, 84, 123, 148, 50, 166, 194, 35, 61, 238, 76, 149, 11, 66, 250, 195, 78, 8, 46, 161, 102, 40, 217, 36, 178, 118, 91, 162, 73, 109, 139, 209, 37, 114, 248, 246, 100, 134, 104, 152, 22, 212, 164, 92, 204, 93, 101, 182, 146, 108, 112, 72, 80, 253, 237, 185, 218, 94, 21, 70, 87, 167, 141, 157, 132, 144, 216, 171, 0, 140, 188, 211, 10, 247, 228, 88, 5, 184, 179, 69, 6, 208, 44, 30, 143, 202, 63, 15, 2, 193, 175, 189, 3, 1, 19, 138, 107, 58, 145, 17, 65, 79, 103, 220, 234, 151, 242, 207, 206, 240, 180, 230, 115, 150, 172, 116, 34, 231, 173, 53, 133, 226, 249, 55, 232, 28, 117, 223, 110, 71, 241, 26, 113, 29, 41, 197, 137, 111, 183, 98, 14, 170, 24, 190, 27, 252, 86, 62, 75, 198, 210, 121, 32, 154, 219, 192, 254, 120, 205, 90, 244, 31, 221, 168, 51, 136, 7, 199, 49, 177, 18, 16, 89, 39, 128, 236, 95, 96, 81, 127, 169, 25, 181, 74, 13, 45, 229, 122, 159, 147, 201, 156, 239, 160, 224, 59, 77, 174, 42, 245, 176, 200, 235, 187, 60, 131, 83, 153, 97, 23, 43, 4, 126, 186, 119, 214, 38, 225, 105, 20, 99, 85, 33, 12, 125]
def gTc : Nat → String := fun k => match k with
  | 0 => "CryptRows"
  | 1 => "CryptRows$Small"
  | 2 => "CryptRows$Small"
  | 3 => "CryptRows$Great"
  | 4 => "CryptRows$Great"
  | 5 => "CryptRows$Blocks"
  | _ => "CryptRows$Blocks"
def gTn : Nat → String := fun k => match k with
  | 0 => "FILL"
  | 1 => "SINES"
  | 2 => "TURNS"
  | 3 => "ROOTS"
  | 4 => "FIRST"
  | 5 => "SUBSTITUTES"
  | _ => "ORIGINALS"
def gTv : Nat → List Int32 := fun k => match k with
  | 0 => gT0
  | 1 => gT1
  | 2 => gT2
  | 3 => gT3
  | 4 => gT4
  | 5 => gT5
  | _ => gT6
def gTl : Nat → Nat := fun k => match k with
  | 0 => 32
  | 1 => 64
  | 2 => 16
  | 3 => 64
  | 4 => 8
  | 5 => 256
  | _ => 256
def gTf (k : Nat) : Nat → Int32 := fun j => (gTv k).getD j 0
/-- classes' numbers, the int array's class, the Row array's class, the static tables' cells -/
abbrev gE : Type := va_G × ClassId × ClassId × (Nat → Nat)
abbrev gTys (E : gE) : List (ClassId × FieldType) := [(E.2.1, .int), (E.2.2.1, .object RX5)]
def gNW (U : State) : Prop := ∀ w ∈ gNest, va_Nw w U
theorem gNest_tab : ∀ w ∈ gNest, w.onTables = true := by decide +kernel
def gST (tb : Nat → Nat) (A : Nat → Prop) (U : State) (H : Heap) : Prop := ∀ k, k < 7 → va_Z (gTc k) (gTn k) "[I" (.ref (tb k)) A U H ∧ va_T .int (tb k) (gTl k) (fun j => .int (gTf k j)) A U H
def gEV (E : gE) (A : Nat → Prop) (U : State) (H : Heap) : Prop := va_K E.1 vwCl (gTys E) U ∧ gNW U ∧ gST E.2.2.2 A U H
theorem gNW.moved {s U : State} (hW : s.WarmedH U.vm) (h : gNW s) : gNW U := by
  intro w hw
  have h1 := h w hw
  have hf : (gNest.all fun w => match w with | .fieldLinkNest .. => true | .methodLinkNest .. => true | .declares .. => true | _ => false) = true := by decide +kernel
  have h2 := List.all_eq_true.mp hf w hw
  cases w with
  | fieldLinkNest a i b n d g => exact va_Nw.warmF hW h1
  | methodLinkNest a i x g => exact va_Nw.warmM hW h1
  | declares x => exact va_Nw.warmD hW h1
  | _ => simp at h2
theorem gNW.same {u U : State} (hv : u.vm = U.vm) (h : gNW u) : gNW U := fun w hw => va_Nw.same (gNest_tab w hw) hv (h w hw)
theorem gEV.call {E : gE} {A B : Nat → Prop} {s U : State} {H : Heap} {locs : List Loc} (h : gEV E A s s.heap) (hS : va_S A s.heap H locs) (hAB : ∀ q, B q → A q) (hU : U.heap = H) (hW : s.WarmedH U.vm) : gEV E B U U.heap := by
  subst hU
  refine ⟨va_K.moved hW.alike h.1, gNW.moved hW h.2.1, fun k hk => ?_⟩
  obtain ⟨h1, h2⟩ := h.2.2 k hk
  exact ⟨((va_Z.moved hW.alike h1).kept hS.2.1).narrow hAB, ((va_T.moved hW.alike h2).kept hS.2.1).narrow hAB⟩
def gPc (E : gE) (av : List Value) (ws : va_W) (sz : Nat) : Array Value → State → Prop := va_Pc av (fun U => U.heap.size = sz ∧ va_P E.1 vwCl ws U.heap ∧ gEV E (va_A ws sz) U U.heap ∧ va_D (fun _ => True) ws)
theorem gPc.blind {E : gE} {av : List Value} {ws : va_W} {sz : Nat} : FrameBlind (gPc E av ws sz) := by
  intro a U g mk q
  obtain ⟨q0, q1, qP, qV, qD⟩ := q
  refine ⟨q0, q1, qP, ⟨va_K.moved (u := U) (U := U.calling g mk a) (Vm.Alike.refl U.vm) qV.1, gNW.same (u := U) (U := U.calling g mk a) rfl qV.2.1, fun k hk => ?_⟩, qD⟩
  obtain ⟨h1, h2⟩ := qV.2.2 k hk
  exact ⟨va_Z.moved (u := U) (U := U.calling g mk a) (Vm.Alike.refl U.vm) h1, va_T.moved (u := U) (U := U.calling g mk a) (Vm.Alike.refl U.vm) h2⟩
def gB (E : gE) (A : Nat → Prop) (ws : va_W) (t : State) : Prop := va_P E.1 vwCl ws t.heap ∧ va_D A ws
/-- contracts: y answers rv (an int; nothing; a cell), and the cells ws become ws' u, where post u -/
abbrev gMi (E : gE) (l : Launch) (y : MethodName) (wy : List Cond) (rm : Room) (mc ms : Nat) (av : List Value) (ws : va_W) {S : Type} (post : Int32 → S → Prop) (ws' : S → va_W) : Prop := ∀ sz : Nat, Met l y wy rm (gPc E av ws sz) (va_Qi post (fun u t => gB E (va_A ws sz) (ws' u) t) (va_A ws sz)) mc ms (va_A ws sz)
abbrev gMv (E : gE) (l : Launch) (y : MethodName) (wy : List Cond) (rm : Room) (mc ms : Nat) (av : List Value) (ws : va_W) {S : Type} (post : S → Prop) (ws' : S → va_W) : Prop := ∀ sz : Nat, Met l y wy rm (gPc E av ws sz) (va_Qv post (fun u t => gB E (va_A ws sz) (ws' u) t) (va_A ws sz)) mc ms (va_A ws sz)
abbrev gMr (E : gE) (l : Launch) (y : MethodName) (wy : List Cond) (rm : Room) (mc ms : Nat) (av : List Value) (ws : va_W) (rv : Nat) {S : Type} (post : S → Prop) (ws' : S → va_W) : Prop := ∀ sz : Nat, Met l y wy rm (gPc E av ws sz) (va_Qr post (fun u a t => a = rv ∧ gB E (va_A ws sz) (ws' u) t) (va_A ws sz)) mc ms (va_A ws sz)
section GCALL
variable {p : Program} {l : Launch} {e : Env} {R : Room} {s : State} {m : MethodId} {args : Array Value} {below : List Frame} {meth : Method} {c : Code} {H : Heap} {locs : List Loc} {cells slots : Nat} {Q : State → Prop} {pc : Nat} {ls : Array Slot} {E : gE} {A : Nat → Prop} {ws wc wr : va_W} {cc bytes : ByteArray} {nL maxL index n mc ms : Nat} {own C : String} {y : MethodName} {ret : Option FieldType} {Ts wy : List Cond} {rm : Room} {b : Nat} {As rest st : List Value} {lv : List (Nat × Value)}
theorem gPreV (hV : gEV E A s s.heap) (hP : va_P E.1 vwCl ws H) (hD : va_D A ws) (hS : va_S A s.heap H locs) (hA : ∀ q, s.heap.size ≤ q → A q) (isC : List Nat) (hC : isC.map (fun i => ws[i]?) = wc.map some) (hC2 : isC.filterMap (fun i => ws[i]?) = wc) (hn : va_nd isC = true) (q0 ci : Nat) {q : vw_C} {fs : List Value} (hci : vwCl[ci]? = some q) (he : wc[q0]? = some (b, .inr (ci, fs))) (hq : q.1 = C) {av : List Value} (hav : av = .ref b :: As) : PreV s H C b (gPc E av wc H.size) As := by
  subst hav
  have hPc := hP.sub (ws' := wc) isC hC2
  have hDc := hD.sub (ws' := wc) isC hn hC
  have hFc := va_free (wc := wc) hD hS hA isC hC
  refine ⟨gPc.blind, ?_, fun U hU hW => ⟨rfl, by rw [hU], by rw [hU]; exact hPc, hV.call hS (fun q h => hFc q h) hU hW, hDc.weaken (fun _ _ _ _ => trivial)⟩⟩
  rw [← hq]
  exact va_recv hV.1 hPc hci he
theorem gPreS (hV : gEV E A s s.heap) (hP : va_P E.1 vwCl ws H) (hD : va_D A ws) (hS : va_S A s.heap H locs) (hA : ∀ q, s.heap.size ≤ q → A q) (isC : List Nat) (hC : isC.map (fun i => ws[i]?) = wc.map some) (hC2 : isC.filterMap (fun i => ws[i]?) = wc) (hn : va_nd isC = true) : PreS s H (gPc E As wc H.size) As := by
  have hPc := hP.sub (ws' := wc) isC hC2
  have hDc := hD.sub (ws' := wc) isC hn hC
  have hFc := va_free (wc := wc) hD hS hA isC hC
  exact ⟨gPc.blind, fun U hU hW => ⟨rfl, by rw [hU], by rw [hU]; exact hPc, hV.call hS (fun q h => hFc q h) hU hW, hDc.weaken (fun _ _ _ _ => trivial)⟩⟩
/-- behind a call: the rest of the cells beside what came back -/
theorem gBack_i {S : Type} {post : Int32 → S → Prop} {w1 : S → va_W} {a : Array Value} (hP : va_P E.1 vwCl ws H) (hD : va_D A ws) (hS : va_S A s.heap H locs) (hA : ∀ q, s.heap.size ≤ q → A q) (isC isR : List Nat) (hC : isC.map (fun i => ws[i]?) = wc.map some) (hR : isR.map (fun i => ws[i]?) = wr.map some) (hnR : va_nd isR = true) (hdis : ∀ i ∈ isR, i ∉ isC)
    (hr : va_Run p l e R s m args below meth c H locs cells slots mc ms (F0 m pc ls st) rest (va_Qi post (fun u t => gB E (va_A wc H.size) (w1 u) t) (va_A wc H.size) a) (va_A wc H.size))
    (kk : ∀ (r : Int32) (u : S) (H1 : Heap) (locs1 : List Loc), post r u → va_P E.1 vwCl (wr ++ w1 u) H1 → va_D A (wr ++ w1 u) → va_S A s.heap H1 locs1 → W p l e R s m args below meth c H1 locs1 (cells + mc) (slots + ms) Q (F0 m (pc + 3) ls (.int r :: rest))) : W p l e R s m args below meth c H locs cells slots Q (F0 m pc ls st) := by
  have hFc := va_free (wc := wc) hD hS hA isC hC
  refine va_calli hr hS (fun q _ h => hFc q h) (fun q h => hFc q h) (fun r u t H1 locs1 ht hvm hw hB hz1 hk1 hS1 => ?_)
  obtain ⟨hP1, hD1⟩ := hB
  rw [ht] at hP1
  obtain ⟨hP2, hD2⟩ := va_join (wr := wr) (w1 := w1 u) hP hD isC isR hC hR hnR hdis hk1 hFc hP1 hD1
  exact kk r u H1 locs1 hw hP2 hD2 hS1
theorem gBack_v {S : Type} {post : S → Prop} {w1 : S → va_W} {a : Array Value} (hP : va_P E.1 vwCl ws H) (hD : va_D A ws) (hS : va_S A s.heap H locs) (hA : ∀ q, s.heap.size ≤ q → A q) (isC isR : List Nat) (hC : isC.map (fun i => ws[i]?) = wc.map some) (hR : isR.map (fun i => ws[i]?) = wr.map some) (hnR : va_nd isR = true) (hdis : ∀ i ∈ isR, i ∉ isC)
    (hr : va_Run p l e R s m args below meth c H locs cells slots mc ms (F0 m pc ls st) rest (va_Qv post (fun u t => gB E (va_A wc H.size) (w1 u) t) (va_A wc H.size) a) (va_A wc H.size))
    (kk : ∀ (u : S) (H1 : Heap) (locs1 : List Loc), post u → va_P E.1 vwCl (wr ++ w1 u) H1 → va_D A (wr ++ w1 u) → va_S A s.heap H1 locs1 → W p l e R s m args below meth c H1 locs1 (cells + mc) (slots + ms) Q (F0 m (pc + 3) ls rest)) : W p l e R s m args below meth c H locs cells slots Q (F0 m pc ls st) := by
  have hFc := va_free (wc := wc) hD hS hA isC hC
  refine va_callv hr hS (fun q _ h => hFc q h) (fun q h => hFc q h) (fun u t H1 locs1 ht hvm hw hB hz1 hk1 hS1 => ?_)
  obtain ⟨hP1, hD1⟩ := hB
  rw [ht] at hP1
  obtain ⟨hP2, hD2⟩ := va_join (wr := wr) (w1 := w1 u) hP hD isC isR hC hR hnR hdis hk1 hFc hP1 hD1
  exact kk u H1 locs1 hw hP2 hD2 hS1
theorem gBack_r {S : Type} {post : S → Prop} {w1 : S → va_W} {a : Array Value} {rv : Nat} (hP : va_P E.1 vwCl ws H) (hD : va_D A ws) (hS : va_S A s.heap H locs) (hA : ∀ q, s.heap.size ≤ q → A q) (isC isR : List Nat) (hC : isC.map (fun i => ws[i]?) = wc.map some) (hR : isR.map (fun i => ws[i]?) = wr.map some) (hnR : va_nd isR = true) (hdis : ∀ i ∈ isR, i ∉ isC)
    (hr : va_Run p l e R s m args below meth c H locs cells slots mc ms (F0 m pc ls st) rest (va_Qr post (fun u a t => a = rv ∧ gB E (va_A wc H.size) (w1 u) t) (va_A wc H.size) a) (va_A wc H.size))
    (kk : ∀ (u : S) (H1 : Heap) (locs1 : List Loc), post u → va_P E.1 vwCl (wr ++ w1 u) H1 → va_D A (wr ++ w1 u) → va_S A s.heap H1 locs1 → W p l e R s m args below meth c H1 locs1 (cells + mc) (slots + ms) Q (F0 m (pc + 3) ls (.ref rv :: rest))) : W p l e R s m args below meth c H locs cells slots Q (F0 m pc ls st) := by
  have hFc := va_free (wc := wc) hD hS hA isC hC
  refine va_callr hr hS (fun q _ h => hFc q h) (fun q h => hFc q h) (fun u rr t H1 locs1 ht hvm hw hB hz1 hk1 hS1 => ?_)
  obtain ⟨hrr, hP1, hD1⟩ := hB
  subst hrr
  rw [ht] at hP1
  obtain ⟨hP2, hD2⟩ := va_join (wr := wr) (w1 := w1 u) hP hD isC isR hC hR hnR hdis hk1 hFc hP1 hD1
  exact kk u H1 locs1 hw hP2 hD2 hS1
/-- invokevirtual, an int comes back -/
theorem gVi {S : Type} {post : Int32 → S → Prop} {w1 : S → va_W} {av : List Value} (F : CallFix p m c cc nL s args Ts own) (hl : lv_has ls nL lv) (hV : gEV E A s s.heap) (hP : va_P E.1 vwCl ws H) (hD : va_D A ws) (hS : va_S A s.heap H locs) (hA : ∀ q, s.heap.size ≤ q → A q)
    (isC isR : List Nat) (hC : isC.map (fun i => ws[i]?) = wc.map some) (hR : isR.map (fun i => ws[i]?) = wr.map some) (hC2 : isC.filterMap (fun i => ws[i]?) = wc) (hdd : va_nd isC = true ∧ va_nd isR = true ∧ ∀ i ∈ isR, i ∉ isC)
    (q0 ci : Nat) {q : vw_C} {fs : List Value} (hci : vwCl[ci]? = some q) (he : wc[q0]? = some (b, .inr (ci, fs))) (hq : q.1 = C) (hM : gMi E l y wy rm mc ms av wc post w1) (cw : CallW R s args own C index y bytes maxL ret wy rm mc ms n) (hav : av = .ref b :: As) (hn : As.length = n) (hst : st = As.reverse ++ .ref b :: rest) (hcat : (rest.map fun v => v.category).sum ≤ 8) (hdg : decode cc pc = .ok (.invokevirtual index, 3)) (hf : cells + mc ≤ R.cells ∧ slots + ms ≤ R.slots)
    (kk : ∀ (r : Int32) (u : S) (H1 : Heap) (locs1 : List Loc), post r u → va_P E.1 vwCl (wr ++ w1 u) H1 → va_D A (wr ++ w1 u) → va_S A s.heap H1 locs1 → W p l e R s m args below meth c H1 locs1 (cells + mc) (slots + ms) Q (F0 m (pc + 3) ls (.int r :: rest))) : W p l e R s m args below meth c H locs cells slots Q (F0 m pc ls st) := by
  subst hst
  exact gBack_i hP hD hS hA isC isR hC hR hdd.2.1 hdd.2.2 (va_runV F (hM H.size) cw (gPreV hV hP hD hS hA isC hC hC2 hdd.1 q0 ci hci he hq hav) rfl hn hl.1 rfl (lv_room hcat) hdg hf) kk
theorem gVv {S : Type} {post : S → Prop} {w1 : S → va_W} {av : List Value} (F : CallFix p m c cc nL s args Ts own) (hl : lv_has ls nL lv) (hV : gEV E A s s.heap) (hP : va_P E.1 vwCl ws H) (hD : va_D A ws) (hS : va_S A s.heap H locs) (hA : ∀ q, s.heap.size ≤ q → A q)
    (isC isR : List Nat) (hC : isC.map (fun i => ws[i]?) = wc.map some) (hR : isR.map (fun i => ws[i]?) = wr.map some) (hC2 : isC.filterMap (fun i => ws[i]?) = wc) (hdd : va_nd isC = true ∧ va_nd isR = true ∧ ∀ i ∈ isR, i ∉ isC)
    (q0 ci : Nat) {q : vw_C} {fs : List Value} (hci : vwCl[ci]? = some q) (he : wc[q0]? = some (b, .inr (ci, fs))) (hq : q.1 = C) (hM : gMv E l y wy rm mc ms av wc post w1) (cw : CallW R s args own C index y bytes maxL ret wy rm mc ms n) (hav : av = .ref b :: As) (hn : As.length = n) (hst : st = As.reverse ++ .ref b :: rest) (hcat : (rest.map fun v => v.category).sum ≤ 8) (hdg : decode cc pc = .ok (.invokevirtual index, 3)) (hf : cells + mc ≤ R.cells ∧ slots + ms ≤ R.slots)
    (kk : ∀ (u : S) (H1 : Heap) (locs1 : List Loc), post u → va_P E.1 vwCl (wr ++ w1 u) H1 → va_D A (wr ++ w1 u) → va_S A s.heap H1 locs1 → W p l e R s m args below meth c H1 locs1 (cells + mc) (slots + ms) Q (F0 m (pc + 3) ls rest)) : W p l e R s m args below meth c H locs cells slots Q (F0 m pc ls st) := by
  subst hst
  exact gBack_v hP hD hS hA isC isR hC hR hdd.2.1 hdd.2.2 (va_runV F (hM H.size) cw (gPreV hV hP hD hS hA isC hC hC2 hdd.1 q0 ci hci he hq hav) rfl hn hl.1 rfl (lv_room hcat) hdg hf) kk
theorem gVr {S : Type} {post : S → Prop} {w1 : S → va_W} {av : List Value} {rv : Nat} (F : CallFix p m c cc nL s args Ts own) (hl : lv_has ls nL lv) (hV : gEV E A s s.heap) (hP : va_P E.1 vwCl ws H) (hD : va_D A ws) (hS : va_S A s.heap H locs) (hA : ∀ q, s.heap.size ≤ q → A q)
    (isC isR : List Nat) (hC : isC.map (fun i => ws[i]?) = wc.map some) (hR : isR.map (fun i => ws[i]?) = wr.map some) (hC2 : isC.filterMap (fun i => ws[i]?) = wc) (hdd : va_nd isC = true ∧ va_nd isR = true ∧ ∀ i ∈ isR, i ∉ isC)
    (q0 ci : Nat) {q : vw_C} {fs : List Value} (hci : vwCl[ci]? = some q) (he : wc[q0]? = some (b, .inr (ci, fs))) (hq : q.1 = C) (hM : gMr E l y wy rm mc ms av wc rv post w1) (cw : CallW R s args own C index y bytes maxL ret wy rm mc ms n) (hav : av = .ref b :: As) (hn : As.length = n) (hst : st = As.reverse ++ .ref b :: rest) (hcat : (rest.map fun v => v.category).sum ≤ 8) (hdg : decode cc pc = .ok (.invokevirtual index, 3)) (hf : cells + mc ≤ R.cells ∧ slots + ms ≤ R.slots)
    (kk : ∀ (u : S) (H1 : Heap) (locs1 : List Loc), post u → va_P E.1 vwCl (wr ++ w1 u) H1 → va_D A (wr ++ w1 u) → va_S A s.heap H1 locs1 → W p l e R s m args below meth c H1 locs1 (cells + mc) (slots + ms) Q (F0 m (pc + 3) ls (.ref rv :: rest))) : W p l e R s m args below meth c H locs cells slots Q (F0 m pc ls st) := by
  subst hst
  exact gBack_r hP hD hS hA isC isR hC hR hdd.2.1 hdd.2.2 (va_runV F (hM H.size) cw (gPreV hV hP hD hS hA isC hC hC2 hdd.1 q0 ci hci he hq hav) rfl hn hl.1 rfl (lv_room hcat) hdg hf) kk
/-- invokestatic -/
theorem gSi {S : Type} {post : Int32 → S → Prop} {w1 : S → va_W} (F : CallFix p m c cc nL s args Ts own) (hl : lv_has ls nL lv) (hV : gEV E A s s.heap) (hP : va_P E.1 vwCl ws H) (hD : va_D A ws) (hS : va_S A s.heap H locs) (hA : ∀ q, s.heap.size ≤ q → A q)
    (isC isR : List Nat) (hC : isC.map (fun i => ws[i]?) = wc.map some) (hR : isR.map (fun i => ws[i]?) = wr.map some) (hC2 : isC.filterMap (fun i => ws[i]?) = wc) (hdd : va_nd isC = true ∧ va_nd isR = true ∧ ∀ i ∈ isR, i ∉ isC)
    (hM : gMi E l y wy rm mc ms As wc post w1) (cw : CallB R s args own index y bytes maxL ret wy rm mc ms n ∧ (Cond.static y).before args s = true) (hn : As.length = n) (hst : st = As.reverse ++ rest) (hcat : (rest.map fun v => v.category).sum ≤ 8) (hdg : decode cc pc = .ok (.invokestatic index, 3)) (hf : cells + mc ≤ R.cells ∧ slots + ms ≤ R.slots)
    (kk : ∀ (r : Int32) (u : S) (H1 : Heap) (locs1 : List Loc), post r u → va_P E.1 vwCl (wr ++ w1 u) H1 → va_D A (wr ++ w1 u) → va_S A s.heap H1 locs1 → W p l e R s m args below meth c H1 locs1 (cells + mc) (slots + ms) Q (F0 m (pc + 3) ls (.int r :: rest))) : W p l e R s m args below meth c H locs cells slots Q (F0 m pc ls st) := by
  subst hst
  exact gBack_i hP hD hS hA isC isR hC hR hdd.2.1 hdd.2.2 (va_runS F (hM H.size) cw (gPreS hV hP hD hS hA isC hC hC2 hdd.1) rfl hn hl.1 rfl (lv_room hcat) hdg hf) kk
theorem gSv {S : Type} {post : S → Prop} {w1 : S → va_W} (F : CallFix p m c cc nL s args Ts own) (hl : lv_has ls nL lv) (hV : gEV E A s s.heap) (hP : va_P E.1 vwCl ws H) (hD : va_D A ws) (hS : va_S A s.heap H locs) (hA : ∀ q, s.heap.size ≤ q → A q)
    (isC isR : List Nat) (hC : isC.map (fun i => ws[i]?) = wc.map some) (hR : isR.map (fun i => ws[i]?) = wr.map some) (hC2 : isC.filterMap (fun i => ws[i]?) = wc) (hdd : va_nd isC = true ∧ va_nd isR = true ∧ ∀ i ∈ isR, i ∉ isC)
    (hM : gMv E l y wy rm mc ms As wc post w1) (cw : CallB R s args own index y bytes maxL ret wy rm mc ms n ∧ (Cond.static y).before args s = true) (hn : As.length = n) (hst : st = As.reverse ++ rest) (hcat : (rest.map fun v => v.category).sum ≤ 8) (hdg : decode cc pc = .ok (.invokestatic index, 3)) (hf : cells + mc ≤ R.cells ∧ slots + ms ≤ R.slots)
    (kk : ∀ (u : S) (H1 : Heap) (locs1 : List Loc), post u → va_P E.1 vwCl (wr ++ w1 u) H1 → va_D A (wr ++ w1 u) → va_S A s.heap H1 locs1 → W p l e R s m args below meth c H1 locs1 (cells + mc) (slots + ms) Q (F0 m (pc + 3) ls rest)) : W p l e R s m args below meth c H locs cells slots Q (F0 m pc ls st) := by
  subst hst
  exact gBack_v hP hD hS hA isC isR hC hR hdd.2.1 hdd.2.2 (va_runS F (hM H.size) cw (gPreS hV hP hD hS hA isC hC hC2 hdd.1) rfl hn hl.1 rfl (lv_room hcat) hdg hf) kk
end GCALL
