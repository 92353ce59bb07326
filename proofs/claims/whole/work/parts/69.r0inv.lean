/-! the boxes: inverses by products -/
def ivT : Nat := 3566776863222250792575350504665046155069508327501453217101429430621730038043584053371660509702620055860081156466022285956586373576971909210171343659649552507176508005971567067637526818336653057460235767741581454534757369738530565771380035673162616129401273381134793422969875859516904113580246491480877823305346558232134899738800022074717406919707935282309554844169982325935665249148669134080917255765422589041374844979786301241750162074905253618853420688398165348773793897399659421930346683507413494886767272566548764049417490863269423193139537759588741825434151586758978267398985919305201935175793127681620251050240
def ivN (a : Nat) : Nat := ivT / 256 ^ a % 256
def chkA (a v : Nat) : Nat → Bool
  | 0 => true
  | n + 1 => (Nat.beq (tM a (n + 1)) 1 == Nat.beq (n + 1) v) && chkA a v n
theorem chk_0 : ∀ i : Fin 16, chkA (0 + i.val) (ivN (0 + i.val)) 255 = true := by decide +kernel
theorem chk_1 : ∀ i : Fin 16, chkA (16 + i.val) (ivN (16 + i.val)) 255 = true := by decide +kernel
theorem chk_2 : ∀ i : Fin 16, chkA (32 + i.val) (ivN (32 + i.val)) 255 = true := by decide +kernel
theorem chk_3 : ∀ i : Fin 16, chkA (48 + i.val) (ivN (48 + i.val)) 255 = true := by decide +kernel
theorem chk_4 : ∀ i : Fin 16, chkA (64 + i.val) (ivN (64 + i.val)) 255 = true := by decide +kernel
theorem chk_5 : ∀ i : Fin 16, chkA (80 + i.val) (ivN (80 + i.val)) 255 = true := by decide +kernel
theorem chk_6 : ∀ i : Fin 16, chkA (96 + i.val) (ivN (96 + i.val)) 255 = true := by decide +kernel
theorem chk_7 : ∀ i : Fin 16, chkA (112 + i.val) (ivN (112 + i.val)) 255 = true := by decide +kernel
theorem chk_8 : ∀ i : Fin 16, chkA (128 + i.val) (ivN (128 + i.val)) 255 = true := by decide +kernel
theorem chk_9 : ∀ i : Fin 16, chkA (144 + i.val) (ivN (144 + i.val)) 255 = true := by decide +kernel
theorem chk_10 : ∀ i : Fin 16, chkA (160 + i.val) (ivN (160 + i.val)) 255 = true := by decide +kernel
theorem chk_11 : ∀ i : Fin 16, chkA (176 + i.val) (ivN (176 + i.val)) 255 = true := by decide +kernel
theorem chk_12 : ∀ i : Fin 16, chkA (192 + i.val) (ivN (192 + i.val)) 255 = true := by decide +kernel
theorem chk_13 : ∀ i : Fin 16, chkA (208 + i.val) (ivN (208 + i.val)) 255 = true := by decide +kernel
theorem chk_14 : ∀ i : Fin 16, chkA (224 + i.val) (ivN (224 + i.val)) 255 = true := by decide +kernel
theorem chk_15 : ∀ i : Fin 16, chkA (240 + i.val) (ivN (240 + i.val)) 255 = true := by decide +kernel
theorem chk_all (a : Nat) (ha : a < 256) : chkA a (ivN a) 255 = true := by
  by_cases h0 : a < 16
  · have h := chk_0 ⟨a - 0, by omega⟩
    simp only [show 0 + (a - 0) = a by omega] at h
    exact h
  by_cases h1 : a < 32
  · have h := chk_1 ⟨a - 16, by omega⟩
    simp only [show 16 + (a - 16) = a by omega] at h
    exact h
  by_cases h2 : a < 48
  · have h := chk_2 ⟨a - 32, by omega⟩
    simp only [show 32 + (a - 32) = a by omega] at h
    exact h
  by_cases h3 : a < 64
  · have h := chk_3 ⟨a - 48, by omega⟩
    simp only [show 48 + (a - 48) = a by omega] at h
    exact h
  by_cases h4 : a < 80
  · have h := chk_4 ⟨a - 64, by omega⟩
    simp only [show 64 + (a - 64) = a by omega] at h
    exact h
  by_cases h5 : a < 96
  · have h := chk_5 ⟨a - 80, by omega⟩
    simp only [show 80 + (a - 80) = a by omega] at h
    exact h
  by_cases h6 : a < 112
  · have h := chk_6 ⟨a - 96, by omega⟩
    simp only [show 96 + (a - 96) = a by omega] at h
    exact h
  by_cases h7 : a < 128
  · have h := chk_7 ⟨a - 112, by omega⟩
    simp only [show 112 + (a - 112) = a by omega] at h
    exact h
  by_cases h8 : a < 144
  · have h := chk_8 ⟨a - 128, by omega⟩
    simp only [show 128 + (a - 128) = a by omega] at h
    exact h
  by_cases h9 : a < 160
  · have h := chk_9 ⟨a - 144, by omega⟩
    simp only [show 144 + (a - 144) = a by omega] at h
    exact h
  by_cases h10 : a < 176
  · have h := chk_10 ⟨a - 160, by omega⟩
    simp only [show 160 + (a - 160) = a by omega] at h
    exact h
  by_cases h11 : a < 192
  · have h := chk_11 ⟨a - 176, by omega⟩
    simp only [show 176 + (a - 176) = a by omega] at h
    exact h
  by_cases h12 : a < 208
  · have h := chk_12 ⟨a - 192, by omega⟩
    simp only [show 192 + (a - 192) = a by omega] at h
    exact h
  by_cases h13 : a < 224
  · have h := chk_13 ⟨a - 208, by omega⟩
    simp only [show 208 + (a - 208) = a by omega] at h
    exact h
  by_cases h14 : a < 240
  · have h := chk_14 ⟨a - 224, by omega⟩
    simp only [show 224 + (a - 224) = a by omega] at h
    exact h
  by_cases h15 : a < 256
  · have h := chk_15 ⟨a - 240, by omega⟩
    simp only [show 240 + (a - 240) = a by omega] at h
    exact h
  omega
