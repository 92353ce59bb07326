theorem rowR.said {n : Nat} {q : gRow} {g : Nat → Int32} {c : Nat} (h : rowR n q g c) (msg : Nat → Int32) (hn : n < 2147483648) : rowR n q (F_X11_sayRow 0 msg g 0 c).2 (F_X11_sayRow 0 msg g 0 c).1 := by
  obtain ⟨s1, s2⟩ := say0_eq (msg := msg) h hn
  have h2 := h.congr (fun k hk => (s2 k hk).symm)
  exact ⟨by rw [s1]; exact h2.1, by rw [s1]; exact h2.2.1, fun k hk => h2.2.2 k (by omega)⟩
theorem i32_2 {x : Int32} (h0 : ¬ x = 0) (h1 : ¬ x = 1) : x < 0 ∨ 1 < x := by
  have e0 : ¬ x.toInt = 0 := fun q => h0 (Int32.toInt_inj.mp q)
  have e1 : ¬ x.toInt = 1 := fun q => h1 (Int32.toInt_inj.mp q)
  rw [Int32.lt_iff_toInt_lt, Int32.lt_iff_toInt_lt]
  have : (0 : Int32).toInt = 0 := rfl
  have : (1 : Int32).toInt = 1 := rfl
  omega
theorem i32_ng1 {x : Int32} (h : 1 < x) : ¬ x < 0 := by
  rw [Int32.lt_iff_toInt_lt] at h ⊢
  have : (0 : Int32).toInt = 0 := rfl
  have : (1 : Int32).toInt = 1 := rfl
  omega
