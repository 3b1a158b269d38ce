theorem ix_q {x : Int32} {z N j : Nat} (hz : z = N) (e : x = nI j) (hj : j < N := by decide) (hN : N < 2 ^ 31 := by decide) : ix x z j := by subst hz; exact ix_e e hj hN
theorem no_in {x y : Int32} (h : 0 ≤ x ∧ x ≤ y) (hy : y < 0) : False := by
  obtain ⟨h1, h2⟩ := h
  rw [Int32.le_iff_toInt_le] at h1 h2
  rw [Int32.lt_iff_toInt_lt] at hy
  omega
theorem i_05 {x : Int32} (h : 0 ≤ x ∧ x ≤ 5) : x = 0 ∨ x = 1 ∨ x = 2 ∨ x = 3 ∨ x = 4 ∨ x = 5 := by
  obtain ⟨h1, h2⟩ := h
  rw [Int32.le_iff_toInt_le] at h1 h2
  have e0 : (0 : Int32).toInt = 0 := rfl
  have e5 : (5 : Int32).toInt = 5 := rfl
  rw [e0] at h1
  rw [e5] at h2
  have c : x.toInt = 0 ∨ x.toInt = 1 ∨ x.toInt = 2 ∨ x.toInt = 3 ∨ x.toInt = 4 ∨ x.toInt = 5 := by omega
  rcases c with c | c | c | c | c | c
  · exact Or.inl (Int32.toInt_inj.mp c)
  · exact Or.inr (Or.inl (Int32.toInt_inj.mp c))
  · exact Or.inr (Or.inr (Or.inl (Int32.toInt_inj.mp c)))
  · exact Or.inr (Or.inr (Or.inr (Or.inl (Int32.toInt_inj.mp c))))
  · exact Or.inr (Or.inr (Or.inr (Or.inr (Or.inl (Int32.toInt_inj.mp c)))))
  · exact Or.inr (Or.inr (Or.inr (Or.inr (Or.inr (Int32.toInt_inj.mp c)))))
theorem i_lt6 {x : Int32} (h : x ≤ 5) : x < 6 := by
  rw [Int32.lt_iff_toInt_lt]
  rw [Int32.le_iff_toInt_le] at h
  have e6 : (6 : Int32).toInt = 6 := rfl
  have e5 : (5 : Int32).toInt = 5 := rfl
  omega
theorem i_le5 {x : Int32} (h : x < 6) : x ≤ 5 := by
  rw [Int32.le_iff_toInt_le]
  rw [Int32.lt_iff_toInt_lt] at h
  have e6 : (6 : Int32).toInt = 6 := rfl
  have e5 : (5 : Int32).toInt = 5 := rfl
  omega
theorem i_out {x a b : Int32} (h : a ≤ x ∧ x ≤ b) (ho : x.toInt < 0 ∨ 16 < x.toInt) (ha : (0 : Int32) ≤ a) (hb : b ≤ (16 : Int32)) : False := by
  obtain ⟨h1, h2⟩ := h
  rw [Int32.le_iff_toInt_le] at h1 h2 ha hb
  have e0 : (0 : Int32).toInt = 0 := rfl
  have e16 : (16 : Int32).toInt = 16 := rfl
  omega
theorem l_sk {M : Me} {k a j : Nat} {v : Int64} {k2 b i : Nat} (h : k2 ≠ k) : m_l (s_l M k a j v) k2 b i = m_l M k2 b i := if_neg (fun q => h q.1)
