/-! what the class holds -/
/-- a segment of the class -/
def SgR (M : Me) (a : Nat) (g : Sg) : Prop := m_t M a = 7 ∧ gSeg g ∧ m_i M 198 a 0 = nI g.length ∧ (∀ i, i < g.length → m_l M 30 (m_r M 197 a 0) i = Int64.ofNat (v32 (g.getD i []))) ∧ m_z M (m_r M 196 a 0) = (txS g).length ∧ ∀ i, i < (txS g).length → m_i M 40 (m_r M 196 a 0) i = nI ((txS g).getD i 0)
/-- the array of a file's segments -/
def cF (S f : Nat) : Nat := S + (11 + 4 * f)
/-- the parts of a State lie where its constructor laid them -/
def LY (M : Me) (S : Nat) : Prop := (m_t M S = 8 ∧ m_r M 212 S 0 = S + 1 ∧ m_r M 213 S 0 = S + 2 ∧ m_r M 215 S 0 = S + 9 ∧ m_r M 217 S 0 = S + 42 ∧ m_r M 218 S 0 = S + 43 ∧ m_r M 219 S 0 = S + 96 ∧ m_r M 165 (S + 43) 0 = S + 44 ∧ m_r M 167 (S + 43) 0 = S + 85) ∧ (∀ p, p < 6 → m_r M 50 (S + 2) p = cA S 1 p) ∧ (∀ f, f < 8 → m_r M 51 (S + 9) f = cA S 4 f ∧ m_r M 250 (cA S 4 f) 0 = cF S f ∧ m_r M 251 (cA S 4 f) 0 = cA S 9 f ∧ m_r M 252 (cA S 4 f) 0 = cA S 10 f) ∧ (∀ e, e < 40 → m_r M 53 (S + 44) e = cA S 11 e) ∧ ∀ d, d < 10 → m_r M 54 (S + 85) d = cA S 13 d
def CR (M : Me) (S : Nat) (u : Si) : Prop := LY M S ∧ capU u ∧ (∀ k a j, inR u k a j → m_i M (cK k) (cA S k a) j = q_i u k a j) ∧ (m_i M 216 S 0 = nI (n_f u) ∧ m_i M 214 S 0 = nI (n_p u) ∧ m_i M 166 (S + 43) 0 = nI (n_e u) ∧ m_i M 168 (S + 43) 0 = nI (n_d u)) ∧ (∀ f, f < n_f u → m_i M 249 (cA S 4 f) 0 = nI (n_s u f)) ∧ (∀ f s, f < n_f u → s < n_s u f → SgR M (m_r M 52 (cF S f) s) (q_g u 0 f s)) ∧ ∀ e, e < n_e u → SgR M (m_r M 116 (cA S 11 e) 0) (q_g u 1 e 0)
theorem SgR.si {M : Me} {a k x j : Nat} {v : Int32} {g : Sg} (h : SgR M a g) (h1 : k ≠ 198) (h2 : k ≠ 40) : SgR (s_i M k x j v) a g := by
  obtain ⟨a1, a2, a3, a4, a5, a6⟩ := h
  exact ⟨a1, a2, by rw [i_sk (Ne.symm h1)]; exact a3, a4, a5, fun i hi => by rw [i_sk (Ne.symm h2)]; exact a6 i hi⟩
theorem cK_no {k : Nat} (h : k ≤ 17) : cK k ≠ 216 ∧ cK k ≠ 214 ∧ cK k ≠ 166 ∧ cK k ≠ 168 ∧ cK k ≠ 249 ∧ cK k ≠ 198 ∧ cK k ≠ 40 := by
  have : ∀ k : Fin 18, cK k.1 ≠ 216 ∧ cK k.1 ≠ 214 ∧ cK k.1 ≠ 166 ∧ cK k.1 ≠ 168 ∧ cK k.1 ≠ 249 ∧ cK k.1 ≠ 198 ∧ cK k.1 ≠ 40 := by decide
  exact this ⟨k, by omega⟩
theorem i_sx {M : Me} {k x i k2 x2 i2 : Nat} {v : Int32} (h : ¬ (k2 = k ∧ x2 = x ∧ i2 = i)) : m_i (s_i M k x i v) k2 x2 i2 = m_i M k2 x2 i2 := if_neg h
/-- a number that the state speaks of is written -/
theorem CR.put {M : Me} {S k a j : Nat} {u : Si} {v : Int32} (h : CR M S u) (hr : inR u k a j) : CR (s_i M (cK k) (cA S k a) j v) S (u_i u k a j v) := by
  obtain ⟨h1, h2, h3, ⟨h4, h5, h6, h7⟩, h8, h9, h10⟩ := h
  have hc := hr.cp h2
  obtain ⟨n1, n2, n3, n4, n5, n6, n7⟩ := cK_no hc.le
  refine ⟨h1, h2, fun k2 a2 j2 h => ?_, ⟨by rw [i_sk (Ne.symm n1)]; exact h4, by rw [i_sk (Ne.symm n2)]; exact h5, by rw [i_sk (Ne.symm n3)]; exact h6, by rw [i_sk (Ne.symm n4)]; exact h7⟩, fun f hf => by rw [i_sk (Ne.symm n5)]; exact h8 f hf, fun f s hf hs => (h9 f s hf hs).si n6 n7, fun e he => (h10 e he).si n6 n7⟩
  have h' : inR u k2 a2 j2 := h
  by_cases q : k2 = k ∧ a2 = a ∧ j2 = j
  · obtain ⟨rfl, rfl, rfl⟩ := q
    exact (show m_i (s_i M (cK k2) (cA S k2 a2) j2 v) (cK k2) (cA S k2 a2) j2 = v from if_pos ⟨rfl, rfl, rfl⟩).trans (show v = q_i (u_i u k2 a2 j2 v) k2 a2 j2 from (if_pos ⟨rfl, rfl, rfl⟩).symm)
  · rw [i_sx (cA_ne hc (h'.cp h2) q), h3 k2 a2 j2 h']
    exact (if_neg q).symm
/-- a number that the state doesn't speak of is written -/
theorem CR.free {M : Me} {S k a j : Nat} {u : Si} {v : Int32} (h : CR M S u) (hc : cpR k a j) (hr : ¬ inR u k a j) : CR (s_i M (cK k) (cA S k a) j v) S u := by
  obtain ⟨h1, h2, h3, ⟨h4, h5, h6, h7⟩, h8, h9, h10⟩ := h
  obtain ⟨n1, n2, n3, n4, n5, n6, n7⟩ := cK_no hc.le
  refine ⟨h1, h2, fun k2 a2 j2 h => ?_, ⟨by rw [i_sk (Ne.symm n1)]; exact h4, by rw [i_sk (Ne.symm n2)]; exact h5, by rw [i_sk (Ne.symm n3)]; exact h6, by rw [i_sk (Ne.symm n4)]; exact h7⟩, fun f hf => by rw [i_sk (Ne.symm n5)]; exact h8 f hf, fun f s hf hs => (h9 f s hf hs).si n6 n7, fun e he => (h10 e he).si n6 n7⟩
  have hq : ¬ (k2 = k ∧ a2 = a ∧ j2 = j) := fun ⟨q1, q2, q3⟩ => hr (by rw [← q1, ← q2, ← q3]; exact h)
  rw [i_sx (cA_ne hc (h.cp h2) hq)]
  exact h3 k2 a2 j2 h
/-- a write outside the state's cells -/
theorem CR.out {M : Me} {S k x j : Nat} {u : Si} {v : Int32} (h : CR M S u) (hx : x < S ∨ S + 97 ≤ x) (n6 : k ≠ 198) (n7 : k ≠ 40) : CR (s_i M k x j v) S u := by
  obtain ⟨h1, h2, h3, ⟨h4, h5, h6, h7⟩, h8, h9, h10⟩ := h
  refine ⟨h1, h2, fun k2 a2 j2 h => ?_, ⟨by rw [i_sx (fun q => by omega)]; exact h4, by rw [i_sx (fun q => by omega)]; exact h5, by rw [i_sx (fun q => by omega)]; exact h6, by rw [i_sx (fun q => by omega)]; exact h7⟩, fun f hf => ?_, fun f s hf hs => (h9 f s hf hs).si n6 n7, fun e he => (h10 e he).si n6 n7⟩
  · have := cA_lt (S := S) (h.cp h2)
    rw [i_sx (fun q => by omega)]
    exact h3 k2 a2 j2 h
  · have := cA_lt (S := S) (k := 4) (a := f) (j := 0) (Or.inr (Or.inr (Or.inl ⟨by decide, by decide, by have := h2.1; omega, rfl⟩)))
    rw [i_sx (fun q => by omega)]
    exact h8 f hf
