/-! what a State holds, by the paths on which its methods read it -/
/-- the first number below n with a property, or -5 -/
def Fst (p : Nat → Prop) (n : Nat) (r : Int32) : Prop := (∃ e, e < n ∧ p e ∧ (∀ j, j < e → ¬ p j) ∧ r = nI e) ∨ (∀ j, j < n → ¬ p j) ∧ r = -5
/-- the last number below n with a property, or -5 -/
def Lst (p : Nat → Prop) (n : Nat) (r : Int32) : Prop := (∃ e, e < n ∧ p e ∧ (∀ j, j < n → e < j → ¬ p j) ∧ r = nI e) ∨ (∀ j, j < n → ¬ p j) ∧ r = -5
theorem Fst.uniq {p : Nat → Prop} {n : Nat} {r r2 : Int32} (h : Fst p n r) (h2 : Fst p n r2) : r = r2 := by
  rcases h with ⟨e, a1, a2, a3, rfl⟩ | ⟨a1, rfl⟩ <;> rcases h2 with ⟨e2, b1, b2, b3, rfl⟩ | ⟨b1, rfl⟩
  · have : ¬ e < e2 := fun q => b3 e q a2
    have : ¬ e2 < e := fun q => a3 e2 q b2
    rw [show e = e2 by omega]
  · exact absurd a2 (b1 e a1)
  · exact absurd b2 (a1 e2 b1)
  · rfl
theorem Lst.uniq {p : Nat → Prop} {n : Nat} {r r2 : Int32} (h : Lst p n r) (h2 : Lst p n r2) : r = r2 := by
  rcases h with ⟨e, a1, a2, a3, rfl⟩ | ⟨a1, rfl⟩ <;> rcases h2 with ⟨e2, b1, b2, b3, rfl⟩ | ⟨b1, rfl⟩
  · have : ¬ e < e2 := fun q => a3 e2 b1 q b2
    have : ¬ e2 < e := fun q => b3 e a1 q a2
    rw [show e = e2 by omega]
  · exact absurd a2 (b1 e a1)
  · exact absurd b2 (a1 e2 b1)
  · rfl
/-- the path to a file, a person, an entry, a dispute -/
abbrev pF (M : Me) (S f : Nat) : Nat := m_r M 51 (m_r M 215 S 0) f
abbrev pP (M : Me) (S p : Nat) : Nat := m_r M 50 (m_r M 213 S 0) p
abbrev pE (M : Me) (h e : Nat) : Nat := m_r M 53 (m_r M 165 h 0) e
abbrev pD (M : Me) (h d : Nat) : Nat := m_r M 54 (m_r M 167 h 0) d
abbrev pM (M : Me) (S : Nat) : Nat := m_r M 218 S 0
theorem ly_F {M : Me} {S f : Nat} (h : LY M S) (hf : f < 8) : pF M S f = cA S 4 f := by
  obtain ⟨⟨a1, a2, a3, a4, a5, a6, a7, a8, a9⟩, b1, b2, b3, b4⟩ := h
  show m_r M 51 (m_r M 215 S 0) f = _
  rw [a4]; exact (b2 f hf).1
theorem ly_P {M : Me} {S p : Nat} (h : LY M S) (hp : p < 6) : pP M S p = cA S 1 p := by
  obtain ⟨⟨a1, a2, a3, a4, a5, a6, a7, a8, a9⟩, b1, b2, b3, b4⟩ := h
  show m_r M 50 (m_r M 213 S 0) p = _
  rw [a3]; exact b1 p hp
theorem ly_E {M : Me} {S e : Nat} (h : LY M S) (he : e < 40) : pE M (pM M S) e = cA S 11 e := by
  obtain ⟨⟨a1, a2, a3, a4, a5, a6, a7, a8, a9⟩, b1, b2, b3, b4⟩ := h
  show m_r M 53 (m_r M 165 (m_r M 218 S 0) 0) e = _
  rw [a6, a8]; exact b3 e he
theorem ly_D {M : Me} {S d : Nat} (h : LY M S) (hd : d < 10) : pD M (pM M S) d = cA S 13 d := by
  obtain ⟨⟨a1, a2, a3, a4, a5, a6, a7, a8, a9⟩, b1, b2, b3, b4⟩ := h
  show m_r M 54 (m_r M 167 (m_r M 218 S 0) 0) d = _
  rw [a6, a9]; exact b4 d hd
theorem ly_T {M : Me} {S f : Nat} (h : LY M S) (hf : f < 8) : m_r M 251 (pF M S f) 0 = cA S 9 f ∧ m_r M 252 (pF M S f) 0 = cA S 10 f ∧ m_r M 250 (pF M S f) 0 = cF S f := by
  rw [ly_F h hf]
  exact ⟨(h.2.2.1 f hf).2.2.1, (h.2.2.1 f hf).2.2.2, (h.2.2.1 f hf).2.1⟩
/-- a file's numbers -/
theorem CR.f4 {M : Me} {S f : Nat} {u : Si} (h : CR M S u) (hf : f < n_f u) : m_i M 244 (pF M S f) 0 = q_i u 4 f 0 ∧ m_i M 245 (pF M S f) 0 = q_i u 5 f 0 ∧ m_i M 246 (pF M S f) 0 = q_i u 6 f 0 ∧ m_i M 247 (pF M S f) 0 = q_i u 7 f 0 ∧ m_i M 248 (pF M S f) 0 = q_i u 8 f 0 := by
  have h8 : f < 8 := by have := h.2.1.1; omega
  rw [ly_F h.1 h8]
  have g : ∀ k, 4 ≤ k → k ≤ 8 → m_i M (cK k) (cA S k f) 0 = q_i u k f 0 := fun k h1 h2 => h.2.2.1 k f 0 (Or.inr (Or.inr (Or.inl ⟨h1, h2, hf, rfl⟩)))
  exact ⟨g 4 (by decide) (by decide), g 5 (by decide) (by decide), g 6 (by decide) (by decide), g 7 (by decide) (by decide), g 8 (by decide) (by decide)⟩
theorem CR.ft {M : Me} {S f s : Nat} {u : Si} (h : CR M S u) (hf : f < n_f u) (hs : s < n_s u f) : m_i M 24 (m_r M 251 (pF M S f) 0) s = q_i u 9 f s ∧ m_i M 25 (m_r M 252 (pF M S f) 0) s = q_i u 10 f s := by
  have h8 : f < 8 := by have := h.2.1.1; omega
  obtain ⟨t1, t2, t3⟩ := ly_T h.1 h8
  rw [t1, t2]
  exact ⟨h.2.2.1 9 f s (Or.inr (Or.inr (Or.inr (Or.inl ⟨by decide, by decide, hf, hs⟩)))), h.2.2.1 10 f s (Or.inr (Or.inr (Or.inr (Or.inl ⟨by decide, by decide, hf, hs⟩))))⟩
theorem CR.fs {M : Me} {S f : Nat} {u : Si} (h : CR M S u) (hf : f < n_f u) : FS M (pF M S f) (n_s u f) (q_g u 0 f) := by
  have h8 : f < 8 := by have := h.2.1.1; omega
  obtain ⟨t1, t2, t3⟩ := ly_T h.1 h8
  refine ⟨h.2.1.2.2.2.2 f hf, by rw [ly_F h.1 h8]; exact h.2.2.2.2.1 f hf, fun i hi => ?_⟩
  rw [t3]
  exact h.2.2.2.2.2.1 f i hf hi
theorem CR.pe {M : Me} {S p : Nat} {u : Si} (h : CR M S u) (hp : p < n_p u) : m_i M 180 (pP M S p) 0 = q_i u 1 p 0 ∧ m_i M 181 (pP M S p) 0 = q_i u 2 p 0 ∧ m_i M 182 (pP M S p) 0 = q_i u 3 p 0 := by
  have h6 : p < 6 := by have := h.2.1.2.1; omega
  rw [ly_P h.1 h6]
  have g : ∀ k, 1 ≤ k → k ≤ 3 → m_i M (cK k) (cA S k p) 0 = q_i u k p 0 := fun k h1 h2 => h.2.2.1 k p 0 (Or.inr (Or.inl ⟨h1, h2, hp, rfl⟩))
  exact ⟨g 1 (by decide) (by decide), g 2 (by decide) (by decide), g 3 (by decide) (by decide)⟩
theorem CR.en {M : Me} {S e : Nat} {u : Si} (h : CR M S u) (he : e < n_e u) : m_i M 117 (pE M (pM M S) e) 0 = q_i u 11 e 0 ∧ m_i M 118 (pE M (pM M S) e) 0 = q_i u 12 e 0 ∧ SgR M (m_r M 116 (pE M (pM M S) e) 0) (q_g u 1 e 0) := by
  have h4 : e < 40 := by have := h.2.1.2.2.1; omega
  rw [ly_E h.1 h4]
  have g : ∀ k, 11 ≤ k → k ≤ 12 → m_i M (cK k) (cA S k e) 0 = q_i u k e 0 := fun k h1 h2 => h.2.2.1 k e 0 (Or.inr (Or.inr (Or.inr (Or.inr (Or.inl ⟨h1, h2, he, rfl⟩)))))
  exact ⟨g 11 (by decide) (by decide), g 12 (by decide) (by decide), h.2.2.2.2.2.2 e he⟩
theorem CR.di {M : Me} {S d : Nat} {u : Si} (h : CR M S u) (hd : d < n_d u) : m_i M 100 (pD M (pM M S) d) 0 = q_i u 13 d 0 ∧ m_i M 101 (pD M (pM M S) d) 0 = q_i u 14 d 0 ∧ m_i M 102 (pD M (pM M S) d) 0 = q_i u 15 d 0 ∧ m_i M 103 (pD M (pM M S) d) 0 = q_i u 16 d 0 := by
  have h4 : d < 10 := by have := h.2.1.2.2.2.1; omega
  rw [ly_D h.1 h4]
  have g : ∀ k, 13 ≤ k → k ≤ 16 → m_i M (cK k) (cA S k d) 0 = q_i u k d 0 := fun k h1 h2 => h.2.2.1 k d 0 (Or.inr (Or.inr (Or.inr (Or.inr (Or.inr (Or.inl ⟨h1, h2, hd, rfl⟩))))))
  exact ⟨g 13 (by decide) (by decide), g 14 (by decide) (by decide), g 15 (by decide) (by decide), g 16 (by decide) (by decide)⟩
theorem CR.od {M : Me} {S j : Nat} {u : Si} (h : CR M S u) (hj : j < n_f u) : m_i M 21 (m_r M 217 S 0) j = q_i u 17 0 j := by
  rw [h.1.1.2.2.2.2.1]
  exact h.2.2.1 17 0 j (Or.inr (Or.inr (Or.inr (Or.inr (Or.inr (Or.inr ⟨rfl, rfl, hj⟩))))))
theorem CR.sh {M : Me} {S j : Nat} {u : Si} (h : CR M S u) (hj : j < 6) : m_i M 20 (m_r M 212 S 0) j = q_i u 0 0 j := by
  rw [h.1.1.2.1]
  exact h.2.2.1 0 0 j (Or.inl ⟨rfl, rfl, hj⟩)
theorem CR.ne {M : Me} {S : Nat} {u : Si} (h : CR M S u) : m_i M 166 (pM M S) 0 = nI (n_e u) ∧ m_i M 168 (pM M S) 0 = nI (n_d u) := by
  show m_i M 166 (m_r M 218 S 0) 0 = _ ∧ m_i M 168 (m_r M 218 S 0) 0 = _
  rw [h.1.1.2.2.2.2.2.1]
  exact ⟨h.2.2.2.1.2.2.1, h.2.2.2.1.2.2.2⟩
/-- a Memory's entries -/
def ES (M : Me) (h n : Nat) (es : Nat → Sg) : Prop := n ≤ 40 ∧ m_i M 166 h 0 = nI n ∧ ∀ e, e < n → SgR M (m_r M 116 (pE M h e) 0) (es e)
theorem CR.es {M : Me} {S : Nat} {u : Si} (h : CR M S u) : ES M (pM M S) (n_e u) (fun e => q_g u 1 e 0) := ⟨h.2.1.2.2.1, h.ne.1, fun e he => (h.en he).2.2⟩
