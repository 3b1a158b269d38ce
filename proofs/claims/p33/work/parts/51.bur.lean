/-! the bureau: its state, history, snapshot and text -/
abbrev Xs := Si × (Nat × (Nat → Si)) × (Int32 × Si)
abbrev x_u (x : Xs) : Si := x.1
abbrev x_n (x : Xs) : Nat := x.2.1.1
abbrev x_h (x : Xs) : Nat → Si := x.2.1.2
abbrev x_f (x : Xs) : Int32 := x.2.2.1
abbrev x_s (x : Xs) : Si := x.2.2.2
/-- where its parts lie -/
def BK (M : Me) (h n : Nat) : Prop := (m_t M h = 11 ∧ m_t M (n + 5) = 9 ∧ m_t M (n + 6) = 41 ∧ m_t M (n + 201) = 3 ∧ m_t M (n + 202) = 55 ∧ h < n ∧ n + 591 ≤ m_n M) ∧ (m_r M 260 h 0 = n + 5 ∧ m_r M 261 h 0 = n + 7 ∧ m_r M 262 h 0 = n + 104 ∧ m_r M 263 h 0 = n + 201 ∧ m_r M 228 (n + 5) 0 = n + 6 ∧ m_r M 132 (n + 201) 0 = n + 202) ∧ (LY M (n + 7) ∧ LY M (n + 104) ∧ ∀ i, i < 4 → LY M (n + (203 + 97 * i))) ∧ (∀ j, j < 4 → ∃ i, i < 4 ∧ m_r M 55 (n + 202) j = n + (203 + 97 * i)) ∧ ∀ j j2, j < 4 → j2 < 4 → m_r M 55 (n + 202) j = m_r M 55 (n + 202) j2 → j = j2
def BR (M : Me) (h n : Nat) (x : Xs) : Prop := BK M h n ∧ CR M (n + 7) (x_u x) ∧ (x_n x ≤ 4 ∧ m_i M 133 (n + 201) 0 = nI (x_n x) ∧ ∀ j, j < x_n x → CR M (m_r M 55 (n + 202) j) (x_h x j)) ∧ m_i M 264 h 0 = x_f x ∧ (x_f x = 0 ∨ x_f x = 1) ∧ (x_f x = 1 → CR M (n + 104) (x_s x))
def TX (M : Me) (n t : Nat) (c : Nat → Int32) : Prop := t ≤ 60 ∧ m_i M 229 (n + 5) 0 = nI t ∧ ∀ j, j < t → m_i M 41 (n + 6) j = c j
/-- what the class doesn't touch -/
def Cf (M M2 : Me) (h n : Nat) : Prop := m_n M ≤ m_n M2 ∧ ∀ a, a < m_n M → m_t M2 a = m_t M a ∧ m_z M2 a = m_z M a ∧ (∀ k j, m_l M2 k a j = m_l M k a j) ∧ (a ≠ h → (a < n ∨ n + 591 ≤ a) → (∀ k j, m_r M2 k a j = m_r M k a j) ∧ ∀ k j, k ≠ 22 → k ≠ 23 → m_i M2 k a j = m_i M k a j)
theorem Cf.rf {M : Me} {h n : Nat} : Cf M M h n := ⟨Nat.le_refl _, fun _ _ => ⟨rfl, rfl, fun _ _ => rfl, fun _ _ => ⟨fun _ _ => rfl, fun _ _ _ _ => rfl⟩⟩⟩
theorem Cf.tr {M M2 M3 : Me} {h n : Nat} (x : Cf M M2 h n) (y : Cf M2 M3 h n) : Cf M M3 h n := by
  refine ⟨Nat.le_trans x.1 y.1, fun a ha => ?_⟩
  obtain ⟨a1, a2, a3, a4⟩ := x.2 a ha
  obtain ⟨b1, b2, b3, b4⟩ := y.2 a (Nat.lt_of_lt_of_le ha x.1)
  refine ⟨b1.trans a1, b2.trans a2, fun k j => (b3 k j).trans (a3 k j), fun h1 h2 => ?_⟩
  obtain ⟨c1, c2⟩ := a4 h1 h2
  obtain ⟨d1, d2⟩ := b4 h1 h2
  exact ⟨fun k j => (d1 k j).trans (c1 k j), fun k j q1 q2 => (d2 k j q1 q2).trans (c2 k j q1 q2)⟩
theorem Rg.cf {M M2 : Me} {h n S : Nat} (r : Rg M M2 S) (h1 : n + 7 ≤ S) (h2 : S + 97 ≤ n + 591) : Cf M M2 h n := ⟨r.1, fun a ha => by
  obtain ⟨a1, a2, a3, a4, a5⟩ := r.2 a ha
  exact ⟨a1, a2, a3, fun _ q => ⟨fun k j => a4 k j (Or.inr (by omega)), fun k j q1 q2 => a5 k j (Or.inr ⟨⟨q1, q2⟩, by omega⟩)⟩⟩⟩
theorem Bx.cf {M M2 : Me} {h n : Nat} (r : Bx M M2) : Cf M M2 h n := by
  obtain ⟨b, rfl⟩ := r
  exact ⟨Nat.le_refl _, fun a _ => ⟨rfl, rfl, fun _ _ => rfl, fun _ _ => ⟨fun _ _ => rfl, fun k j q1 q2 => sc_i (by omega)⟩⟩⟩
theorem BK.rg {M M2 : Me} {h n S : Nat} (b : BK M h n) (r : Rg M M2 S) (hS : (n + 7 ≤ S ∧ S + 97 ≤ n + 201) ∨ n + 203 ≤ S) : BK M2 h n := by
  obtain ⟨⟨a1, a2, a3, a4, a5, a6, a7⟩, ⟨b1, b2, b3, b4, b5, b6⟩, ⟨c1, c2, c3⟩, d1, d2⟩ := b
  have t : ∀ a, a < n + 591 → m_t M2 a = m_t M a := fun a ha => (r.2 a (by omega)).1
  have q : ∀ k a j, a < n + 7 ∨ a = n + 201 ∨ a = n + 202 → m_r M2 k a j = m_r M k a j := fun k a j ha => (r.2 a (by omega)).2.2.2.1 k j (Or.inr (by omega))
  refine ⟨⟨by rw [t _ (by omega)]; exact a1, by rw [t _ (by omega)]; exact a2, by rw [t _ (by omega)]; exact a3, by rw [t _ (by omega)]; exact a4, by rw [t _ (by omega)]; exact a5, a6, Nat.le_trans a7 r.1⟩, ⟨?_, ?_, ?_, ?_, ?_, ?_⟩, ⟨c1.rg (by omega) r, c2.rg (by omega) r, fun i hi => (c3 i hi).rg (by omega) r⟩, fun j hj => ?_, fun j j2 hj hj2 e => ?_⟩
  · rw [q _ _ _ (by omega)]; exact b1
  · rw [q _ _ _ (by omega)]; exact b2
  · rw [q _ _ _ (by omega)]; exact b3
  · rw [q _ _ _ (by omega)]; exact b4
  · rw [q _ _ _ (by omega)]; exact b5
  · rw [q _ _ _ (by omega)]; exact b6
  · rw [q _ _ _ (by omega)]; exact d1 j hj
  · rw [q _ _ _ (by omega), q _ _ _ (by omega)] at e; exact d2 j j2 hj hj2 e
theorem TX.rg {M M2 : Me} {n S t : Nat} {c : Nat → Int32} (x : TX M n t c) (hn : n + 591 ≤ m_n M) (r : Rg M M2 S) (hS : n + 7 ≤ S) : TX M2 n t c := by
  obtain ⟨h1, h2, h3⟩ := x
  refine ⟨h1, ?_, fun j hj => ?_⟩
  · rw [(r.2 (n + 5) (by omega)).2.2.2.2 229 0 (Or.inr ⟨by decide, by omega⟩)]; exact h2
  · rw [(r.2 (n + 6) (by omega)).2.2.2.2 41 j (Or.inr ⟨by decide, by omega⟩)]; exact h3 j hj
/-- the state is written -/
theorem BR.now {M M2 : Me} {h n : Nat} {x : Xs} {u : Si} (b : BR M h n x) (nw : Nw M) (hW : Wt M) (r : Rg M M2 (n + 7)) (hu : CR M2 (n + 7) u) : BR M2 h n (u, x.2) := by
  obtain ⟨b1, b2, ⟨b3, b4, b5⟩, b6, b7, b8⟩ := b
  have hn := b1.1.2.2.2.2.2.2
  have hh := b1.1.2.2.2.2.2.1
  have q : ∀ k a j, a < n + 7 ∨ a = n + 201 ∨ a = n + 202 → m_r M2 k a j = m_r M k a j := fun k a j ha => (r.2 a (by omega)).2.2.2.1 k j (Or.inr (by omega))
  have i : ∀ k a j, k ≠ 22 ∧ k ≠ 23 → a < n + 7 ∨ a = n + 201 ∨ a = n + 202 → m_i M2 k a j = m_i M k a j := fun k a j hk ha => (r.2 a (by omega)).2.2.2.2 k j (Or.inr ⟨hk, by omega⟩)
  refine ⟨b1.rg r (Or.inl ⟨Nat.le_refl _, by omega⟩), hu, ⟨b3, ?_, fun j hj => ?_⟩, ?_, b7, fun e => ?_⟩
  · rw [i _ _ _ (by decide) (by omega)]; exact b4
  · rw [q _ _ _ (by omega)]
    obtain ⟨i2, hi2, e2⟩ := b1.2.2.2.1 j (Nat.lt_of_lt_of_le hj b3)
    have := b5 j hj
    rw [e2] at this ⊢
    exact this.far nw hW (by omega) (by omega) r
  · rw [i _ _ _ (by decide) (by omega)]; exact b6
  · exact (b8 e).far nw hW (by omega) (by omega) r
/-- the snapshot is written -/
theorem BR.snap {M M2 : Me} {h n : Nat} {x : Xs} {u : Si} (b : BR M h n x) (nw : Nw M) (hW : Wt M) (r : Rg M M2 (n + 104)) (hu : CR M2 (n + 104) u) : BR (s_i M2 264 h 0 1) h n (x.1, x.2.1, 1, u) := by
  obtain ⟨b1, b2, ⟨b3, b4, b5⟩, b6, b7, b8⟩ := b
  have hn := b1.1.2.2.2.2.2.2
  have hh := b1.1.2.2.2.2.2.1
  have q : ∀ k a j, a < n + 7 ∨ a = n + 201 ∨ a = n + 202 → m_r M2 k a j = m_r M k a j := fun k a j ha => (r.2 a (by omega)).2.2.2.1 k j (Or.inr (by omega))
  have i : ∀ k a j, k ≠ 22 ∧ k ≠ 23 → a < n + 7 ∨ a = n + 201 ∨ a = n + 202 → m_i M2 k a j = m_i M k a j := fun k a j hk ha => (r.2 a (by omega)).2.2.2.2 k j (Or.inr ⟨hk, by omega⟩)
  refine ⟨show BK M2 h n from b1.rg r (Or.inl ⟨by omega, by omega⟩), (b2.far nw hW (by omega) (by omega) r).out (by omega) (by decide) (by decide), ⟨b3, ?_, fun j hj => ?_⟩, i_se, Or.inr rfl, fun e => hu.out (by omega) (by decide) (by decide)⟩
  · rw [i_sk (by decide), i _ _ _ (by decide) (by omega)]; exact b4
  · show CR _ (m_r M2 55 (n + 202) j) _
    rw [q _ _ _ (by omega)]
    obtain ⟨i2, hi2, e2⟩ := b1.2.2.2.1 j (Nat.lt_of_lt_of_le hj b3)
    have := b5 j hj
    rw [e2] at this ⊢
    exact (this.far nw hW (by omega) (by omega) r).out (by omega) (by decide) (by decide)
/-- one more state of the history -/
def pushX0 (x : Xs) : Xs := (x.1, (x_n x + 1, fun j => if j = x_n x then x_u x else x_h x j), x.2.2)
def dropX (x : Xs) : Xs := (x.1, (3, fun j => x_h x (j + 1)), x.2.2)
def pushX (x : Xs) : Xs := if x_n x < 4 then pushX0 x else pushX0 (dropX x)
theorem BR.push {M M2 : Me} {h n : Nat} {x : Xs} (b : BR M h n x) (nw : Nw M) (hW : Wt M) (hk : x_n x < 4) (r : Rg M M2 (m_r M 55 (n + 202) (x_n x))) (hu : CR M2 (m_r M 55 (n + 202) (x_n x)) (x_u x)) : BR (s_i M2 133 (n + 201) 0 (nI (x_n x + 1))) h n (pushX0 x) := by
  obtain ⟨b1, b2, ⟨b3, b4, b5⟩, b6, b7, b8⟩ := b
  have hn := b1.1.2.2.2.2.2.2
  have hh := b1.1.2.2.2.2.2.1
  obtain ⟨i0, hi0, e0⟩ := b1.2.2.2.1 (x_n x) hk
  have d2 := b1.2.2.2.2
  rw [e0] at r hu
  have q : ∀ k a j, a < n + 7 ∨ a = n + 201 ∨ a = n + 202 → m_r M2 k a j = m_r M k a j := fun k a j ha => (r.2 a (by omega)).2.2.2.1 k j (Or.inr (by omega))
  have i : ∀ k a j, k ≠ 22 ∧ k ≠ 23 → a < n + 7 ∨ a = n + 201 ∨ a = n + 202 → m_i M2 k a j = m_i M k a j := fun k a j hk ha => (r.2 a (by omega)).2.2.2.2 k j (Or.inr ⟨hk, by omega⟩)
  refine ⟨show BK M2 h n from b1.rg r (Or.inr (by omega)), (b2.far nw hW (by omega) (by omega) r).out (by omega) (by decide) (by decide), ⟨hk, i_se, fun j hj => ?_⟩, ?_, b7, fun e => ((b8 e).far nw hW (by omega) (by omega) r).out (by omega) (by decide) (by decide)⟩
  · show CR _ (m_r M2 55 (n + 202) j) (if j = x_n x then x_u x else x_h x j)
    rw [q _ _ _ (by omega)]
    have hj' : j < x_n x + 1 := hj
    by_cases w : j = x_n x
    · rw [if_pos w, w, e0]; exact hu.out (by omega) (by decide) (by decide)
    · rw [if_neg w]
      obtain ⟨i2, hi2, e2⟩ := b1.2.2.2.1 j (by omega)
      have hne : i2 ≠ i0 := fun z => w (d2 j (x_n x) (by omega) hk (by rw [e2, e0, z]))
      have := b5 j (by omega)
      rw [e2] at this ⊢
      exact (this.far nw hW (by omega) (by omega) r).out (by omega) (by decide) (by decide)
  · rw [i_sk (by decide), i _ _ _ (by decide) (by omega)]; exact b6
theorem Wt.s55 {M : Me} {a j x : Nat} (h : Wt M) (hx : m_t M x = 8) : Wt (s_r M 55 a j x) := by
  obtain ⟨w1, w2, w3, w4⟩ := h
  refine ⟨fun q hq b hb => ?_, w2, fun q hq b hb i hi => ?_, w4⟩
  · have e := w1 q hq b hb
    have h1 : ∀ y ∈ tgF, y.2.1 ≠ 55 := by decide
    rw [show m_r (s_r M 55 a j x) q.2.1 b 0 = m_r M q.2.1 b 0 from if_neg (fun z => h1 q hq z.1)]; exact e
  · have e := w3 q hq b hb i hi
    by_cases z : q.1 = 55 ∧ b = a ∧ i = j
    · have h1 : ∀ y ∈ tgE, y.1 = 55 → y.2 = 8 := by decide
      rw [h1 q hq z.1, show m_r (s_r M 55 a j x) q.1 b i = x from if_pos z]; exact hx
    · rw [show m_r (s_r M 55 a j x) q.1 b i = m_r M q.1 b i from if_neg z]; exact e
/-- the oldest state's object goes to the end -/
def f_dO (M : Me) (h A : Nat) : Me := s_i (s_r (s_r (s_r (s_r M 55 A 0 (m_r M 55 A 1)) 55 A 1 (m_r M 55 A 2)) 55 A 2 (m_r M 55 A 3)) 55 A 3 (m_r M 55 A 0)) 133 h 0 3
theorem LY.s55 {M : Me} {S A j v : Nat} (h : LY M S) : LY (s_r M 55 A j v) S := by
  obtain ⟨⟨a1, a2, a3, a4, a5, a6, a7, a8, a9⟩, b1, b2, b3, b4⟩ := h
  have e : ∀ k2 b i : Nat, k2 ≠ 55 → m_r (s_r M 55 A j v) k2 b i = m_r M k2 b i := fun k2 b i q1 => r_sk q1
  refine ⟨⟨a1, ?_, ?_, ?_, ?_, ?_, ?_, ?_, ?_⟩, fun p hp => ?_, fun f hf => ⟨?_, ?_, ?_, ?_⟩, fun e2 he => ?_, fun d hd => ?_⟩ <;> rw [e _ _ _ (by decide)]
  · exact a2
  · exact a3
  · exact a4
  · exact a5
  · exact a6
  · exact a7
  · exact a8
  · exact a9
  · exact b1 p hp
  · exact (b2 f hf).1
  · exact (b2 f hf).2.1
  · exact (b2 f hf).2.2.1
  · exact (b2 f hf).2.2.2
  · exact b3 e2 he
  · exact b4 d hd
theorem SgR.s55 {M : Me} {a A j v : Nat} {g : Sg} (h : SgR M a g) : SgR (s_r M 55 A j v) a g := by
  obtain ⟨a1, a2, a3, a4, a5, a6⟩ := h
  have e : ∀ k2 b i : Nat, k2 ≠ 55 → m_r (s_r M 55 A j v) k2 b i = m_r M k2 b i := fun k2 b i q1 => r_sk q1
  refine ⟨a1, a2, a3, fun i hi => ?_, ?_, fun i hi => ?_⟩ <;> rw [e _ _ _ (by decide)]
  · exact a4 i hi
  · exact a5
  · exact a6 i hi
theorem CR.s55 {M : Me} {S A j v : Nat} {u : Si} (h : CR M S u) : CR (s_r M 55 A j v) S u := by
  obtain ⟨h1, h2, h3, h4, h8, h9, h10⟩ := h
  exact ⟨h1.s55, h2, h3, h4, h8, fun f s hf hs => by rw [r_sk (by decide)]; exact (h9 f s hf hs).s55, fun e he => by rw [r_sk (by decide)]; exact (h10 e he).s55⟩
theorem dO_r {M : Me} {h A : Nat} : m_r (f_dO M h A) 55 A 0 = m_r M 55 A 1 ∧ m_r (f_dO M h A) 55 A 1 = m_r M 55 A 2 ∧ m_r (f_dO M h A) 55 A 2 = m_r M 55 A 3 ∧ m_r (f_dO M h A) 55 A 3 = m_r M 55 A 0 := by
  unfold f_dO
  simp only [r_si]
  refine ⟨?_, ?_, ?_, r_se⟩
  · rw [r_sx (by omega), r_sx (by omega), r_sx (by omega), r_se]
  · rw [r_sx (by omega), r_sx (by omega), r_se]
  · rw [r_sx (by omega), r_se]
theorem dO_s {M : Me} {h A j : Nat} (hj : j < 3) : m_r (f_dO M h A) 55 A j = m_r M 55 A (j + 1) := by
  obtain ⟨e0, e1, e2, -⟩ := dO_r (M := M) (h := h) (A := A)
  rcases (show j = 0 ∨ j = 1 ∨ j = 2 by omega) with rfl | rfl | rfl
  · exact e0
  · exact e1
  · exact e2
theorem dO_k {M : Me} {h A k b i : Nat} (q : k ≠ 55) : m_r (f_dO M h A) k b i = m_r M k b i := by
  unfold f_dO
  rw [r_si, r_sk q, r_sk q, r_sk q, r_sk q]
theorem dO_cr {M : Me} {h A S : Nat} {u : Si} (hc : CR M S u) (hS : h < S ∨ S + 97 ≤ h) : CR (f_dO M h A) S u := by
  unfold f_dO
  exact CR.out hc.s55.s55.s55.s55 hS (by decide) (by decide)
theorem dO_ly {M : Me} {h A S : Nat} (hc : LY M S) : LY (f_dO M h A) S := by
  have := hc.s55 (A := A) (j := 0) (v := m_r M 55 A 1)
  have := this.s55 (A := A) (j := 1) (v := m_r M 55 A 2)
  have := this.s55 (A := A) (j := 2) (v := m_r M 55 A 3)
  have := this.s55 (A := A) (j := 3) (v := m_r M 55 A 0)
  exact this
theorem dO_t {M : Me} {h A b : Nat} : m_t (f_dO M h A) b = m_t M b := rfl
theorem dO_n {M : Me} {h A : Nat} : m_n (f_dO M h A) = m_n M := rfl
theorem dO_bk {M : Me} {h n : Nat} (b1 : BK M h n) : BK (f_dO M (n + 201) (n + 202)) h n := by
  obtain ⟨⟨a1, a2, a3, a4, a5, a6, a7⟩, ⟨p1, p2, p3, p4, p5, p6⟩, ⟨c1, c2, c3⟩, d1, d2⟩ := b1
  obtain ⟨-, -, -, e3⟩ := dO_r (M := M) (h := n + 201) (A := n + 202)
  refine ⟨⟨by rw [dO_t]; exact a1, by rw [dO_t]; exact a2, by rw [dO_t]; exact a3, by rw [dO_t]; exact a4, by rw [dO_t]; exact a5, a6, by rw [dO_n]; exact a7⟩, ⟨by rw [dO_k (by decide)]; exact p1, by rw [dO_k (by decide)]; exact p2, by rw [dO_k (by decide)]; exact p3, by rw [dO_k (by decide)]; exact p4, by rw [dO_k (by decide)]; exact p5, by rw [dO_k (by decide)]; exact p6⟩, ⟨dO_ly c1, dO_ly c2, fun i hi => dO_ly (c3 i hi)⟩, fun j hj => ?_, fun j j2 hj hj2 e => ?_⟩
  · by_cases w : j = 3
    · rw [w, e3]; exact d1 0 (by decide)
    · rw [dO_s (by omega)]; exact d1 (j + 1) (by omega)
  · have r3 : ∀ i, i < 4 → ∃ i2, i2 < 4 ∧ m_r (f_dO M (n + 201) (n + 202)) 55 (n + 202) i = m_r M 55 (n + 202) i2 ∧ (i = 3 ∧ i2 = 0 ∨ i < 3 ∧ i2 = i + 1) := fun i hi => by
      by_cases w : i = 3
      · exact ⟨0, by decide, by rw [w]; exact e3, Or.inl ⟨w, rfl⟩⟩
      · exact ⟨i + 1, by omega, dO_s (by omega), Or.inr ⟨by omega, rfl⟩⟩
    obtain ⟨x1, y1, z1, w1⟩ := r3 j hj
    obtain ⟨x2, y2, z2, w2⟩ := r3 j2 hj2
    rw [z1, z2] at e
    have := d2 x1 x2 y1 y2 e
    omega
theorem dO_i {M : Me} {h A : Nat} : m_i (f_dO M h A) 133 h 0 = 3 := i_se
theorem dO_ik {M : Me} {h A k a j : Nat} (q : k ≠ 133) : m_i (f_dO M h A) k a j = m_i M k a j := by
  unfold f_dO
  rw [i_sk q, i_sr, i_sr, i_sr, i_sr]
theorem BR.drop {M : Me} {h n : Nat} {x : Xs} (b : BR M h n x) (hk : x_n x = 4) : BR (f_dO M (n + 201) (n + 202)) h n (dropX x) := by
  obtain ⟨b1, b2, ⟨b3, b4, b5⟩, b6, b7, b8⟩ := b
  have d1 := b1.2.2.2.1
  refine ⟨dO_bk b1, dO_cr b2 (by omega), ⟨by show 3 ≤ 4; decide, dO_i, fun j hj => ?_⟩, (dO_ik (by decide)).trans b6, b7, fun q => dO_cr (b8 q) (by omega)⟩
  have hj3 : j < 3 := hj
  show CR _ _ (x_h x (j + 1))
  rw [dO_s hj3]
  obtain ⟨i2, hi2, ei⟩ := d1 (j + 1) (by omega)
  have := b5 (j + 1) (by omega)
  rw [ei] at this ⊢
  exact dO_cr this (by omega)
theorem dO_wt {M : Me} {h A : Nat} (hW : Wt M) (hA : m_t M A = 55) : Wt (f_dO M h A) := by
  have w : ∀ j, j < 4 → m_t M (m_r M 55 A j) = 8 := fun j hj => we_55 hW hA hj
  have h1 := hW.s55 (a := A) (j := 0) (w 1 (by decide))
  have h2 := h1.s55 (a := A) (j := 1) (w 2 (by decide))
  have h3 := h2.s55 (a := A) (j := 2) (w 3 (by decide))
  exact h3.s55 (a := A) (j := 3) (w 0 (by decide))
theorem TX.dO {M : Me} {n t : Nat} {c : Nat → Int32} (x : TX M n t c) : TX (f_dO M (n + 201) (n + 202)) n t c := ⟨x.1, (dO_ik (by decide)).trans x.2.1, fun j hj => (dO_ik (by decide)).trans (x.2.2 j hj)⟩
theorem Cf.dO {M : Me} {h n : Nat} : Cf M (f_dO M (n + 201) (n + 202)) h n := ⟨Nat.le_refl _, fun a _ => ⟨rfl, rfl, fun _ _ => rfl, fun _ q => ⟨fun k j => by
  unfold f_dO
  rw [r_si, r_sx (by omega), r_sx (by omega), r_sx (by omega), r_sx (by omega)], fun k j _ _ => i_ska (by omega)⟩⟩⟩
