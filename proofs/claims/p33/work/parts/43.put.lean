/-! writes to a state: numbers, segments, counts; what stays -/
theorem q_nu {u : Si} {k a n k2 a2 : Nat} : q_n (u_n u k a n) k2 a2 = if k2 = k ∧ a2 = a then n else q_n u k2 a2 := rfl
theorem q_iu {u : Si} {k a j k2 a2 j2 : Nat} {v : Int32} : q_i (u_i u k a j v) k2 a2 j2 = if k2 = k ∧ a2 = a ∧ j2 = j then v else q_i u k2 a2 j2 := rfl
theorem q_gu {u : Si} {k a j k2 a2 j2 : Nat} {v : Sg} : q_g (u_g u k a j v) k2 a2 j2 = if k2 = k ∧ a2 = a ∧ j2 = j then v else q_g u k2 a2 j2 := rfl
theorem q_ie {u : Si} {k a j : Nat} {v : Int32} : q_i (u_i u k a j v) k a j = v := if_pos ⟨rfl, rfl, rfl⟩
theorem q_ik {u : Si} {k a j k2 a2 j2 : Nat} {v : Int32} (h : k2 ≠ k) : q_i (u_i u k a j v) k2 a2 j2 = q_i u k2 a2 j2 := if_neg (fun q => h q.1)
theorem q_ia {u : Si} {k a j k2 a2 j2 : Nat} {v : Int32} (h : a2 ≠ a) : q_i (u_i u k a j v) k2 a2 j2 = q_i u k2 a2 j2 := if_neg (fun q => h q.2.1)
theorem q_ij {u : Si} {k a j k2 a2 j2 : Nat} {v : Int32} (h : j2 ≠ j) : q_i (u_i u k a j v) k2 a2 j2 = q_i u k2 a2 j2 := if_neg (fun q => h q.2.2)
theorem q_ne {u : Si} {k a n : Nat} : q_n (u_n u k a n) k a = n := if_pos ⟨rfl, rfl⟩
theorem q_nk {u : Si} {k a n k2 a2 : Nat} (h : k2 ≠ k) : q_n (u_n u k a n) k2 a2 = q_n u k2 a2 := if_neg (fun q => h q.1)
theorem q_na {u : Si} {k a n k2 a2 : Nat} (h : a2 ≠ a) : q_n (u_n u k a n) k2 a2 = q_n u k2 a2 := if_neg (fun q => h q.2)
theorem q_ge {u : Si} {k a j : Nat} {v : Sg} : q_g (u_g u k a j v) k a j = v := if_pos ⟨rfl, rfl, rfl⟩
theorem i_ska {M : Me} {k a j : Nat} {v : Int32} {k2 b i : Nat} (h : b ≠ a) : m_i (s_i M k a j v) k2 b i = m_i M k2 b i := if_neg (fun q => h q.2.1)
theorem r_sx {M : Me} {k x i k2 x2 i2 v : Nat} (h : ¬ (k2 = k ∧ x2 = x ∧ i2 = i)) : m_r (s_r M k x i v) k2 x2 i2 = m_r M k2 x2 i2 := if_neg h
/-- a number that the state doesn't speak of is another one -/
theorem CR.poke {M : Me} {S k a j : Nat} {u : Si} {v : Int32} (h : CR M S u) (hr : ¬ inR u k a j) : CR M S (u_i u k a j v) := by
  obtain ⟨h1, h2, h3, h4, h8, h9, h10⟩ := h
  refine ⟨h1, h2, fun k2 a2 j2 h => ?_, h4, h8, h9, h10⟩
  have h' : inR u k2 a2 j2 := h
  have q : ¬ (k2 = k ∧ a2 = a ∧ j2 = j) := fun ⟨q1, q2, q3⟩ => hr (by rw [← q1, ← q2, ← q3]; exact h')
  rw [h3 k2 a2 j2 h']
  exact (if_neg q).symm
/-- a number is written -/
theorem CR.w {M : Me} {S k a j : Nat} {u : Si} {v : Int32} (h : CR M S u) (hc : cpR k a j) : CR (s_i M (cK k) (cA S k a) j v) S (u_i u k a j v) := by
  by_cases hr : inR u k a j
  · exact h.put hr
  · exact (h.free hc hr).poke hr
theorem CR.wA {M : Me} {S A : Nat} {u : Si} {v : Int32} (k a j : Nat) (h : CR M S u) (hc : cpR k a j) (hA : A = cA S k a) : CR (s_i M (cK k) A j v) S (u_i u k a j v) := by
  subst hA
  exact h.w hc
theorem CR.pokeG {M : Me} {S k a j : Nat} {u : Si} {v : Sg} (h : CR M S u) (hr : ¬ inG u k a j) : CR M S (u_g u k a j v) := by
  obtain ⟨h1, h2, h3, h4, h8, h9, h10⟩ := h
  refine ⟨h1, h2, h3, h4, h8, fun f s hf hs => ?_, fun e he => ?_⟩
  · have q : ¬ (0 = k ∧ f = a ∧ s = j) := fun ⟨q1, q2, q3⟩ => hr (by rw [← q1, ← q2, ← q3]; exact Or.inl ⟨rfl, hf, hs⟩)
    rw [show q_g (u_g u k a j v) 0 f s = q_g u 0 f s from if_neg q]
    exact h9 f s hf hs
  · have q : ¬ (1 = k ∧ e = a ∧ 0 = j) := fun ⟨q1, q2, q3⟩ => hr (by rw [← q1, ← q2, ← q3]; exact Or.inr ⟨rfl, he, rfl⟩)
    rw [show q_g (u_g u k a j v) 1 e 0 = q_g u 1 e 0 from if_neg q]
    exact h10 e he
theorem LY.sr {M : Me} {S k x j v : Nat} (h : LY M S) (hk : k = 52 ∨ k = 116) : LY (s_r M k x j v) S := by
  obtain ⟨⟨a1, a2, a3, a4, a5, a6, a7, a8, a9⟩, b1, b2, b3, b4⟩ := h
  have e : ∀ k2 b i : Nat, k2 ≠ 52 → k2 ≠ 116 → m_r (s_r M k x j v) k2 b i = m_r M k2 b i := fun k2 b i q1 q2 => r_sk (by omega)
  refine ⟨⟨a1, ?_, ?_, ?_, ?_, ?_, ?_, ?_, ?_⟩, fun p hp => ?_, fun f hf => ⟨?_, ?_, ?_, ?_⟩, fun e2 he => ?_, fun d hd => ?_⟩ <;> rw [e _ _ _ (by decide) (by decide)]
  · exact a2
  · exact a3
  · exact a4
  · exact a5
  · exact a6
  · exact a7
  · exact a8
  · exact a9
  · exact b1 p hp
  · exact (b2 f hf).1
  · exact (b2 f hf).2.1
  · exact (b2 f hf).2.2.1
  · exact (b2 f hf).2.2.2
  · exact b3 e2 he
  · exact b4 d hd
theorem SgR.sr {M : Me} {a k x j v : Nat} {g : Sg} (h : SgR M a g) (hk : k = 52 ∨ k = 116) : SgR (s_r M k x j v) a g := by
  obtain ⟨a1, a2, a3, a4, a5, a6⟩ := h
  have e : ∀ k2 b i : Nat, k2 ≠ 52 → k2 ≠ 116 → m_r (s_r M k x j v) k2 b i = m_r M k2 b i := fun k2 b i q1 q2 => r_sk (by omega)
  refine ⟨a1, a2, a3, fun i hi => ?_, ?_, fun i hi => ?_⟩ <;> rw [e _ _ _ (by decide) (by decide)]
  · exact a4 i hi
  · exact a5
  · exact a6 i hi
/-- a segment is laid into a place that the state doesn't speak of -/
theorem CR.w52 {M : Me} {S f n v : Nat} {u : Si} (h : CR M S u) (hf : f < 8) (hn : f < n_f u → n_s u f ≤ n) : CR (s_r M 52 (cF S f) n v) S u := by
  obtain ⟨h1, h2, h3, h4, h8, h9, h10⟩ := h
  refine ⟨h1.sr (Or.inl rfl), h2, h3, h4, h8, fun f2 s hf2 hs => ?_, fun e he => ?_⟩
  · have q : ¬ (52 = 52 ∧ cF S f2 = cF S f ∧ s = n) := fun ⟨_, q2, q3⟩ => by
      have : f2 = f := by unfold cF at q2; omega
      subst this
      have := hn hf2
      omega
    rw [show m_r (s_r M 52 (cF S f) n v) 52 (cF S f2) s = m_r M 52 (cF S f2) s from if_neg q]
    exact (h9 f2 s hf2 hs).sr (Or.inl rfl)
  · rw [r_sk (by decide)]; exact (h10 e he).sr (Or.inl rfl)
theorem CR.w116 {M : Me} {S e v : Nat} {u : Si} (h : CR M S u) (hn : n_e u ≤ e) : CR (s_r M 116 (cA S 11 e) 0 v) S u := by
  obtain ⟨h1, h2, h3, h4, h8, h9, h10⟩ := h
  refine ⟨h1.sr (Or.inr rfl), h2, h3, h4, h8, fun f2 s hf2 hs => ?_, fun e2 he => ?_⟩
  · rw [r_sk (by decide)]; exact (h9 f2 s hf2 hs).sr (Or.inr rfl)
  · have q : ¬ (116 = 116 ∧ cA S 11 e2 = cA S 11 e ∧ 0 = 0) := fun ⟨_, q2, _⟩ => by
      have : e2 = e := by simp [cA, cB, cS] at q2; omega
      omega
    rw [show m_r (s_r M 116 (cA S 11 e) 0 v) 116 (cA S 11 e2) 0 = m_r M 116 (cA S 11 e2) 0 from if_neg q]
    exact (h10 e2 he).sr (Or.inr rfl)
/-- the size of a file that there isn't -/
theorem CR.free249 {M : Me} {S f : Nat} {u : Si} {v : Int32} (h : CR M S u) (hf : f < 8) (hn : n_f u ≤ f) : CR (s_i M 249 (cA S 4 f) 0 v) S u := by
  obtain ⟨h1, h2, h3, ⟨h4, h5, h6, h7⟩, h8, h9, h10⟩ := h
  refine ⟨h1, h2, fun k a j q => ?_, ⟨by rw [i_sk (by decide)]; exact h4, by rw [i_sk (by decide)]; exact h5, by rw [i_sk (by decide)]; exact h6, by rw [i_sk (by decide)]; exact h7⟩, fun f2 hf2 => ?_, fun f2 s hf2 hs => (h9 f2 s hf2 hs).si (by decide) (by decide), fun e he => (h10 e he).si (by decide) (by decide)⟩
  · rw [i_sk (cK_no (q.cp h2).le).2.2.2.2.1]; exact h3 k a j q
  · rw [i_ska (fun q => by simp [cA, cB, cS] at q; omega)]; exact h8 f2 hf2
theorem CR.pokeN {M : Me} {S f n : Nat} {u : Si} (h : CR M S u) (hn : n_f u ≤ f) : CR M S (u_n u 4 f n) := by
  obtain ⟨h1, ⟨c1, c2, c3, c4, c5⟩, h3, h4, h8, h9, h10⟩ := h
  have e : ∀ f2, f2 < n_f u → n_s (u_n u 4 f n) f2 = n_s u f2 := fun f2 hf2 => if_neg (fun q => by omega)
  refine ⟨h1, ⟨c1, c2, c3, c4, fun f2 hf2 => by rw [e f2 hf2]; exact c5 f2 hf2⟩, fun k a j q => h3 k a j ?_, h4, fun f2 hf2 => by rw [e f2 hf2]; exact h8 f2 hf2, fun f2 s hf2 hs => h9 f2 s hf2 (by rw [← e f2 hf2]; exact hs), h10⟩
  rcases q with q | q | q | q | q | q | q
  · exact Or.inl q
  · exact Or.inr (Or.inl q)
  · exact Or.inr (Or.inr (Or.inl q))
  · exact Or.inr (Or.inr (Or.inr (Or.inl ⟨q.1, q.2.1, q.2.2.1, by rw [← e a q.2.2.1]; exact q.2.2.2⟩)))
  · exact Or.inr (Or.inr (Or.inr (Or.inr (Or.inl q))))
  · exact Or.inr (Or.inr (Or.inr (Or.inr (Or.inr (Or.inl q)))))
  · exact Or.inr (Or.inr (Or.inr (Or.inr (Or.inr (Or.inr q)))))
/-! one more person, file, segment, entry, dispute -/
theorem CR.growP {M : Me} {S : Nat} {u : Si} (h : CR M S u) (hn : n_p u < 6) (g : ∀ k, 1 ≤ k → k ≤ 3 → m_i M (cK k) (cA S k (n_p u)) 0 = q_i u k (n_p u) 0) : CR (s_i M 214 S 0 (nI (n_p u + 1))) S (u_n u 1 0 (n_p u + 1)) := by
  obtain ⟨h1, ⟨c1, c2, c3, c4, c5⟩, h3, ⟨h4, h5, h6, h7⟩, h8, h9, h10⟩ := h
  refine ⟨h1, ⟨c1, by show n_p u + 1 ≤ 6; omega, c3, c4, c5⟩, fun k a j q => ?_, ⟨by rw [i_sk (by decide)]; exact h4, by rw [i_se]; rfl, by rw [i_sk (by decide)]; exact h6, by rw [i_sk (by decide)]; exact h7⟩, fun f2 hf2 => by rw [i_sk (by decide)]; exact h8 f2 hf2, fun f2 s hf2 hs => (h9 f2 s hf2 hs).si (by decide) (by decide), fun e he => (h10 e he).si (by decide) (by decide)⟩
  have q2 : inR u k a j ∨ (1 ≤ k ∧ k ≤ 3 ∧ a = n_p u ∧ j = 0) := by
    rcases q with q | q | q | q | q | q | q
    · exact Or.inl (Or.inl q)
    · have q3 : a < n_p u + 1 := q.2.2.1
      by_cases w : a = n_p u
      · exact Or.inr ⟨q.1, q.2.1, w, q.2.2.2⟩
      · exact Or.inl (Or.inr (Or.inl ⟨q.1, q.2.1, by omega, q.2.2.2⟩))
    · exact Or.inl (Or.inr (Or.inr (Or.inl q)))
    · exact Or.inl (Or.inr (Or.inr (Or.inr (Or.inl q))))
    · exact Or.inl (Or.inr (Or.inr (Or.inr (Or.inr (Or.inl q)))))
    · exact Or.inl (Or.inr (Or.inr (Or.inr (Or.inr (Or.inr (Or.inl q))))))
    · exact Or.inl (Or.inr (Or.inr (Or.inr (Or.inr (Or.inr (Or.inr q))))))
  show m_i (s_i M 214 S 0 _) (cK k) (cA S k a) j = q_i u k a j
  rcases q2 with q2 | ⟨w1, w2, w3, w4⟩
  · rw [i_sk (cK_no (q2.cp ⟨c1, c2, c3, c4, c5⟩).le).2.1]; exact h3 k a j q2
  · subst w3; subst w4
    rw [i_sk (cK_no (by omega)).2.1]; exact g k w1 w2
theorem CR.growD {M : Me} {S : Nat} {u : Si} (h : CR M S u) (hn : n_d u < 10) (g : ∀ k, 13 ≤ k → k ≤ 16 → m_i M (cK k) (cA S k (n_d u)) 0 = q_i u k (n_d u) 0) : CR (s_i M 168 (S + 43) 0 (nI (n_d u + 1))) S (u_n u 3 0 (n_d u + 1)) := by
  obtain ⟨h1, ⟨c1, c2, c3, c4, c5⟩, h3, ⟨h4, h5, h6, h7⟩, h8, h9, h10⟩ := h
  refine ⟨h1, ⟨c1, c2, c3, by show n_d u + 1 ≤ 10; omega, c5⟩, fun k a j q => ?_, ⟨by rw [i_sk (by decide)]; exact h4, by rw [i_sk (by decide)]; exact h5, by rw [i_sk (by decide)]; exact h6, by rw [i_se]; rfl⟩, fun f2 hf2 => by rw [i_sk (by decide)]; exact h8 f2 hf2, fun f2 s hf2 hs => (h9 f2 s hf2 hs).si (by decide) (by decide), fun e he => (h10 e he).si (by decide) (by decide)⟩
  have q2 : inR u k a j ∨ (13 ≤ k ∧ k ≤ 16 ∧ a = n_d u ∧ j = 0) := by
    rcases q with q | q | q | q | q | q | q
    · exact Or.inl (Or.inl q)
    · exact Or.inl (Or.inr (Or.inl q))
    · exact Or.inl (Or.inr (Or.inr (Or.inl q)))
    · exact Or.inl (Or.inr (Or.inr (Or.inr (Or.inl q))))
    · exact Or.inl (Or.inr (Or.inr (Or.inr (Or.inr (Or.inl q)))))
    · have q3 : a < n_d u + 1 := q.2.2.1
      by_cases w : a = n_d u
      · exact Or.inr ⟨q.1, q.2.1, w, q.2.2.2⟩
      · exact Or.inl (Or.inr (Or.inr (Or.inr (Or.inr (Or.inr (Or.inl ⟨q.1, q.2.1, by omega, q.2.2.2⟩))))))
    · exact Or.inl (Or.inr (Or.inr (Or.inr (Or.inr (Or.inr (Or.inr q))))))
  show m_i (s_i M 168 (S + 43) 0 _) (cK k) (cA S k a) j = q_i u k a j
  rcases q2 with q2 | ⟨w1, w2, w3, w4⟩
  · rw [i_sk (cK_no (q2.cp ⟨c1, c2, c3, c4, c5⟩).le).2.2.2.1]; exact h3 k a j q2
  · subst w3; subst w4
    rw [i_sk (cK_no (by omega)).2.2.2.1]; exact g k w1 w2
theorem CR.growE {M : Me} {S : Nat} {u : Si} (h : CR M S u) (hn : n_e u < 40) (g : ∀ k, 11 ≤ k → k ≤ 12 → m_i M (cK k) (cA S k (n_e u)) 0 = q_i u k (n_e u) 0) (gs : SgR M (m_r M 116 (cA S 11 (n_e u)) 0) (q_g u 1 (n_e u) 0)) : CR (s_i M 166 (S + 43) 0 (nI (n_e u + 1))) S (u_n u 2 0 (n_e u + 1)) := by
  obtain ⟨h1, ⟨c1, c2, c3, c4, c5⟩, h3, ⟨h4, h5, h6, h7⟩, h8, h9, h10⟩ := h
  refine ⟨h1, ⟨c1, c2, by show n_e u + 1 ≤ 40; omega, c4, c5⟩, fun k a j q => ?_, ⟨by rw [i_sk (by decide)]; exact h4, by rw [i_sk (by decide)]; exact h5, by rw [i_se]; rfl, by rw [i_sk (by decide)]; exact h7⟩, fun f2 hf2 => by rw [i_sk (by decide)]; exact h8 f2 hf2, fun f2 s hf2 hs => (h9 f2 s hf2 hs).si (by decide) (by decide), fun e he => ?_⟩
  · have q2 : inR u k a j ∨ (11 ≤ k ∧ k ≤ 12 ∧ a = n_e u ∧ j = 0) := by
      rcases q with q | q | q | q | q | q | q
      · exact Or.inl (Or.inl q)
      · exact Or.inl (Or.inr (Or.inl q))
      · exact Or.inl (Or.inr (Or.inr (Or.inl q)))
      · exact Or.inl (Or.inr (Or.inr (Or.inr (Or.inl q))))
      · have q3 : a < n_e u + 1 := q.2.2.1
        by_cases w : a = n_e u
        · exact Or.inr ⟨q.1, q.2.1, w, q.2.2.2⟩
        · exact Or.inl (Or.inr (Or.inr (Or.inr (Or.inr (Or.inl ⟨q.1, q.2.1, by omega, q.2.2.2⟩)))))
      · exact Or.inl (Or.inr (Or.inr (Or.inr (Or.inr (Or.inr (Or.inl q))))))
      · exact Or.inl (Or.inr (Or.inr (Or.inr (Or.inr (Or.inr (Or.inr q))))))
    show m_i (s_i M 166 (S + 43) 0 _) (cK k) (cA S k a) j = q_i u k a j
    rcases q2 with q2 | ⟨w1, w2, w3, w4⟩
    · rw [i_sk (cK_no (q2.cp ⟨c1, c2, c3, c4, c5⟩).le).2.2.1]; exact h3 k a j q2
    · subst w3; subst w4
      rw [i_sk (cK_no (by omega)).2.2.1]; exact g k w1 w2
  · have q3 : e < n_e u + 1 := he
    refine SgR.si ?_ (by decide) (by decide)
    by_cases w : e = n_e u
    · subst w; exact gs
    · exact h10 e (by omega)
theorem CR.growS {M : Me} {S f : Nat} {u : Si} (h : CR M S u) (hf : f < n_f u) (hn : n_s u f < 12) (g : ∀ k, 9 ≤ k → k ≤ 10 → m_i M (cK k) (cA S k f) (n_s u f) = q_i u k f (n_s u f)) (gs : SgR M (m_r M 52 (cF S f) (n_s u f)) (q_g u 0 f (n_s u f))) : CR (s_i M 249 (cA S 4 f) 0 (nI (n_s u f + 1))) S (u_n u 4 f (n_s u f + 1)) := by
  obtain ⟨h1, ⟨c1, c2, c3, c4, c5⟩, h3, ⟨h4, h5, h6, h7⟩, h8, h9, h10⟩ := h
  have e : ∀ f2, f2 ≠ f → n_s (u_n u 4 f (n_s u f + 1)) f2 = n_s u f2 := fun f2 q => if_neg (fun w => q w.2)
  have e0 : n_s (u_n u 4 f (n_s u f + 1)) f = n_s u f + 1 := if_pos ⟨rfl, rfl⟩
  refine ⟨h1, ⟨c1, c2, c3, c4, fun f2 hf2 => ?_⟩, fun k a j q => ?_, ⟨by rw [i_sk (by decide)]; exact h4, by rw [i_sk (by decide)]; exact h5, by rw [i_sk (by decide)]; exact h6, by rw [i_sk (by decide)]; exact h7⟩, fun f2 hf2 => ?_, fun f2 s hf2 hs => ?_, fun e he => (h10 e he).si (by decide) (by decide)⟩
  · by_cases w : f2 = f
    · rw [w, e0]; omega
    · rw [e f2 w]; exact c5 f2 hf2
  · have q2 : inR u k a j ∨ (9 ≤ k ∧ k ≤ 10 ∧ a = f ∧ j = n_s u f) := by
      rcases q with q | q | q | q | q | q | q
      · exact Or.inl (Or.inl q)
      · exact Or.inl (Or.inr (Or.inl q))
      · exact Or.inl (Or.inr (Or.inr (Or.inl q)))
      · have q3 := q.2.2.2
        by_cases w : a = f
        · rw [w, e0] at q3
          by_cases w2 : j = n_s u f
          · exact Or.inr ⟨q.1, q.2.1, w, w2⟩
          · exact Or.inl (Or.inr (Or.inr (Or.inr (Or.inl ⟨q.1, q.2.1, q.2.2.1, by rw [w]; omega⟩))))
        · rw [e a w] at q3
          exact Or.inl (Or.inr (Or.inr (Or.inr (Or.inl ⟨q.1, q.2.1, q.2.2.1, q3⟩))))
      · exact Or.inl (Or.inr (Or.inr (Or.inr (Or.inr (Or.inl q)))))
      · exact Or.inl (Or.inr (Or.inr (Or.inr (Or.inr (Or.inr (Or.inl q))))))
      · exact Or.inl (Or.inr (Or.inr (Or.inr (Or.inr (Or.inr (Or.inr q))))))
    show m_i (s_i M 249 (cA S 4 f) 0 _) (cK k) (cA S k a) j = q_i u k a j
    rcases q2 with q2 | ⟨w1, w2, w3, w4⟩
    · rw [i_sk (cK_no (q2.cp ⟨c1, c2, c3, c4, c5⟩).le).2.2.2.2.1]; exact h3 k a j q2
    · subst w3; subst w4
      rw [i_sk (cK_no (by omega)).2.2.2.2.1]; exact g k w1 w2
  · by_cases w : f2 = f
    · rw [w, e0, i_se]
    · rw [e f2 w, i_ska (fun q => by simp [cA, cB, cS] at q; omega)]; exact h8 f2 hf2
  · refine SgR.si ?_ (by decide) (by decide)
    by_cases w : f2 = f
    · subst w
      rw [e0] at hs
      by_cases w2 : s = n_s u f2
      · subst w2; exact gs
      · exact h9 f2 s hf2 (by omega)
    · rw [e f2 w] at hs
      exact h9 f2 s hf2 hs
theorem CR.growF {M : Me} {S : Nat} {u : Si} (h : CR M S u) (hn : n_f u < 8) (hz : n_s u (n_f u) = 0) (g : ∀ k, 4 ≤ k → k ≤ 8 → m_i M (cK k) (cA S k (n_f u)) 0 = q_i u k (n_f u) 0) (gz : m_i M 249 (cA S 4 (n_f u)) 0 = 0) (go : m_i M 21 (cA S 17 0) (n_f u) = q_i u 17 0 (n_f u)) : CR (s_i M 216 S 0 (nI (n_f u + 1))) S (u_n u 0 0 (n_f u + 1)) := by
  obtain ⟨h1, ⟨c1, c2, c3, c4, c5⟩, h3, ⟨h4, h5, h6, h7⟩, h8, h9, h10⟩ := h
  refine ⟨h1, ⟨by show n_f u + 1 ≤ 8; omega, c2, c3, c4, fun f2 hf2 => ?_⟩, fun k a j q => ?_, ⟨by rw [i_se]; rfl, by rw [i_sk (by decide)]; exact h5, by rw [i_sk (by decide)]; exact h6, by rw [i_sk (by decide)]; exact h7⟩, fun f2 hf2 => ?_, fun f2 s hf2 hs => ?_, fun e he => (h10 e he).si (by decide) (by decide)⟩
  · have q3 : f2 < n_f u + 1 := hf2
    show n_s u f2 ≤ 12
    by_cases w : f2 = n_f u
    · rw [w, hz]; omega
    · exact c5 f2 (by omega)
  · have q2 : inR u k a j ∨ (4 ≤ k ∧ k ≤ 8 ∧ a = n_f u ∧ j = 0) ∨ (k = 17 ∧ a = 0 ∧ j = n_f u) := by
      rcases q with q | q | q | q | q | q | q
      · exact Or.inl (Or.inl q)
      · exact Or.inl (Or.inr (Or.inl q))
      · have q3 : a < n_f u + 1 := q.2.2.1
        by_cases w : a = n_f u
        · exact Or.inr (Or.inl ⟨q.1, q.2.1, w, q.2.2.2⟩)
        · exact Or.inl (Or.inr (Or.inr (Or.inl ⟨q.1, q.2.1, by omega, q.2.2.2⟩)))
      · have q3 : a < n_f u + 1 := q.2.2.1
        have q4 : j < n_s u a := q.2.2.2
        by_cases w : a = n_f u
        · rw [w, hz] at q4; omega
        · exact Or.inl (Or.inr (Or.inr (Or.inr (Or.inl ⟨q.1, q.2.1, by omega, q4⟩))))
      · exact Or.inl (Or.inr (Or.inr (Or.inr (Or.inr (Or.inl q)))))
      · exact Or.inl (Or.inr (Or.inr (Or.inr (Or.inr (Or.inr (Or.inl q))))))
      · have q3 : j < n_f u + 1 := q.2.2
        by_cases w : j = n_f u
        · exact Or.inr (Or.inr ⟨q.1, q.2.1, w⟩)
        · exact Or.inl (Or.inr (Or.inr (Or.inr (Or.inr (Or.inr (Or.inr ⟨q.1, q.2.1, by omega⟩))))))
    show m_i (s_i M 216 S 0 _) (cK k) (cA S k a) j = q_i u k a j
    rcases q2 with q2 | ⟨w1, w2, w3, w4⟩ | ⟨w1, w2, w3⟩
    · rw [i_sk (cK_no (q2.cp ⟨c1, c2, c3, c4, c5⟩).le).1]; exact h3 k a j q2
    · subst w3; subst w4
      rw [i_sk (cK_no (by omega)).1]; exact g k w1 w2
    · subst w1; subst w2; subst w3
      rw [i_sk (cK_no (by omega)).1]; exact go
  · have q3 : f2 < n_f u + 1 := hf2
    rw [i_sk (by decide)]
    show m_i M 249 (cA S 4 f2) 0 = nI (n_s u f2)
    by_cases w : f2 = n_f u
    · rw [w, hz]; exact gz
    · exact h8 f2 (by omega)
  · have q3 : f2 < n_f u + 1 := hf2
    have q4 : s < n_s u f2 := hs
    refine SgR.si ?_ (by decide) (by decide)
    by_cases w : f2 = n_f u
    · rw [w, hz] at q4; omega
    · exact h9 f2 s (by omega) q4
/-! what stays where a state is written -/
def Rg (M M2 : Me) (S : Nat) : Prop := m_n M ≤ m_n M2 ∧ ∀ a, a < m_n M → m_t M2 a = m_t M a ∧ m_z M2 a = m_z M a ∧ (∀ k j, m_l M2 k a j = m_l M k a j) ∧ (∀ k j, (k ≠ 52 ∧ k ≠ 116) ∨ a < S ∨ S + 97 ≤ a → m_r M2 k a j = m_r M k a j) ∧ ∀ k j, (k = 198 ∨ k = 40) ∨ ((k ≠ 22 ∧ k ≠ 23) ∧ (a < S ∨ S + 97 ≤ a)) → m_i M2 k a j = m_i M k a j
theorem Rg.rf {M : Me} {S : Nat} : Rg M M S := ⟨Nat.le_refl _, fun _ _ => ⟨rfl, rfl, fun _ _ => rfl, fun _ _ _ => rfl, fun _ _ _ => rfl⟩⟩
theorem Rg.tr {M M2 M3 : Me} {S : Nat} (h : Rg M M2 S) (h2 : Rg M2 M3 S) : Rg M M3 S := by
  refine ⟨Nat.le_trans h.1 h2.1, fun a ha => ?_⟩
  obtain ⟨a1, a2, a3, a4, a5⟩ := h.2 a ha
  obtain ⟨b1, b2, b3, b4, b5⟩ := h2.2 a (Nat.lt_of_lt_of_le ha h.1)
  exact ⟨b1.trans a1, b2.trans a2, fun k j => (b3 k j).trans (a3 k j), fun k j q => (b4 k j q).trans (a4 k j q), fun k j q => (b5 k j q).trans (a5 k j q)⟩
theorem Rg.si {M M2 : Me} {S k x j : Nat} {v : Int32} (h : Rg M M2 S) (hx : S ≤ x ∧ x < S + 97) (hk : k ≠ 198 ∧ k ≠ 40) : Rg M (s_i M2 k x j v) S := h.tr ⟨Nat.le_refl _, fun a _ => ⟨rfl, rfl, fun _ _ => rfl, fun _ _ _ => rfl, fun k2 j2 q => if_neg (fun w => by
  obtain ⟨w1, w2, w3⟩ := w
  omega)⟩⟩
theorem Rg.sr {M M2 : Me} {S k x j v : Nat} (h : Rg M M2 S) (hx : S ≤ x ∧ x < S + 97) (hk : k = 52 ∨ k = 116) : Rg M (s_r M2 k x j v) S := h.tr ⟨Nat.le_refl _, fun a _ => ⟨rfl, rfl, fun _ _ => rfl, fun k2 j2 q => if_neg (fun w => by
  obtain ⟨w1, w2, w3⟩ := w
  omega), fun _ _ _ => rfl⟩⟩
theorem Rg.bx {M M2 M3 : Me} {S : Nat} (h : Rg M M2 S) (h2 : Bx M2 M3) : Rg M M3 S := by
  obtain ⟨b, rfl⟩ := h2
  exact h.tr ⟨Nat.le_refl _, fun a _ => ⟨rfl, rfl, fun _ _ => rfl, fun _ _ _ => rfl, fun k2 j2 q => sc_i (by omega)⟩⟩
theorem cF_lt {S f : Nat} (h : f < 8) : S ≤ cF S f ∧ cF S f < S + 97 := by unfold cF; omega
theorem cA_r {S k a j : Nat} (h : cpR k a j) : S ≤ cA S k a ∧ cA S k a < S + 97 := ⟨Nat.le_of_lt (cA_lt h).1, (cA_lt h).2⟩
theorem SgR.rg {M M2 : Me} {S a : Nat} {g : Sg} (h : SgR M a g) (nw : Nw M) (hW : Wt M) (r : Rg M M2 S) : SgR M2 a g := by
  obtain ⟨a1, a2, a3, a4, a5, a6⟩ := h
  have n1 : a < m_n M := nw a (by rw [a1]; decide)
  have n2 : m_r M 197 a 0 < m_n M := nw _ (by rw [wf_197 hW a1]; decide)
  have n3 : m_r M 196 a 0 < m_n M := nw _ (by rw [wf_196 hW a1]; decide)
  obtain ⟨r1, r2, r3, r4, r5⟩ := r.2 a n1
  refine ⟨r1.trans a1, a2, by rw [r5 198 0 (Or.inl (Or.inl rfl))]; exact a3, fun i hi => ?_, ?_, fun i hi => ?_⟩
  · rw [r4 197 0 (Or.inl ⟨by decide, by decide⟩), (r.2 _ n2).2.2.1]; exact a4 i hi
  · rw [r4 196 0 (Or.inl ⟨by decide, by decide⟩), (r.2 _ n3).2.1]; exact a5
  · rw [r4 196 0 (Or.inl ⟨by decide, by decide⟩), (r.2 _ n3).2.2.2.2 40 i (Or.inl (Or.inr rfl))]; exact a6 i hi
/-- another state's layout and numbers stay -/
theorem LY.rg {M M2 : Me} {S S2 : Nat} (h : LY M S2) (hn : S2 + 97 ≤ m_n M) (r : Rg M M2 S) : LY M2 S2 := by
  obtain ⟨⟨a1, a2, a3, a4, a5, a6, a7, a8, a9⟩, b1, b2, b3, b4⟩ := h
  have e : ∀ k a j : Nat, a < m_n M → k ≠ 52 → k ≠ 116 → m_r M2 k a j = m_r M k a j := fun k a j ha q1 q2 => (r.2 a ha).2.2.2.1 k j (Or.inl ⟨q1, q2⟩)
  have c4 : ∀ f, f < 8 → cA S2 4 f < m_n M := fun f hf => by simp only [cA, cB, cS, List.getD_cons_succ, List.getD_cons_zero]; omega
  refine ⟨⟨(r.2 S2 (by omega)).1.trans a1, ?_, ?_, ?_, ?_, ?_, ?_, ?_, ?_⟩, fun p hp => ?_, fun f hf => ⟨?_, ?_, ?_, ?_⟩, fun e2 he => ?_, fun d hd => ?_⟩
  · rw [e _ _ _ (by omega) (by decide) (by decide)]; exact a2
  · rw [e _ _ _ (by omega) (by decide) (by decide)]; exact a3
  · rw [e _ _ _ (by omega) (by decide) (by decide)]; exact a4
  · rw [e _ _ _ (by omega) (by decide) (by decide)]; exact a5
  · rw [e _ _ _ (by omega) (by decide) (by decide)]; exact a6
  · rw [e _ _ _ (by omega) (by decide) (by decide)]; exact a7
  · rw [e _ _ _ (by omega) (by decide) (by decide)]; exact a8
  · rw [e _ _ _ (by omega) (by decide) (by decide)]; exact a9
  · rw [e _ _ _ (by omega) (by decide) (by decide)]; exact b1 p hp
  · rw [e _ _ _ (by omega) (by decide) (by decide)]; exact (b2 f hf).1
  · rw [e _ _ _ (c4 f hf) (by decide) (by decide)]; exact (b2 f hf).2.1
  · rw [e _ _ _ (c4 f hf) (by decide) (by decide)]; exact (b2 f hf).2.2.1
  · rw [e _ _ _ (c4 f hf) (by decide) (by decide)]; exact (b2 f hf).2.2.2
  · rw [e _ _ _ (by omega) (by decide) (by decide)]; exact b3 e2 he
  · rw [e _ _ _ (by omega) (by decide) (by decide)]; exact b4 d hd
theorem CR.far {M M2 : Me} {S S2 : Nat} {u : Si} (h : CR M S2 u) (nw : Nw M) (hW : Wt M) (hn : S2 + 97 ≤ m_n M) (hd : S2 + 97 ≤ S ∨ S + 97 ≤ S2) (r : Rg M M2 S) : CR M2 S2 u := by
  obtain ⟨h1, h2, h3, ⟨h4, h5, h6, h7⟩, h8, h9, h10⟩ := h
  have i : ∀ k a j : Nat, S2 ≤ a ∧ a < S2 + 97 → k ≠ 22 → k ≠ 23 → m_i M2 k a j = m_i M k a j := fun k a j ha q1 q2 => (r.2 a (by omega)).2.2.2.2 k j (Or.inr ⟨⟨q1, q2⟩, by omega⟩)
  have rr : ∀ k a j : Nat, S2 ≤ a ∧ a < S2 + 97 → m_r M2 k a j = m_r M k a j := fun k a j ha => (r.2 a (by omega)).2.2.2.1 k j (Or.inr (by omega))
  have c4 : ∀ f, f < n_f u → cpR 4 f 0 := fun f hf => Or.inr (Or.inr (Or.inl ⟨by decide, by decide, by have := h2.1; omega, rfl⟩))
  refine ⟨h1.rg hn r, h2, fun k a j q => ?_, ⟨?_, ?_, ?_, ?_⟩, fun f hf => ?_, fun f s hf hs => ?_, fun e he => ?_⟩
  · have w := q.cp h2
    have w2 := cK_sc w.le
    rw [i _ _ _ (cA_r w) (fun x => w2 (Or.inl x)) (fun x => w2 (Or.inr x))]; exact h3 k a j q
  · rw [i _ _ _ (by omega) (by decide) (by decide)]; exact h4
  · rw [i _ _ _ (by omega) (by decide) (by decide)]; exact h5
  · rw [i _ _ _ (by omega) (by decide) (by decide)]; exact h6
  · rw [i _ _ _ (by omega) (by decide) (by decide)]; exact h7
  · rw [i _ _ _ (cA_r (c4 f hf)) (by decide) (by decide)]; exact h8 f hf
  · have hf8 : f < 8 := by have := h2.1; omega
    rw [rr _ _ _ (cF_lt hf8)]; exact (h9 f s hf hs).rg nw hW r
  · rw [rr _ _ _ (cA_r (j := 0) (show cpR 11 e 0 from Or.inr (Or.inr (Or.inr (Or.inr (Or.inl ⟨by decide, by decide, by have := h2.2.2.1; omega, rfl⟩)))))) ]; exact (h10 e he).rg nw hW r
