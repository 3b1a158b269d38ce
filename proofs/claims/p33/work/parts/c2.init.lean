/-! the state of a new bureau -/
def u0 : Si := (fun _ _ => 0, fun k _ j => if k = 0 then shr j else 0, fun _ _ _ => [])
def x0 : Xs := (u0, (0, fun _ => u0), (0, u0))
theorem u0_n (k a : Nat) : q_n u0 k a = 0 := rfl
theorem u0_R {k a j : Nat} (h : inR u0 k a j) : k = 0 ∧ a = 0 ∧ j < 6 := by
  unfold inR at h
  rcases h with h | ⟨-, -, h, -⟩ | ⟨-, -, h, -⟩ | ⟨-, -, h, -⟩ | ⟨-, -, h, -⟩ | ⟨-, -, h, -⟩ | ⟨-, -, h⟩
  · exact h
  · exact absurd h (Nat.not_lt_zero _)
  · exact absurd h (Nat.not_lt_zero _)
  · exact absurd h (Nat.not_lt_zero _)
  · exact absurd h (Nat.not_lt_zero _)
  · exact absurd h (Nat.not_lt_zero _)
  · exact absurd h (Nat.not_lt_zero _)
theorem u0_c : capU u0 := ⟨Nat.zero_le _, Nat.zero_le _, Nat.zero_le _, Nat.zero_le _, fun _ _ => Nat.zero_le _⟩
theorem u0_w : Wf 0 u0 := .mk ⟨fun _ h => absurd h (Nat.not_lt_zero _), fun _ h => absurd h (Nat.not_lt_zero _)⟩ ⟨⟨fun _ h => absurd h (Nat.not_lt_zero _), fun _ h => absurd h (Nat.not_lt_zero _)⟩, fun _ _ h => absurd h (Nat.not_lt_zero _)⟩ ⟨fun _ h => absurd h (Nat.not_lt_zero _), fun _ _ h => absurd h (Nat.not_lt_zero _), fun _ _ h => absurd h (Nat.not_lt_zero _)⟩ (fun _ h => absurd h (Nat.not_lt_zero _)) (fun _ _ h => absurd h (Nat.not_lt_zero _)) (fun _ h => absurd h (Nat.not_lt_zero _))
theorem x0_w : WfX 0 x0 := ⟨u0_w, fun _ h => absurd h (Nat.not_lt_zero _), fun h => absurd (show (0 : Int32) = 1 from h) (by decide)⟩
/-- class and reference hold one state -/
def IV (K : Nat) (x : Xs) (t : Nat) (tc : Nat → Int32) (M : Me) (h n h2 : Nat) : Prop := Wt M ∧ BR M h n x ∧ TX M n t tc ∧ AR M h2 x ∧ TA M h2 t tc ∧ RC M h n h2 ∧ WfX K x
theorem u0_cr {M : Me} {S : Nat} (ly : LY M S) (i1 : m_i M 214 S 0 = 0) (i2 : m_i M 216 S 0 = 0) (i3 : m_i M 166 (S + 43) 0 = 0) (i4 : m_i M 168 (S + 43) 0 = 0) (i5 : ∀ j, m_i M 20 (S + 1) j = shr j) : CR M S u0 := by
  refine ⟨ly, u0_c, fun k a j h => ?_, ⟨i2, i1, i3, i4⟩, fun _ h => absurd h (Nat.not_lt_zero _), fun _ _ h => absurd h (Nat.not_lt_zero _), fun _ h => absurd h (Nat.not_lt_zero _)⟩
  obtain ⟨rfl, rfl, -⟩ := u0_R h
  exact i5 j
theorem u0_br {M : Me} {h n : Nat} (fr : Fr M h n) (hn : h < n) (en : n + 591 ≤ m_n M) (ly : (m_t M (n + 5) = 9 ∧ m_t M (n + 6) = 41 ∧ m_t M (n + 201) = 3 ∧ m_t M (n + 202) = 55) ∧ m_r M 228 (n + 5) 0 = n + 6 ∧ (LY M (n + 7) ∧ LY M (n + 104) ∧ ∀ i, i < 4 → LY M (n + (203 + 97 * i))) ∧ ∀ j, j < 4 → m_r M 55 (n + 202) j = n + (203 + 97 * j)) : BR M h n x0 ∧ TX M n 0 (fun _ => 0) := by
  obtain ⟨a1, ⟨a2, a3, a4, a5⟩, a6, a7, ⟨b1, b2, b3, b4, b5, b6, b7⟩, a8, a9, a10⟩ := fr
  obtain ⟨⟨t1, t2, t3, t4⟩, f1, ⟨l1, l2, l3⟩, l4⟩ := ly
  refine ⟨⟨⟨⟨a1, t1, t2, t3, t4, hn, en⟩, ⟨a2, a3, a4, a5, f1, a9⟩, ⟨l1, l2, l3⟩, fun j hj => ⟨j, hj, l4 j hj⟩, fun j j2 hj hj2 e => ?_⟩, u0_cr l1 b1 b2 b5 b6 b7, ⟨Nat.zero_le _, a8, fun _ h => absurd h (Nat.not_lt_zero _)⟩, a6, Or.inl rfl, fun h => absurd (show (0 : Int32) = 1 from h) (by decide)⟩, Nat.zero_le _, a7, fun _ h => absurd h (Nat.not_lt_zero _)⟩
  rw [l4 j hj, l4 j2 hj2] at e
  omega
theorem u0_ar {M : Me} {h n : Nat} (fr : FrN M h n) : AR M h x0 ∧ TA M h 0 (fun _ => 0) := by
  obtain ⟨a1, ⟨a2, a3, a4⟩, ⟨b1, b2, b3⟩, ⟨c1, c2, c3, c4⟩, d1, d2, d3, d4, d5, d6⟩ := fr
  have e : rwM M h = fun p => m_l M 31 n p := by rw [← a2]
  refine ⟨⟨a1, ⟨?_, fun _ h => absurd h (Nat.not_lt_zero _)⟩, ⟨Nat.zero_le _, b1, fun _ h => absurd h (Nat.not_lt_zero _)⟩, b2, Or.inl rfl, fun h => absurd (show (0 : Int32) = 1 from h) (by decide)⟩, Nat.zero_le _, b3, fun _ h => absurd h (Nat.not_lt_zero _)⟩
  show LA (rwM M h) u0
  rw [e]
  refine ⟨u0_c, ⟨c1, c2, c3, c4⟩, fun k a j h _ => ?_, fun _ h => absurd h (Nat.not_lt_zero _), fun _ h => absurd h (Nat.not_lt_zero _), fun _ _ h => absurd h (Nat.not_lt_zero _), fun _ h => absurd h (Nat.not_lt_zero _)⟩
  obtain ⟨rfl, rfl, hj⟩ := u0_R h
  rcases (show j = 0 ∨ j = 1 ∨ j = 2 ∨ j = 3 ∨ j = 4 ∨ j = 5 by omega) with rfl | rfl | rfl | rfl | rfl | rfl
  · exact d1.trans (by decide)
  · exact d2.trans (by decide)
  · exact d3.trans (by decide)
  · exact d4.trans (by decide)
  · exact d5.trans (by decide)
  · exact d6.trans (by decide)
theorem Fr.sm {M M2 : Me} {h n : Nat} (f : Fr M h n) (hh : h < m_n M) (hn : n + 204 ≤ m_n M) (hs : ∀ a, a < m_n M → Sm M M2 a) : Fr M2 h n := by
  obtain ⟨a1, ⟨a2, a3, a4, a5⟩, a6, a7, ⟨b1, b2, b3, b4, b5, b6, b7⟩, a8, a9, a10⟩ := f
  have r : ∀ k a, a < m_n M → m_r M2 k a 0 = m_r M k a 0 := fun k a ha => (hs a ha).2.2.2.2 k 0
  have i : ∀ k a j, a < m_n M → m_i M2 k a j = m_i M k a j := fun k a j ha => (hs a ha).2.2.1 k j
  refine ⟨by rw [(hs h hh).1]; exact a1, ⟨by rw [r _ _ hh]; exact a2, by rw [r _ _ hh]; exact a3, by rw [r _ _ hh]; exact a4, by rw [r _ _ hh]; exact a5⟩, by rw [i _ _ _ hh]; exact a6, by rw [i _ _ _ (by omega)]; exact a7, ⟨by rw [i _ _ _ (by omega)]; exact b1, by rw [i _ _ _ (by omega)]; exact b2, by rw [r _ _ (by omega)]; exact b3, by rw [r _ _ (by omega)]; exact b4, by rw [i _ _ _ (by omega)]; exact b5, by rw [i _ _ _ (by omega)]; exact b6, fun j => by rw [i _ _ _ (by omega)]; exact b7 j⟩, by rw [i _ _ _ (by omega)]; exact a8, by rw [r _ _ (by omega)]; exact a9, by rw [r _ _ (by omega)]; exact a10⟩
theorem ly_sm {M M2 : Me} {n : Nat} (hn : n + 591 ≤ m_n M) (hs : ∀ a, a < m_n M → Sm M M2 a) (ly : (m_t M (n + 5) = 9 ∧ m_t M (n + 6) = 41 ∧ m_t M (n + 201) = 3 ∧ m_t M (n + 202) = 55) ∧ m_r M 228 (n + 5) 0 = n + 6 ∧ (LY M (n + 7) ∧ LY M (n + 104) ∧ ∀ i, i < 4 → LY M (n + (203 + 97 * i))) ∧ ∀ j, j < 4 → m_r M 55 (n + 202) j = n + (203 + 97 * j)) : (m_t M2 (n + 5) = 9 ∧ m_t M2 (n + 6) = 41 ∧ m_t M2 (n + 201) = 3 ∧ m_t M2 (n + 202) = 55) ∧ m_r M2 228 (n + 5) 0 = n + 6 ∧ (LY M2 (n + 7) ∧ LY M2 (n + 104) ∧ ∀ i, i < 4 → LY M2 (n + (203 + 97 * i))) ∧ ∀ j, j < 4 → m_r M2 55 (n + 202) j = n + (203 + 97 * j) := by
  obtain ⟨⟨t1, t2, t3, t4⟩, f1, ⟨l1, l2, l3⟩, l4⟩ := ly
  refine ⟨⟨(hs _ (by omega)).1.trans t1, (hs _ (by omega)).1.trans t2, (hs _ (by omega)).1.trans t3, (hs _ (by omega)).1.trans t4⟩, ((hs _ (by omega)).2.2.2.2 _ _).trans f1, ⟨l1.sm (fun b _ _ => hs b (by omega)), l2.sm (fun b _ _ => hs b (by omega)), fun i hi => (l3 i hi).sm (fun b _ _ => hs b (by omega))⟩, fun j hj => ((hs _ (by omega)).2.2.2.2 _ _).trans (l4 j hj)⟩
theorem IV.start {M1 M2 : Me} {h n : Nat} (fr : Fr M1 h n) (hn : h < n) (en : m_n M1 = n + 591) (ly : (m_t M1 (n + 5) = 9 ∧ m_t M1 (n + 6) = 41 ∧ m_t M1 (n + 201) = 3 ∧ m_t M1 (n + 202) = 55) ∧ m_r M1 228 (n + 5) 0 = n + 6 ∧ (LY M1 (n + 7) ∧ LY M1 (n + 104) ∧ ∀ i, i < 4 → LY M1 (n + (203 + 97 * i))) ∧ ∀ j, j < 4 → m_r M1 55 (n + 202) j = n + (203 + 97 * j)) (hs : ∀ a, a < m_n M1 → Sm M1 M2 a) (frN : FrN M2 (m_n M1) (m_n M1 + 1)) (en2 : m_n M2 = m_n M1 + 8) (r281 : m_r M2 281 (m_n M1) 0 = m_n M1 + 4) (hW : Wt M2) : IV 0 x0 0 (fun _ => 0) M2 h n (m_n M1) := by
  have fr2 := fr.sm (by omega) (by omega) hs
  have ly2 := ly_sm (by omega) hs ly
  obtain ⟨hB, hT⟩ := u0_br fr2 hn (by omega) ly2
  obtain ⟨hX, hA⟩ := u0_ar frN
  refine ⟨hW, hB, hT, hX, hA, ⟨by omega, fun a ha => ?_⟩, x0_w⟩
  obtain ⟨-, ⟨a2, a3, a4⟩, -⟩ := frN
  rcases ha with q | q | q | q | q
  · omega
  · rw [a2] at q; omega
  · rw [a3] at q; omega
  · rw [a4] at q; omega
  · rw [r281] at q; omega
theorem d_i {M : Me} {b : Nat → Nat → Nat → Int32} {k a j : Nat} (hk : ¬ (k = 26 ∨ k = 27)) : m_i (s_d M b) k a j = m_i M k a j := if_neg hk
theorem AR.bd {M M2 : Me} {h : Nat} {x : Xs} (q : AR M h x) (r : Bd M M2) : AR M2 h x := by
  obtain ⟨b, rfl⟩ := r
  obtain ⟨a1, a2, ⟨a3, a4, a5⟩, a6, a7, a8⟩ := q
  exact ⟨a1, a2, ⟨a3, (d_i (by decide)).trans a4, a5⟩, (d_i (by decide)).trans a6, a7, a8⟩
theorem TA.bd {M M2 : Me} {h t : Nat} {c : Nat → Int32} (q : TA M h t c) (r : Bd M M2) : TA M2 h t c := by
  obtain ⟨b, rfl⟩ := r
  exact ⟨q.1, (d_i (by decide)).trans q.2.1, fun j hj => (d_i (by decide)).trans (q.2.2 j hj)⟩
theorem Wt.bd {M M2 : Me} (w : Wt M) (r : Bd M M2) : Wt M2 := by
  obtain ⟨b, rfl⟩ := r
  exact w
theorem NI_281 {M : Me} {h : Nat} (hn : h < m_n M) : m_r (f_NI M h) 281 h 0 = m_n M + 3 := (N7_h hn).1.2.2.2.1
theorem IV.up {K K2 : Nat} {x : Xs} {t : Nat} {tc : Nat → Int32} {M : Me} {h n h2 : Nat} (j : IV K x t tc M h n h2) (hk : K ≤ K2) : IV K2 x t tc M h n h2 := ⟨j.1, j.2.1, j.2.2.1, j.2.2.2.1, j.2.2.2.2.1, j.2.2.2.2.2.1, j.2.2.2.2.2.2.up hk⟩
/-- one act, both sides -/
theorem IV.act {K : Nat} {x x2 : Xs} {t t2 : Nat} {tc tc2 : Nat → Int32} {M M2 M3 : Me} {h n h2 : Nat} (j : IV K x t tc M h n h2) (hB : BR M2 h n x2) (hT : TX M2 n t2 tc2) (hC : Cf M M2 h n) (hX : AR M3 h2 x2) (hO : On M2 M3) (hW : Wt M3) (hA : TA M3 h2 t2 tc2) (hF : WfX (K + 1) x2) : IV (K + 1) x2 t2 tc2 M3 h n h2 := ⟨hW, hB.on hO, hT.on hO, hX, hA, (j.2.2.2.2.2.1.cf hC).on hO, hF⟩
