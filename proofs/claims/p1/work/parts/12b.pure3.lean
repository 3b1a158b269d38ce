/-! the small constructors with arrays, and MatchBureau() -/
def f_ms (M : Me) (h : Nat) : Me := s_r (s_new M 23 9) 148 h 0 (m_n M)
def f_tx (M : Me) (h : Nat) : Me := s_i (s_r (s_new M 41 60) 228 h 0 (m_n M)) 229 h 0 0
def f_sg (M : Me) (h ch : Nat) : Me := s_i (s_r (s_new (s_r M 196 h 0 ch) 30 8) 197 h 0 (m_n M)) 198 h 0 0
theorem ms_cn {M : Me} {h : Nat} (nw : Nw M) (ht : m_t M h = 4) : Cn M h (f_ms M h) := by
  have hB : h < m_n M := nw h (by rw [ht]; decide)
  have p : Pg M h (f_ms M h) := ((Pg.rf nw).arr (t := 23) (z := 9) hB (by decide) (by decide) (by decide) (by decide)).sr hB
  exact ⟨p, Wta.obj (t := 4) (by rw [p.2.2.2.1, ht]) (tf_4 (by
    have e : m_r (f_ms M h) 148 h 0 = m_n M := r_se
    rw [e]; exact tn_n (z := 9))) (by decide) (by decide) (by decide)⟩
theorem tx_cn {M : Me} {h : Nat} (nw : Nw M) (ht : m_t M h = 9) : Cn M h (f_tx M h) ∧ m_i (f_tx M h) 229 h 0 = 0 := by
  have hB : h < m_n M := nw h (by rw [ht]; decide)
  have p : Pg M h (f_tx M h) := (((Pg.rf nw).arr (t := 41) (z := 60) hB (by decide) (by decide) (by decide) (by decide)).sr hB).si hB
  exact ⟨⟨p, Wta.obj (t := 9) (by rw [p.2.2.2.1, ht]) (tf_9 (by
    have e : m_r (f_tx M h) 228 h 0 = m_n M := r_se
    rw [e]; exact tn_n (z := 60))) (by decide) (by decide) (by decide)⟩, i_se⟩
/-- new Segment(new char[0]) -/
def f_g0 (X : Me) : Me := f_sg (s_new (s_new X 7 0) 40 0) (m_n X) (m_n (s_new X 7 0))
theorem g0_cn {X : Me} (nw : Nw X) : Cn (s_new X 7 0) (m_n X) (f_g0 X) := by
  have hB : m_n X < m_n (s_new X 7 0) := Nat.lt_succ_self _
  have p : Pg (s_new X 7 0) (m_n X) (f_g0 X) := ((((((Pg.rf (nw.sn (t := 7) (z := 0))).arr (t := 40) (z := 0) hB (by decide) (by decide) (by decide) (by decide)).sr hB).arr (t := 30) (z := 8) hB (by decide) (by decide) (by decide) (by decide)).sr hB).si hB)
  have n2 : m_n (s_new (s_new X 7 0) 40 0) = m_n X + 2 := rfl
  have n1 : m_n (s_new X 7 0) = m_n X + 1 := rfl
  refine ⟨p, Wta.obj (t := 7) (by rw [p.2.2.2.1]; exact tn_n) (tf_7 ?_ ?_) (by decide) (by decide) (by decide)⟩
  · have e : m_r (f_g0 X) 196 (m_n X) 0 = m_n X + 1 := by
      unfold f_g0 f_sg
      rw [r_si, r_sk (by decide), r_sn, if_neg (by rw [n_sr, n2]; omega), r_se, n1]
    rw [e]
    have a2 : m_t (f_g0 X) (m_n X + 1) = m_t (s_new (s_new (s_new X 7 0) 40 0) 30 8) (m_n X + 1) := rfl
    rw [a2, t_sn, if_neg (by rw [n2]; omega)]
    exact tn_n (M := s_new X 7 0) (z := 0)
  · have e : m_r (f_g0 X) 197 (m_n X) 0 = m_n X + 2 := r_se
    rw [e]
    exact tn_n (M := s_new (s_new X 7 0) 40 0) (z := 8)
/-- MatchBureau() at h -/
def f_B1 (M : Me) : Me := f_ms (s_new M 4 0) (m_n M)
def f_B2 (M : Me) : Me := f_g0 (f_B1 M)
def f_B3 (M : Me) (h : Nat) : Me := s_r (f_tx (s_new (f_B2 M) 9 0) (m_n (f_B2 M))) 260 h 0 (m_n (f_B2 M))
noncomputable def f_B4 (M : Me) (h : Nat) : Me := s_r (f_SI (s_new (f_B3 M h) 8 0) (m_n (f_B3 M h)) (m_n M) (m_n (f_B1 M))) 261 h 0 (m_n (f_B3 M h))
noncomputable def f_B5 (M : Me) (h : Nat) : Me := s_r (f_SI (s_new (f_B4 M h) 8 0) (m_n (f_B4 M h)) (m_n M) (m_n (f_B1 M))) 262 h 0 (m_n (f_B4 M h))
noncomputable def f_B6 (M : Me) (h : Nat) : Me := s_r (f_HI (s_new (f_B5 M h) 3 0) (m_n (f_B5 M h)) (m_n M) (m_n (f_B1 M))) 263 h 0 (m_n (f_B5 M h))
noncomputable def f_BI (M : Me) (h : Nat) : Me := s_i (f_B6 M h) 264 h 0 0
/-- what holds of a new MatchBureau at h, whose parts begin at n -/
def Fr (M : Me) (h n : Nat) : Prop := m_t M h = 11 ∧ (m_r M 260 h 0 = n + 5 ∧ m_r M 261 h 0 = n + 7 ∧ m_r M 262 h 0 = n + 104 ∧ m_r M 263 h 0 = n + 201) ∧ m_i M 264 h 0 = 0 ∧ m_i M 229 (n + 5) 0 = 0 ∧ (m_i M 214 (n + 7) 0 = 0 ∧ m_i M 216 (n + 7) 0 = 0 ∧ m_r M 212 (n + 7) 0 = n + 8 ∧ m_r M 218 (n + 7) 0 = n + 50 ∧ m_i M 166 (n + 50) 0 = 0 ∧ m_i M 168 (n + 50) 0 = 0 ∧ ∀ j, m_i M 20 (n + 8) j = shr j) ∧ m_i M 133 (n + 201) 0 = 0 ∧ m_r M 132 (n + 201) 0 = n + 202 ∧ m_r M 55 (n + 202) 0 = n + 203
set_option maxHeartbeats 8000000 in
/-- MatchBureau() from its third part on, the large parts as variables -/
theorem BI_abs {M B3 X4 X5 X6 : Me} {h : Nat} (nw : Nw M) (ht : m_t M h = 11) (hB : h < m_n M) (p3 : Pg M h B3) (n3 : m_n B3 = m_n M + 7) (g3 : m_r B3 260 h 0 = m_n M + 5) (t3 : m_t B3 (m_n M + 5) = 9) (i3 : m_i B3 229 (m_n M + 5) 0 = 0)
    (c4 : Cn (s_new B3 8 0) (m_n B3) X4) (c4n : m_n X4 = m_n M + 104) (c41 : m_r X4 212 (m_n M + 7) 0 = m_n M + 8) (c42 : m_r X4 218 (m_n M + 7) 0 = m_n M + 50) (c43 : m_i X4 214 (m_n M + 7) 0 = 0) (c44 : m_i X4 216 (m_n M + 7) 0 = 0) (c45 : m_i X4 166 (m_n M + 50) 0 = 0) (c46 : m_i X4 168 (m_n M + 50) 0 = 0) (c47 : ∀ j, m_i X4 20 (m_n M + 8) j = shr j)
    (c5 : Cn (s_new (s_r X4 261 h 0 (m_n B3)) 8 0) (m_n X4) X5) (c5n : m_n X5 = m_n M + 201)
    (c6 : Cn (s_new (s_r X5 262 h 0 (m_n X4)) 3 0) (m_n X5) X6) (c6n : m_n X6 = m_n M + 591) (c61 : m_i X6 133 (m_n M + 201) 0 = 0) (c62 : m_r X6 132 (m_n M + 201) 0 = m_n M + 202) (c63 : m_r X6 55 (m_n M + 202) 0 = m_n M + 203) :
    Cn M h (s_i (s_r X6 263 h 0 (m_n X5)) 264 h 0 0) ∧ m_n (s_i (s_r X6 263 h 0 (m_n X5)) 264 h 0 0) = m_n M + 591 ∧ Fr (s_i (s_r X6 263 h 0 (m_n X5)) 264 h 0 0) h (m_n M) := by
  obtain ⟨p4a, x4, t4⟩ := p3.obj (tg := 8) hB c4
  have p4 : Pg M h (s_r X4 261 h 0 (m_n B3)) := p4a.sr hB
  obtain ⟨p5a, x5, t5⟩ := p4.obj (tg := 8) hB c5
  have p5 : Pg M h (s_r X5 262 h 0 (m_n X4)) := p5a.sr hB
  obtain ⟨p6a, x6, t6⟩ := p5.obj (tg := 3) hB c6
  have p6 : Pg M h (s_r X6 263 h 0 (m_n X5)) := p6a.sr hB
  have p7 : Pg M h (s_i (s_r X6 263 h 0 (m_n X5)) 264 h 0 0) := p6.si hB
  rw [n_sr] at x5 x6 t5 t6
  have y6 : ∀ a, a < m_n X5 → a ≠ h → Sm X5 (s_i (s_r X6 263 h 0 (m_n X5)) 264 h 0 0) a := fun a ha hn => (((Sm.sr hn).tr (x6 a ha)).tr (Sm.sr hn)).tr (Sm.si hn)
  have y5 : ∀ a, a < m_n X4 → a ≠ h → Sm X4 (s_i (s_r X6 263 h 0 (m_n X5)) 264 h 0 0) a := fun a ha hn => ((Sm.sr hn).tr (x5 a ha)).tr (y6 a (by omega) hn)
  have y4 : ∀ a, a < m_n B3 → a ≠ h → Sm B3 (s_i (s_r X6 263 h 0 (m_n X5)) 264 h 0 0) a := fun a ha hn => (x4 a ha).tr (y5 a (by omega) hn)
  have yX : ∀ a, a ≠ h → Sm X6 (s_i (s_r X6 263 h 0 (m_n X5)) 264 h 0 0) a := fun a hn => (Sm.sr hn).tr (Sm.si hn)
  have g6 : ∀ k, k ≠ 263 → m_r (s_i (s_r X6 263 h 0 (m_n X5)) 264 h 0 0) k h 0 = m_r (s_r X5 262 h 0 (m_n X4)) k h 0 := fun k hk => by rw [r_si, r_sk hk, (x6 h (by omega)).2.2.2.2]
  have g5 : ∀ k, k ≠ 262 → m_r (s_r X5 262 h 0 (m_n X4)) k h 0 = m_r (s_r X4 261 h 0 (m_n B3)) k h 0 := fun k hk => by rw [r_sk hk, (x5 h (by omega)).2.2.2.2]
  have r0 : m_r (s_i (s_r X6 263 h 0 (m_n X5)) 264 h 0 0) 260 h 0 = m_n M + 5 := by rw [g6 _ (by decide), g5 _ (by decide), r_sk (by decide), (x4 h (by omega)).2.2.2.2, g3]
  have r1 : m_r (s_i (s_r X6 263 h 0 (m_n X5)) 264 h 0 0) 261 h 0 = m_n M + 7 := by rw [g6 _ (by decide), g5 _ (by decide), r_se, n3]
  have r2 : m_r (s_i (s_r X6 263 h 0 (m_n X5)) 264 h 0 0) 262 h 0 = m_n M + 104 := by rw [g6 _ (by decide), r_se, c4n]
  have r3 : m_r (s_i (s_r X6 263 h 0 (m_n X5)) 264 h 0 0) 263 h 0 = m_n M + 201 := by rw [r_si, r_se, c5n]
  have tt : m_t (s_i (s_r X6 263 h 0 (m_n X5)) 264 h 0 0) h = 11 := by rw [p7.2.2.2.1, ht]
  rw [n3] at t4
  rw [c4n] at t5
  rw [c5n] at t6
  refine ⟨⟨p7, Wta.obj (t := 11) tt (tf_11 (by rw [r0, (y4 (m_n M + 5) (by omega) (by omega)).1]; exact t3) (by rw [r1, (y5 (m_n M + 7) (by omega) (by omega)).1]; exact t4) (by rw [r2, (y6 (m_n M + 104) (by omega) (by omega)).1]; exact t5) (by rw [r3, (yX (m_n M + 201) (by omega)).1]; exact t6)) (by decide) (by decide) (by decide)⟩, c6n, tt, ⟨r0, r1, r2, r3⟩, i_se, ?_, ⟨?_, ?_, ?_, ?_, ?_, ?_, fun j => ?_⟩, ?_, ?_, ?_⟩
  · rw [(y4 (m_n M + 5) (by omega) (by omega)).2.2.1]; exact i3
  · rw [(y5 (m_n M + 7) (by omega) (by omega)).2.2.1]; exact c43
  · rw [(y5 (m_n M + 7) (by omega) (by omega)).2.2.1]; exact c44
  · rw [(y5 (m_n M + 7) (by omega) (by omega)).2.2.2.2]; exact c41
  · rw [(y5 (m_n M + 7) (by omega) (by omega)).2.2.2.2]; exact c42
  · rw [(y5 (m_n M + 50) (by omega) (by omega)).2.2.1]; exact c45
  · rw [(y5 (m_n M + 50) (by omega) (by omega)).2.2.1]; exact c46
  · rw [(y5 (m_n M + 8) (by omega) (by omega)).2.2.1]; exact c47 j
  · rw [(yX (m_n M + 201) (by omega)).2.2.1]; exact c61
  · rw [(yX (m_n M + 201) (by omega)).2.2.2.2]; exact c62
  · rw [(yX (m_n M + 202) (by omega)).2.2.2.2]; exact c63
theorem B3_pg {M : Me} {h : Nat} (nw : Nw M) (ht : m_t M h = 11) : Pg M h (f_B3 M h) ∧ m_n (f_B3 M h) = m_n M + 7 ∧ m_r (f_B3 M h) 260 h 0 = m_n M + 5 ∧ m_t (f_B3 M h) (m_n M + 5) = 9 ∧ m_i (f_B3 M h) 229 (m_n M + 5) 0 = 0 ∧ m_t (f_B3 M h) (m_n M) = 4 ∧ m_t (f_B3 M h) (m_n M + 2) = 7 := by
  have hB : h < m_n M := nw h (by rw [ht]; decide)
  obtain ⟨p1, x1, t1⟩ := (Pg.rf (h := h) nw).obj (tg := 4) hB (ms_cn (nw.sn (t := 4) (z := 0)) (tn_n (z := 0)))
  obtain ⟨p2, x2, t2⟩ := p1.obj (tg := 7) hB (g0_cn p1.2.1)
  have ctx := tx_cn (p2.2.1.sn (t := 9) (z := 0)) (tn_n (z := 0))
  obtain ⟨p3a, x3, t3⟩ := p2.obj (tg := 9) hB ctx.1
  have n1 : m_n (f_ms (s_new M 4 0) (m_n M)) = m_n M + 2 := rfl
  have n2 : m_n (f_g0 (f_ms (s_new M 4 0) (m_n M))) = m_n M + 5 := rfl
  have y3 : ∀ a, a < m_n M + 5 → a ≠ h → Sm (f_g0 (f_ms (s_new M 4 0) (m_n M))) (f_B3 M h) a := fun a ha hn => (x3 a ha).tr (Sm.sr hn)
  refine ⟨p3a.sr hB, rfl, r_se, t3, ctx.2, ?_, ?_⟩
  · rw [(y3 (m_n M) (by omega) (by omega)).1, (x2 (m_n M) (by omega)).1]; exact t1
  · rw [(y3 (m_n M + 2) (by omega) (by omega)).1]; exact t2
set_option maxHeartbeats 8000000 in
theorem BI_cn {M : Me} {h : Nat} (nw : Nw M) (ht : m_t M h = 11) : Cn M h (f_BI M h) ∧ m_n (f_BI M h) = m_n M + 591 ∧ Fr (f_BI M h) h (m_n M) := by
  have hB : h < m_n M := nw h (by rw [ht]; decide)
  obtain ⟨p3, n3, g3, t3, i3, hme3, hb3⟩ := B3_pg nw ht
  unfold f_BI f_B6 f_B5 f_B4
  have nb1 : m_n (f_B1 M) = m_n M + 2 := rfl
  generalize f_B3 M h = B3 at p3 n3 g3 t3 i3 hme3 hb3 ⊢
  rw [nb1]
  obtain ⟨c4, c4n, ⟨c41, c42⟩, ⟨c43, c44, c45, c46⟩, c47⟩ := SI_cn (M := s_new B3 8 0) (h := m_n B3) (me := m_n M) (b := m_n M + 2) (p3.2.1.sn (t := 8) (z := 0)) (tn_n (z := 0)) ((Nw.kt (t := 8) (z := 0) p3.2.1).u hme3) ((Nw.kt (t := 8) (z := 0) p3.2.1).u hb3)
  generalize f_SI (s_new B3 8 0) (m_n B3) (m_n M) (m_n M + 2) = X4 at c4 c4n c41 c42 c43 c44 c45 c46 c47 ⊢
  obtain ⟨p4a, x4, t4⟩ := p3.obj (tg := 8) hB c4
  have p4 : Pg M h (s_r X4 261 h 0 (m_n B3)) := p4a.sr hB
  have hme4 : m_t (s_r X4 261 h 0 (m_n B3)) (m_n M) = 4 := by rw [t_sr, (x4 (m_n M) (by omega)).1, hme3]
  have hb4 : m_t (s_r X4 261 h 0 (m_n B3)) (m_n M + 2) = 7 := by rw [t_sr, (x4 (m_n M + 2) (by omega)).1, hb3]
  have e8 : m_n (s_new B3 8 0) = m_n M + 8 := by rw [n_sn, n3]
  have c4n' : m_n X4 = m_n M + 104 := by rw [c4n, e8]
  obtain ⟨c5, c5n, -⟩ := SI_cn (M := s_new (s_r X4 261 h 0 (m_n B3)) 8 0) (h := m_n (s_r X4 261 h 0 (m_n B3))) (me := m_n M) (b := m_n M + 2) (p4.2.1.sn (t := 8) (z := 0)) (tn_n (z := 0)) ((Nw.kt (t := 8) (z := 0) p4.2.1).u hme4) ((Nw.kt (t := 8) (z := 0) p4.2.1).u hb4)
  generalize f_SI (s_new (s_r X4 261 h 0 (m_n B3)) 8 0) (m_n (s_r X4 261 h 0 (m_n B3))) (m_n M) (m_n M + 2) = X5 at c5 c5n ⊢
  obtain ⟨p5a, x5, t5⟩ := p4.obj (tg := 8) hB c5
  have p5 : Pg M h (s_r X5 262 h 0 (m_n (s_r X4 261 h 0 (m_n B3)))) := p5a.sr hB
  have hme5 : m_t (s_r X5 262 h 0 (m_n (s_r X4 261 h 0 (m_n B3)))) (m_n M) = 4 := by rw [t_sr, (x5 (m_n M) (by rw [n_sr]; omega)).1, hme4]
  have hb5 : m_t (s_r X5 262 h 0 (m_n (s_r X4 261 h 0 (m_n B3)))) (m_n M + 2) = 7 := by rw [t_sr, (x5 (m_n M + 2) (by rw [n_sr]; omega)).1, hb4]
  have c5n' : m_n X5 = m_n M + 201 := by rw [c5n, n_sn, n_sr, c4n']
  obtain ⟨c6, c60, c61, c62, c63⟩ := HI_cn (M := s_new (s_r X5 262 h 0 (m_n (s_r X4 261 h 0 (m_n B3)))) 3 0) (h := m_n (s_r X5 262 h 0 (m_n (s_r X4 261 h 0 (m_n B3))))) (me := m_n M) (b := m_n M + 2) (p5.2.1.sn (t := 3) (z := 0)) (tn_n (z := 0)) ((Nw.kt (t := 3) (z := 0) p5.2.1).u hme5) ((Nw.kt (t := 3) (z := 0) p5.2.1).u hb5)
  generalize f_HI (s_new (s_r X5 262 h 0 (m_n (s_r X4 261 h 0 (m_n B3)))) 3 0) (m_n (s_r X5 262 h 0 (m_n (s_r X4 261 h 0 (m_n B3))))) (m_n M) (m_n M + 2) = X6 at c6 c60 c61 c62 c63 ⊢
  rw [e8] at c41 c42 c45 c46 c47
  rw [n3] at c41 c42 c43 c44
  rw [n_sr] at c5 c6 c61 c62
  have e202 : m_n (s_new (s_r X5 262 h 0 (m_n (s_r X4 261 h 0 (m_n B3)))) 3 0) = m_n M + 202 := by rw [n_sn, n_sr, c5n']
  rw [e202] at c60 c62 c63
  rw [c5n'] at c61
  simp only [n_sr]
  exact BI_abs (X4 := X4) (X5 := X5) (X6 := X6) nw ht hB p3 n3 g3 t3 i3 c4 c4n' c41 c42 c43 c44 c45 c46 c47 c5 c5n' c6 c60 (by first | exact c61 | (rw [← c5n']; exact c61)) (by first | exact c62 | (rw [← c5n']; exact c62)) (c63 0 (by decide))
