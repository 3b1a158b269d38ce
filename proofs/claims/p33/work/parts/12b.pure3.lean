/-! the small constructors with arrays, and MatchBureau() -/
def f_ms (M : Me) (h : Nat) : Me := s_r (s_new M 23 9) 148 h 0 (m_n M)
def f_tx (M : Me) (h : Nat) : Me := s_i (s_r (s_new M 41 60) 228 h 0 (m_n M)) 229 h 0 0
def f_sg (M : Me) (h ch : Nat) : Me := s_i (s_r (s_new (s_r M 196 h 0 ch) 30 8) 197 h 0 (m_n M)) 198 h 0 0
theorem ms_cn {M : Me} {h : Nat} (nw : Nw M) (ht : m_t M h = 4) : Cn M h (f_ms M h) := by
  have hB : h < m_n M := nw h (by rw [ht]; decide)
  have p : Pg M h (f_ms M h) := ((Pg.rf nw).arr (t := 23) (z := 9) hB (by decide) (by decide) (by decide) (by decide)).sr hB
  exact ⟨p, Wta.obj (t := 4) (by rw [p.2.2.2.1, ht]) (tf_4 (by
    have e : m_r (f_ms M h) 148 h 0 = m_n M := r_se
    rw [e]; exact tn_n (z := 9))) (by decide) (by decide) (by decide)⟩
theorem tx_cn {M : Me} {h : Nat} (nw : Nw M) (ht : m_t M h = 9) : Cn M h (f_tx M h) ∧ m_i (f_tx M h) 229 h 0 = 0 := by
  have hB : h < m_n M := nw h (by rw [ht]; decide)
  have p : Pg M h (f_tx M h) := (((Pg.rf nw).arr (t := 41) (z := 60) hB (by decide) (by decide) (by decide) (by decide)).sr hB).si hB
  exact ⟨⟨p, Wta.obj (t := 9) (by rw [p.2.2.2.1, ht]) (tf_9 (by
    have e : m_r (f_tx M h) 228 h 0 = m_n M := r_se
    rw [e]; exact tn_n (z := 60))) (by decide) (by decide) (by decide)⟩, i_se⟩
/-- new Segment(new char[0]) -/
def f_g0 (X : Me) : Me := f_sg (s_new (s_new X 7 0) 40 0) (m_n X) (m_n (s_new X 7 0))
theorem g0_cn {X : Me} (nw : Nw X) : Cn (s_new X 7 0) (m_n X) (f_g0 X) := by
  have hB : m_n X < m_n (s_new X 7 0) := Nat.lt_succ_self _
  have p : Pg (s_new X 7 0) (m_n X) (f_g0 X) := ((((((Pg.rf (nw.sn (t := 7) (z := 0))).arr (t := 40) (z := 0) hB (by decide) (by decide) (by decide) (by decide)).sr hB).arr (t := 30) (z := 8) hB (by decide) (by decide) (by decide) (by decide)).sr hB).si hB)
  have n2 : m_n (s_new (s_new X 7 0) 40 0) = m_n X + 2 := rfl
  have n1 : m_n (s_new X 7 0) = m_n X + 1 := rfl
  refine ⟨p, Wta.obj (t := 7) (by rw [p.2.2.2.1]; exact tn_n) (tf_7 ?_ ?_) (by decide) (by decide) (by decide)⟩
  · have e : m_r (f_g0 X) 196 (m_n X) 0 = m_n X + 1 := by
      unfold f_g0 f_sg
      rw [r_si, r_sk (by decide), r_sn, if_neg (by rw [n_sr, n2]; omega), r_se, n1]
    rw [e]
    have a2 : m_t (f_g0 X) (m_n X + 1) = m_t (s_new (s_new (s_new X 7 0) 40 0) 30 8) (m_n X + 1) := rfl
    rw [a2, t_sn, if_neg (by rw [n2]; omega)]
    exact tn_n (M := s_new X 7 0) (z := 0)
  · have e : m_r (f_g0 X) 197 (m_n X) 0 = m_n X + 2 := r_se
    rw [e]
    exact tn_n (M := s_new (s_new X 7 0) 40 0) (z := 8)
/-- MatchBureau() at h -/
def f_B1 (M : Me) : Me := f_ms (s_new M 4 0) (m_n M)
def f_B2 (M : Me) : Me := f_g0 (f_B1 M)
def f_B3 (M : Me) (h : Nat) : Me := s_r (f_tx (s_new (f_B2 M) 9 0) (m_n (f_B2 M))) 260 h 0 (m_n (f_B2 M))
noncomputable def f_B4 (M : Me) (h : Nat) : Me := s_r (f_SI (s_new (f_B3 M h) 8 0) (m_n (f_B3 M h)) (m_n M) (m_n (f_B1 M))) 261 h 0 (m_n (f_B3 M h))
noncomputable def f_B5 (M : Me) (h : Nat) : Me := s_r (f_SI (s_new (f_B4 M h) 8 0) (m_n (f_B4 M h)) (m_n M) (m_n (f_B1 M))) 262 h 0 (m_n (f_B4 M h))
noncomputable def f_B6 (M : Me) (h : Nat) : Me := s_r (f_HI (s_new (f_B5 M h) 3 0) (m_n (f_B5 M h)) (m_n M) (m_n (f_B1 M))) 263 h 0 (m_n (f_B5 M h))
noncomputable def f_BI (M : Me) (h : Nat) : Me := s_i (f_B6 M h) 264 h 0 0
/-- what holds of a new MatchBureau at h, whose parts begin at n -/
def Fr (M : Me) (h n : Nat) : Prop := m_t M h = 11 ∧ (m_r M 260 h 0 = n + 5 ∧ m_r M 261 h 0 = n + 7 ∧ m_r M 262 h 0 = n + 104 ∧ m_r M 263 h 0 = n + 201) ∧ m_i M 264 h 0 = 0 ∧ m_i M 229 (n + 5) 0 = 0 ∧ (m_i M 214 (n + 7) 0 = 0 ∧ m_i M 216 (n + 7) 0 = 0 ∧ m_r M 212 (n + 7) 0 = n + 8 ∧ m_r M 218 (n + 7) 0 = n + 50 ∧ m_i M 166 (n + 50) 0 = 0 ∧ m_i M 168 (n + 50) 0 = 0 ∧ ∀ j, m_i M 20 (n + 8) j = shr j) ∧ m_i M 133 (n + 201) 0 = 0 ∧ m_r M 132 (n + 201) 0 = n + 202 ∧ m_r M 55 (n + 202) 0 = n + 203
/-- cells below the end of A, but for h, are in B as in A -/
def Sx (h : Nat) (A B : Me) : Prop := ∀ a, a < m_n A → a ≠ h → Sm A B a
theorem Sx.at {h n : Nat} {A B : Me} (x : Sx h A B) (hn : m_n A = n) {a : Nat} (ha : a < n) (hh : h < a) : Sm A B a := x a (by rw [hn]; exact ha) (Nat.ne_of_gt hh)
theorem BI_x {M B X : Me} {h key tg n : Nat} (hB : h < m_n M) (p : Pg M h B) (c : Cn (s_new B tg 0) (m_n B) X) (hn : m_n B = n) : Pg M h (s_r X key h 0 (m_n B)) ∧ (∀ a, a < n → Sm B X a) ∧ m_t X n = tg ∧ Sx h B (s_r X key h 0 (m_n B)) := by
  obtain ⟨p4a, x4, t4⟩ := p.obj (tg := tg) hB c
  exact ⟨p4a.sr hB, fun a ha => x4 a (by rw [hn]; exact ha), by rw [← hn]; exact t4, fun a ha hh => (x4 a ha).tr (Sm.sr hh)⟩
theorem Sx.tr {h : Nat} {A B C : Me} (x : Sx h A B) (y : Sx h B C) (hn : m_n A ≤ m_n B) : Sx h A C := fun a ha hh => (x a ha hh).tr (y a (Nat.lt_of_lt_of_le ha hn) hh)
/-- MatchBureau() from its third part on, the large parts as variables -/
theorem BI_abs {M B3 X4 X5 X6 Z : Me} {h : Nat} (hZ : Z = s_i (s_r X6 263 h 0 (m_n X5)) 264 h 0 0) (ht : m_t M h = 11) (hB : h < m_n M) (p3 : Pg M h B3) (n3 : m_n B3 = m_n M + 7) (g3 : m_r B3 260 h 0 = m_n M + 5) (t3 : m_t B3 (m_n M + 5) = 9) (i3 : m_i B3 229 (m_n M + 5) 0 = 0)
    (c4 : Cn (s_new B3 8 0) (m_n B3) X4) (c4n : m_n X4 = m_n M + 104)
    (c5 : Cn (s_new (s_r X4 261 h 0 (m_n B3)) 8 0) (m_n X4) X5) (c5n : m_n X5 = m_n M + 201)
    (c6 : Cn (s_new (s_r X5 262 h 0 (m_n X4)) 3 0) (m_n X5) X6) (c6n : m_n X6 = m_n M + 591) :
    Cn M h Z ∧ m_n Z = m_n M + 591 ∧ (m_t Z h = 11 ∧ m_r Z 260 h 0 = m_n M + 5 ∧ m_r Z 261 h 0 = m_n M + 7 ∧ m_r Z 262 h 0 = m_n M + 104 ∧ m_r Z 263 h 0 = m_n M + 201) ∧ Sx h B3 Z ∧ Sx h X4 Z ∧ ∀ a, a ≠ h → Sm X6 Z a := by
  obtain ⟨p4, x4, t4, y34⟩ := BI_x (key := 261) hB p3 c4 n3
  obtain ⟨p5, x5, t5, y45⟩ := BI_x (key := 262) hB p4 c5 (n := m_n M + 104) c4n
  obtain ⟨p6, x6, t6, y56⟩ := BI_x (key := 263) hB p5 c6 (n := m_n M + 201) c5n
  have p7 : Pg M h Z := by rw [hZ]; exact p6.si hB
  have yX : ∀ a, a ≠ h → Sm X6 Z a := fun a hn => by rw [hZ]; exact (Sm.sr hn).tr (Sm.si hn)
  have y6Z : Sx h (s_r X5 262 h 0 (m_n X4)) Z := fun a ha hh => by rw [hZ]; exact (y56 a ha hh).tr (Sm.si hh)
  have y4Z : Sx h (s_r X4 261 h 0 (m_n B3)) Z := y45.tr y6Z (by show m_n X4 ≤ m_n X5; rw [c4n, c5n]; exact Nat.add_le_add_left (by decide) _)
  have y3Z : Sx h B3 Z := y34.tr y4Z (by show m_n B3 ≤ m_n X4; rw [c4n, n3]; exact Nat.add_le_add_left (by decide) _)
  have yX4 : Sx h X4 Z := fun a ha hh => (Sm.sr hh).tr (y4Z a ha hh)
  have yX5 : Sx h X5 Z := fun a ha hh => (Sm.sr hh).tr (y6Z a ha hh)
  have l7 : h < m_n M + 7 := Nat.lt_add_right _ hB
  have l104 : h < m_n M + 104 := Nat.lt_add_right _ hB
  have l201 : h < m_n M + 201 := Nat.lt_add_right _ hB
  have g6 : ∀ k, k ≠ 263 → m_r Z k h 0 = m_r (s_r X5 262 h 0 (m_n X4)) k h 0 := fun k hk => by rw [hZ, r_si, r_sk hk, (x6 h l201).2.2.2.2]; rfl
  have g5 : ∀ k, k ≠ 262 → m_r (s_r X5 262 h 0 (m_n X4)) k h 0 = m_r (s_r X4 261 h 0 (m_n B3)) k h 0 := fun k hk => by rw [r_sk hk, (x5 h l104).2.2.2.2]
  have r0 : m_r Z 260 h 0 = m_n M + 5 := by rw [g6 _ (by decide), g5 _ (by decide), r_sk (by decide), (x4 h l7).2.2.2.2, g3]
  have r1 : m_r Z 261 h 0 = m_n M + 7 := by rw [g6 _ (by decide), g5 _ (by decide), r_se, n3]
  have r2 : m_r Z 262 h 0 = m_n M + 104 := by rw [g6 _ (by decide), r_se, c4n]
  have r3 : m_r Z 263 h 0 = m_n M + 201 := by rw [hZ, r_si, r_se, c5n]
  have tt : m_t Z h = 11 := by rw [p7.2.2.2.1, ht]
  have q0 : m_t Z (m_r Z 260 h 0) = 9 := by rw [r0, (y3Z.at n3 (Nat.add_lt_add_left (by decide) _) (Nat.lt_add_right _ hB)).1]; exact t3
  have q1 : m_t Z (m_r Z 261 h 0) = 8 := by rw [r1, (yX4.at c4n (Nat.add_lt_add_left (by decide) _) l7).1]; exact t4
  have q2 : m_t Z (m_r Z 262 h 0) = 8 := by rw [r2, (yX5.at c5n (Nat.add_lt_add_left (by decide) _) l104).1]; exact t5
  have q3 : m_t Z (m_r Z 263 h 0) = 3 := by rw [r3, (yX (m_n M + 201) (Nat.ne_of_gt l201)).1]; exact t6
  exact ⟨⟨p7, Wta.obj (t := 11) tt (tf_11 q0 q1 q2 q3) (by decide) (by decide) (by decide)⟩, by rw [hZ]; exact c6n, ⟨tt, r0, r1, r2, r3⟩, y3Z, yX4, yX⟩
theorem B3_pg {M : Me} {h : Nat} (nw : Nw M) (ht : m_t M h = 11) : Pg M h (f_B3 M h) ∧ m_n (f_B3 M h) = m_n M + 7 ∧ m_r (f_B3 M h) 260 h 0 = m_n M + 5 ∧ m_t (f_B3 M h) (m_n M + 5) = 9 ∧ m_i (f_B3 M h) 229 (m_n M + 5) 0 = 0 ∧ m_t (f_B3 M h) (m_n M) = 4 ∧ m_t (f_B3 M h) (m_n M + 2) = 7 := by
  have hB : h < m_n M := nw h (by rw [ht]; decide)
  obtain ⟨p1, x1, t1⟩ := (Pg.rf (h := h) nw).obj (tg := 4) hB (ms_cn (nw.sn (t := 4) (z := 0)) (tn_n (z := 0)))
  obtain ⟨p2, x2, t2⟩ := p1.obj (tg := 7) hB (g0_cn p1.2.1)
  have ctx := tx_cn (p2.2.1.sn (t := 9) (z := 0)) (tn_n (z := 0))
  obtain ⟨p3a, x3, t3⟩ := p2.obj (tg := 9) hB ctx.1
  have n1 : m_n (f_ms (s_new M 4 0) (m_n M)) = m_n M + 2 := rfl
  have n2 : m_n (f_g0 (f_ms (s_new M 4 0) (m_n M))) = m_n M + 5 := rfl
  have y3 : ∀ a, a < m_n M + 5 → a ≠ h → Sm (f_g0 (f_ms (s_new M 4 0) (m_n M))) (f_B3 M h) a := fun a ha hn => (x3 a ha).tr (Sm.sr hn)
  refine ⟨p3a.sr hB, rfl, r_se, t3, ctx.2, ?_, ?_⟩
  · rw [(y3 (m_n M) (by omega) (by omega)).1, (x2 (m_n M) (by omega)).1]; exact t1
  · rw [(y3 (m_n M + 2) (by omega) (by omega)).1]; exact t2
set_option maxHeartbeats 8000000 in
theorem BI_cn {M : Me} {h : Nat} (nw : Nw M) (ht : m_t M h = 11) : Cn M h (f_BI M h) ∧ m_n (f_BI M h) = m_n M + 591 ∧ Fr (f_BI M h) h (m_n M) := by
  have hB : h < m_n M := nw h (by rw [ht]; decide)
  obtain ⟨p3, n3, g3, t3, i3, hme3, hb3⟩ := B3_pg nw ht
  unfold f_BI f_B6 f_B5 f_B4
  have nb1 : m_n (f_B1 M) = m_n M + 2 := rfl
  generalize f_B3 M h = B3 at p3 n3 g3 t3 i3 hme3 hb3 ⊢
  rw [nb1]
  obtain ⟨c4, c4n, ⟨c41, c42⟩, ⟨c43, c44, c45, c46⟩, c47⟩ := SI_cn (M := s_new B3 8 0) (h := m_n B3) (me := m_n M) (b := m_n M + 2) (p3.2.1.sn (t := 8) (z := 0)) (tn_n (z := 0)) ((Nw.kt (t := 8) (z := 0) p3.2.1).u hme3) ((Nw.kt (t := 8) (z := 0) p3.2.1).u hb3)
  generalize f_SI (s_new B3 8 0) (m_n B3) (m_n M) (m_n M + 2) = X4 at c4 c4n c41 c42 c43 c44 c45 c46 c47 ⊢
  obtain ⟨p4a, x4, t4⟩ := p3.obj (tg := 8) hB c4
  have p4 : Pg M h (s_r X4 261 h 0 (m_n B3)) := p4a.sr hB
  have hme4 : m_t (s_r X4 261 h 0 (m_n B3)) (m_n M) = 4 := by rw [t_sr, (x4 (m_n M) (by omega)).1, hme3]
  have hb4 : m_t (s_r X4 261 h 0 (m_n B3)) (m_n M + 2) = 7 := by rw [t_sr, (x4 (m_n M + 2) (by omega)).1, hb3]
  have e8 : m_n (s_new B3 8 0) = m_n M + 8 := by rw [n_sn, n3]
  have c4n' : m_n X4 = m_n M + 104 := by rw [c4n, e8]
  obtain ⟨c5, c5n, -⟩ := SI_cn (M := s_new (s_r X4 261 h 0 (m_n B3)) 8 0) (h := m_n (s_r X4 261 h 0 (m_n B3))) (me := m_n M) (b := m_n M + 2) (p4.2.1.sn (t := 8) (z := 0)) (tn_n (z := 0)) ((Nw.kt (t := 8) (z := 0) p4.2.1).u hme4) ((Nw.kt (t := 8) (z := 0) p4.2.1).u hb4)
  generalize f_SI (s_new (s_r X4 261 h 0 (m_n B3)) 8 0) (m_n (s_r X4 261 h 0 (m_n B3))) (m_n M) (m_n M + 2) = X5 at c5 c5n ⊢
  obtain ⟨p5a, x5, t5⟩ := p4.obj (tg := 8) hB c5
  have p5 : Pg M h (s_r X5 262 h 0 (m_n (s_r X4 261 h 0 (m_n B3)))) := p5a.sr hB
  have hme5 : m_t (s_r X5 262 h 0 (m_n (s_r X4 261 h 0 (m_n B3)))) (m_n M) = 4 := by rw [t_sr, (x5 (m_n M) (by rw [n_sr]; omega)).1, hme4]
  have hb5 : m_t (s_r X5 262 h 0 (m_n (s_r X4 261 h 0 (m_n B3)))) (m_n M + 2) = 7 := by rw [t_sr, (x5 (m_n M + 2) (by rw [n_sr]; omega)).1, hb4]
  have c5n' : m_n X5 = m_n M + 201 := by rw [c5n, n_sn, n_sr, c4n']
  obtain ⟨c6, c60, c61, c62, c63⟩ := HI_cn (M := s_new (s_r X5 262 h 0 (m_n (s_r X4 261 h 0 (m_n B3)))) 3 0) (h := m_n (s_r X5 262 h 0 (m_n (s_r X4 261 h 0 (m_n B3))))) (me := m_n M) (b := m_n M + 2) (p5.2.1.sn (t := 3) (z := 0)) (tn_n (z := 0)) ((Nw.kt (t := 3) (z := 0) p5.2.1).u hme5) ((Nw.kt (t := 3) (z := 0) p5.2.1).u hb5)
  generalize f_HI (s_new (s_r X5 262 h 0 (m_n (s_r X4 261 h 0 (m_n B3)))) 3 0) (m_n (s_r X5 262 h 0 (m_n (s_r X4 261 h 0 (m_n B3))))) (m_n M) (m_n M + 2) = X6 at c6 c60 c61 c62 c63 ⊢
  rw [e8] at c41 c42 c45 c46 c47
  rw [n3] at c41 c42 c43 c44
  rw [n_sr] at c5 c6 c61 c62
  have e202 : m_n (s_new (s_r X5 262 h 0 (m_n (s_r X4 261 h 0 (m_n B3)))) 3 0) = m_n M + 202 := by rw [n_sn, n_sr, c5n']
  rw [e202] at c60 c62 c63
  rw [c5n'] at c61 c62
  simp only [n_sr]
  obtain ⟨k1, k2, ⟨k3, k4, k5, k6, k7⟩, z3, z4, z6⟩ := BI_abs (X4 := X4) (X5 := X5) (X6 := X6) rfl ht hB p3 n3 g3 t3 i3 c4 c4n' c5 c5n' c6 c60
  have lt1 : ∀ j, h < m_n M + j := fun j => Nat.lt_add_right _ hB
  have lt2 : ∀ {i j}, i < j → m_n M + i < m_n M + j := fun q => Nat.add_lt_add_left q _
  refine ⟨k1, k2, k3, ⟨k4, k5, k6, k7⟩, i_se, ?_, ⟨?_, ?_, ?_, ?_, ?_, ?_, fun j => ?_⟩, ?_, ?_, ?_⟩
  · rw [(z3.at n3 (lt2 (by decide)) (lt1 5)).2.2.1]; exact i3
  · rw [(z4.at c4n' (lt2 (by decide)) (lt1 7)).2.2.1]; exact c43
  · rw [(z4.at c4n' (lt2 (by decide)) (lt1 7)).2.2.1]; exact c44
  · rw [(z4.at c4n' (lt2 (by decide)) (lt1 7)).2.2.2.2]; exact c41
  · rw [(z4.at c4n' (lt2 (by decide)) (lt1 7)).2.2.2.2]; exact c42
  · rw [(z4.at c4n' (lt2 (by decide)) (lt1 50)).2.2.1]; exact c45
  · rw [(z4.at c4n' (lt2 (by decide)) (lt1 50)).2.2.1]; exact c46
  · rw [(z4.at c4n' (lt2 (by decide)) (lt1 8)).2.2.1]; exact c47 j
  · rw [(z6 _ (Nat.ne_of_gt (lt1 201))).2.2.1]; exact c61
  · rw [(z6 _ (Nat.ne_of_gt (lt1 201))).2.2.2.2]; exact c62
  · rw [(z6 _ (Nat.ne_of_gt (lt1 202))).2.2.2.2]; exact c63 0 (by decide)
