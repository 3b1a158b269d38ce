theorem al_fld {mk : Me → Me} {M : Me} {fld h t c u P : Nat} {F : Me → Nat → Prop} (nw : Nw M) (hh : h < m_n M) (hP : m_r M fld h 0 = P) (hPn : P < m_n M) (hne : P ≠ h) (hmk : ∀ M1, Nw M1 → Kt M M1 → Mk M1 (mk M1) c u) (hF : ∀ M1, Nw M1 → Kt M M1 → F (mk M1) (m_n M1)) (hS : ∀ X Y a, F X a → (∀ b, a ≤ b → b < a + c → Sm X Y b) → F Y a) : ∀ k j, j < k → F (f_al mk M fld h t k) (m_n M + c * j) := by
  intro k
  induction k with
  | zero => intro j hj; omega
  | succ k ih =>
    intro j hj
    obtain ⟨i1, i2, i3, i4, ⟨i5, i6⟩, i7, i8, i9⟩ := al_inv (mk := mk) (t := t) nw hh hP hPn hne hmk k
    obtain ⟨k1, k0, k2, k3, k4, k5⟩ := hmk _ i2 i3
    simp only [f_al, i7]
    by_cases e : j = k
    · subst e
      refine hS (mk (f_al mk M fld h t j)) _ _ (by rw [← i1]; exact hF _ i2 i3) (fun b h1 h2 => Sm.sr (by omega))
    · have hcj : c * j + c ≤ c * k := by rw [← Nat.mul_succ]; exact Nat.mul_le_mul_left c (by omega)
      refine hS _ _ _ (ih j (by omega)) (fun b h1 h2 => (k3 b (by rw [i1]; omega)).tr (Sm.sr (by omega)))
theorem cA4 {S f : Nat} : cA S 4 f = S + (10 + 4 * f) := rfl
theorem LY.sm {X Y : Me} {S : Nat} (q : LY X S) (s : ∀ b, S ≤ b → b < S + 97 → Sm X Y b) : LY Y S := by
  obtain ⟨⟨a1, a2, a3, a4, a5, a6, a7, a8, a9⟩, b1, b2, b3, b4⟩ := q
  have r : ∀ k a j, S ≤ a → a < S + 97 → m_r Y k a j = m_r X k a j := fun k a j h1 h2 => (s a h1 h2).2.2.2.2 k j
  refine ⟨⟨(s S (by omega) (by omega)).1.trans a1, (r _ _ _ (by omega) (by omega)).trans a2, (r _ _ _ (by omega) (by omega)).trans a3, (r _ _ _ (by omega) (by omega)).trans a4, (r _ _ _ (by omega) (by omega)).trans a5, (r _ _ _ (by omega) (by omega)).trans a6, (r _ _ _ (by omega) (by omega)).trans a7, (r _ _ _ (by omega) (by omega)).trans a8, (r _ _ _ (by omega) (by omega)).trans a9⟩, fun p hp => (r _ _ _ (by omega) (by omega)).trans (b1 p hp), fun f hf => ?_, fun e he => (r _ _ _ (by omega) (by omega)).trans (b3 e he), fun d hd => (r _ _ _ (by omega) (by omega)).trans (b4 d hd)⟩
  obtain ⟨c1, c2, c3, c4⟩ := b2 f hf
  exact ⟨(r _ _ _ (by omega) (by omega)).trans c1, (r _ _ _ (by rw [cA4]; omega) (by rw [cA4]; omega)).trans c2, (r _ _ _ (by rw [cA4]; omega) (by rw [cA4]; omega)).trans c3, (r _ _ _ (by rw [cA4]; omega) (by rw [cA4]; omega)).trans c4⟩
theorem MI_ly {M : Me} {h me b : Nat} (nw : Nw M) (ht : m_t M h = 5) (hme : m_t M me = 4) (hb : m_t M b = 7) : m_r (f_MI M h me b) 165 h 0 = m_n M ∧ m_r (f_MI M h me b) 167 h 0 = m_n M + 41 ∧ (∀ j, j < 40 → m_r (f_MI M h me b) 53 (m_n M) j = m_n M + 1 + j) ∧ ∀ j, j < 10 → m_r (f_MI M h me b) 54 (m_n M + 41) j = m_n M + 42 + j := by
  have hB : h < m_n M := nw h (by rw [ht]; decide)
  have p1 : Pg M h (f_M1 M h me) := (Pg.rf nw).sr hB
  obtain ⟨p2, s2, t2, x2, n2, e2⟩ := p1.al (fld := 165) (t := 53) (N := 40) (K := k_40) (c := 1) (u := 1) (mk := fun X => f_eR (s_new X 2 0) (m_n X) b 0) hB k40 (by decide) (fun X nwX kX => mkE nwX (kX.u ((Nw.kt (t := 53) (z := 40) p1.2.1).u hb))) (by decide) (by decide) (by decide) (by decide) (by decide)
  have p3 : Pg M h (f_M3 M h me b) := p2.si hB
  obtain ⟨p4, s4, t4, x4, n4, e4⟩ := p3.al (fld := 167) (t := 54) (N := 10) (K := k_10) (c := 1) (u := 0) (mk := fun X => f_dR (s_new X 1 0) (m_n X) 0 0 0) hB k10 (by decide) (fun X nwX kX => mkD nwX) (by decide) (by decide) (by decide) (by decide) (by decide)
  have p5 : Pg M h (f_MI M h me b) := p4.si hB
  have hn1 : m_n (f_M1 M h me) = m_n M := rfl
  have hn3 : m_n (f_M3 M h me b) = m_n M + 41 := by
    have : m_n (f_M3 M h me b) = m_n (f_M1 M h me) + 1 + 1 * k_40 := n2
    rw [k40] at this
    omega
  have hn5 : m_n (f_MI M h me b) = m_n M + 52 := by
    have : m_n (f_MI M h me b) = m_n (f_M3 M h me b) + 1 + 1 * k_10 := n4
    rw [k10] at this
    omega
  have q4 : ∀ k j, m_r (f_M4 M h me b) k h j = m_r (s_r (f_M3 M h me b) 167 h 0 (m_n (f_M3 M h me b))) k h j := s4.2.2.2.2
  have q2 : ∀ k j, m_r (f_M2 M h me b) k h j = m_r (s_r (f_M1 M h me) 165 h 0 (m_n (f_M1 M h me))) k h j := s2.2.2.2.2
  have r0 : m_r (f_MI M h me b) 164 h 0 = me := by
    have : m_r (f_MI M h me b) 164 h 0 = m_r (f_M4 M h me b) 164 h 0 := rfl
    rw [this, q4, r_sk (by decide)]
    have : m_r (f_M3 M h me b) 164 h 0 = m_r (f_M2 M h me b) 164 h 0 := rfl
    rw [this, q2, r_sk (by decide)]
    exact if_pos ⟨rfl, rfl, rfl⟩
  have r1 : m_r (f_MI M h me b) 165 h 0 = m_n M := by
    have : m_r (f_MI M h me b) 165 h 0 = m_r (f_M4 M h me b) 165 h 0 := rfl
    rw [this, q4, r_sk (by decide)]
    have : m_r (f_M3 M h me b) 165 h 0 = m_r (f_M2 M h me b) 165 h 0 := rfl
    rw [this, q2, r_sr, if_pos ⟨rfl, rfl, rfl⟩, hn1]
  have r2 : m_r (f_MI M h me b) 167 h 0 = m_n (f_M3 M h me b) := by
    have : m_r (f_MI M h me b) 167 h 0 = m_r (f_M4 M h me b) 167 h 0 := rfl
    rw [this, q4, r_sr, if_pos ⟨rfl, rfl, rfl⟩]
  refine ⟨r1, by rw [r2, hn3], fun j hj => ?_, fun j hj => ?_⟩
  · have a1 : m_r (f_MI M h me b) 53 (m_n M) j = m_r (f_M3 M h me b) 53 (m_n M) j := (x4 (m_n M) (by rw [hn3]; omega) (by omega)).2.2.2.2 53 j
    have a2 : m_r (f_M3 M h me b) 53 (m_n M) j = m_n M + 1 + 1 * j := e2 j hj
    rw [a1, a2, Nat.one_mul]
  · skip
    have a3 : m_r (f_MI M h me b) 54 (m_n M + 41) j = m_r (f_M4 M h me b) 54 (m_n M + 41) j := rfl
    have a4 : m_r (f_M4 M h me b) 54 (m_n (f_M3 M h me b)) j = m_n (f_M3 M h me b) + 1 + 1 * j := e4 j hj
    rw [hn3] at a4
    rw [a3, a4, Nat.one_mul]
set_option maxHeartbeats 4000000 in
theorem SI_ly0 {B M : Me} {h me b : Nat} (hB : h < m_n B) (p1 : Pg B h (f_S1 M h)) (hme : m_t (f_S1 M h) me = 4) (hb : m_t (f_S1 M h) b = 7) (hne : h ≠ me) (hnb : h ≠ b) (hn0 : m_n (f_S1 M h) = m_n M + 1) (hmeB : me < m_n M) (hbB : b < m_n M) (hhM : h < m_n M) (hS : m_n M = h + 1) (hBt : m_t B h = 8) : LY (f_SI M h me b) h := by
  obtain ⟨-, -, -, ⟨r0, r1, r2, r3, r4, r5⟩, -, -, -, -, -⟩ := SI_pg hB p1 hme hb hne hnb hn0 hmeB hbB hhM
  obtain ⟨p2, s2, t2, x2, n2, e2⟩ := p1.al (fld := 213) (t := 50) (N := 6) (K := k_6) (c := 1) (u := 5) (mk := fun X => f_pR (s_new X 6 0) (m_n X) 0) hB k6 (by decide) (fun X nwX kX => mkP nwX) (by decide) (by decide) (by decide) (by decide) (by decide)
  have p3 : Pg B h (f_S3 M h) := p2.si hB
  have hn3 : m_n (f_S3 M h) = m_n M + 8 := by
    have : m_n (f_S3 M h) = m_n (f_S1 M h) + 1 + 1 * k_6 := n2
    rw [k6] at this
    omega
  have hb3 : m_t (f_S3 M h) b = 7 := by
    have : m_t (f_S3 M h) b = m_t (f_S1 M h) b := (x2 b (by omega) (Ne.symm hnb)).1
    rw [this, hb]
  have hme3 : m_t (f_S3 M h) me = 4 := by
    have : m_t (f_S3 M h) me = m_t (f_S1 M h) me := (x2 me (by omega) (Ne.symm hne)).1
    rw [this, hme]
  obtain ⟨p4, s4, t4, x4, n4, e4⟩ := p3.al (fld := 215) (t := 51) (N := 8) (K := k_8) (c := 4) (u := 9) (mk := fun X => f_wI (s_new X 10 0) (m_n X) b) hB k8 (by decide) (fun X nwX kX => mkW nwX (kX.u ((Nw.kt (t := 51) (z := 8) p3.2.1).u hb3))) (by decide) (by decide) (by decide) (by decide) (by decide)
  have p5 : Pg B h (f_S5 M h b) := p4.si hB
  have hn5 : m_n (f_S5 M h b) = m_n M + 41 := by
    have : m_n (f_S5 M h b) = m_n (f_S3 M h) + 1 + 4 * k_8 := n4
    rw [k8] at this
    omega
  have p6 : Pg B h (f_S6 M h b) := (p5.arr (t := 21) (z := 8) hB (by decide) (by decide) (by decide) (by decide)).sr hB
  have hn6 : m_n (f_S6 M h b) = m_n M + 42 := by
    have : m_n (f_S6 M h b) = m_n (f_S5 M h b) + 1 := rfl
    omega
  have x6 : ∀ a, a < m_n (f_S5 M h b) → a ≠ h → Sm (f_S5 M h b) (f_S6 M h b) a := fun a ha hn => (Sm.sn (Nat.ne_of_lt ha)).tr (Sm.sr hn)
  have x5 : ∀ a, a < m_n (f_S3 M h) → a ≠ h → Sm (f_S3 M h) (f_S5 M h b) a := fun a ha hn => (x4 a ha hn).tr (Sm.si hn)
  have hb6 : m_t (f_S6 M h b) b = 7 := by rw [(x6 b (by omega) (Ne.symm hnb)).1, (x5 b (by omega) (Ne.symm hnb)).1, hb3]
  have hme6 : m_t (f_S6 M h b) me = 4 := by rw [(x6 me (by omega) (Ne.symm hne)).1, (x5 me (by omega) (Ne.symm hne)).1, hme3]
  obtain ⟨cn, cn2, cn3, cn4⟩ := MI_cn (M := s_new (f_S6 M h b) 5 0) (h := m_n (f_S6 M h b)) (me := me) (b := b) p6.2.1.sn tn_n ((Nw.kt p6.2.1).u hme6) ((Nw.kt p6.2.1).u hb6)
  obtain ⟨p7a, x7, t7⟩ := p6.obj hB cn
  have p7 : Pg B h (f_S7 M h me b) := p7a.sr hB
  have hn7 : m_n (f_S7 M h me b) = m_n M + 95 := by
    have : m_n (f_S7 M h me b) = m_n (s_new (f_S6 M h b) 5 0) + 52 := cn2
    rw [n_sn] at this
    omega
  have p8 : Pg B h (f_SI M h me b) := (p7.arr (t := 22) (z := 6) hB (by decide) (by decide) (by decide) (by decide)).sr hB
  have x8 : ∀ a, a < m_n (f_S7 M h me b) → a ≠ h → Sm (f_S7 M h me b) (f_SI M h me b) a := fun a ha hn => (Sm.sn (Nat.ne_of_lt ha)).tr (Sm.sr hn)
  have x78 : ∀ a, a < m_n (f_S6 M h b) → a ≠ h → Sm (f_S6 M h b) (f_SI M h me b) a := fun a ha hn => ((x7 a ha).tr (Sm.sr hn)).tr (x8 a (by omega) hn)
  have x58 : ∀ a, a < m_n (f_S5 M h b) → a ≠ h → Sm (f_S5 M h b) (f_SI M h me b) a := fun a ha hn => (x6 a ha hn).tr (x78 a (by omega) hn)
  have x38 : ∀ a, a < m_n (f_S3 M h) → a ≠ h → Sm (f_S3 M h) (f_SI M h me b) a := fun a ha hn => (x5 a ha hn).tr (x58 a (by omega) hn)
  have ml := MI_ly (M := s_new (f_S6 M h b) 5 0) (h := m_n (f_S6 M h b)) (me := me) (b := b) p6.2.1.sn tn_n ((Nw.kt p6.2.1).u hme6) ((Nw.kt p6.2.1).u hb6)
  obtain ⟨m1, m2, m3, m4⟩ := ml
  have e44 : m_n (s_new (f_S6 M h b) 5 0) = h + 44 := by rw [n_sn, hn6, hS]
  rw [e44] at m1 m2 m3 m4
  rw [hn6, hS] at m1 m2
  have xM : ∀ a, a < m_n (f_S7 M h me b) → a ≠ h → Sm (f_MI (s_new (f_S6 M h b) 5 0) (m_n (f_S6 M h b)) me b) (f_SI M h me b) a := fun a ha hn => (Sm.sr hn).tr (x8 a ha hn)
  rw [hn6, hS] at xM m3 m4
  rw [hS] at r0 r1 r2 r3 r4 r5 hn0 hn3 hn5 hn7
  have fl := al_fld (mk := fun X => f_wI (s_new X 10 0) (m_n X) b) (M := s_r (s_new (f_S3 M h) 51 8) 215 h 0 (m_n (f_S3 M h))) (fld := 215) (h := h) (t := 51) (c := 4) (u := 9) (P := m_n (f_S3 M h)) (F := fun X a => m_r X 250 a 0 = a + 1 ∧ m_r X 251 a 0 = a + 2 ∧ m_r X 252 a 0 = a + 3) (Nw.sn (t := 51) (z := 8) p3.2.1) (by rw [n_sr, n_sn]; omega) (by rw [r_se]) (by rw [n_sr, n_sn]; omega) (by omega) (fun X nwX kX => mkW nwX (kX.u ((Nw.kt (t := 51) (z := 8) p3.2.1).u hb3))) (fun X nwX kX => by
    obtain ⟨w1, w2, w3, -⟩ := wI_r (M := s_new X 10 0) (h := m_n X) (b := b) (Nat.lt_succ_self _)
    exact ⟨w1, w2, w3⟩) (fun X Y a ⟨q1, q2, q3⟩ s => by
    have s0 := (s a (by omega) (by omega)).2.2.2.2
    exact ⟨(s0 250 0).trans q1, (s0 251 0).trans q2, (s0 252 0).trans q3⟩) k_8
  have mb : m_n (s_r (s_new (f_S3 M h) 51 8) 215 h 0 (m_n (f_S3 M h))) = h + 10 := by rw [n_sr, n_sn, hn3]
  rw [mb] at fl
  refine ⟨⟨p8.2.2.2.1.trans hBt, r0, r1, r2, r3, r4, r5, ?_, ?_⟩, fun p hp => ?_, fun f hf => ⟨?_, ?_⟩, fun e he => ?_, fun d hd => ?_⟩
  · rw [(xM (h + 43) (by omega) (by omega)).2.2.2.2]; exact m1
  · rw [(xM (h + 43) (by omega) (by omega)).2.2.2.2]; exact m2
  · have a1 : m_r (f_S3 M h) 50 (m_n (f_S1 M h)) p = m_n (f_S1 M h) + 1 + 1 * p := e2 p hp
    rw [hn0] at a1
    rw [(x38 (h + 2) (by omega) (by omega)).2.2.2.2]
    refine a1.trans ?_
    show h + 1 + 1 + 1 + 1 * p = h + (3 + 1 * p)
    omega
  · have a1 : m_r (f_S5 M h b) 51 (m_n (f_S3 M h)) f = m_n (f_S3 M h) + 1 + 4 * f := e4 f hf
    rw [hn3] at a1
    rw [(x58 (h + 9) (by omega) (by omega)).2.2.2.2]
    refine a1.trans ?_
    rw [cA4]; omega
  · obtain ⟨q1, q2, q3⟩ := fl f (by rw [k8]; exact hf)
    have y1 : ∀ k, m_r (f_SI M h me b) k (cA h 4 f) 0 = m_r (f_al (fun X => f_wI (s_new X 10 0) (m_n X) b) (s_r (s_new (f_S3 M h) 51 8) 215 h 0 (m_n (f_S3 M h))) 215 h 51 k_8) k (h + 10 + 4 * f) 0 := fun k => by
      rw [cA4, (x58 (h + (10 + 4 * f)) (by omega) (by omega)).2.2.2.2]
      rw [show h + (10 + 4 * f) = h + 10 + 4 * f by omega]
      rfl
    rw [y1, y1, y1, q1, q2, q3]
    refine ⟨?_, ?_, ?_⟩
    · show h + 10 + 4 * f + 1 = h + (11 + 4 * f); omega
    · show h + 10 + 4 * f + 2 = h + (12 + 4 * f); omega
    · show h + 10 + 4 * f + 3 = h + (13 + 4 * f); omega
  · rw [(xM (h + 44) (by omega) (by omega)).2.2.2.2, m3 e he]
    show h + 44 + 1 + e = h + (45 + 1 * e); omega
  · rw [(xM (h + 85) (by omega) (by omega)).2.2.2.2, m4 d hd]
    show h + 44 + 42 + d = h + (86 + 1 * d); omega
theorem SI_ly {M : Me} {h me b : Nat} (nw : Nw M) (ht : m_t M h = 8) (hme : m_t M me = 4) (hb : m_t M b = 7) (hS : m_n M = h + 1) : LY (f_SI M h me b) h := by
  have hB : h < m_n M := nw h (by rw [ht]; decide)
  have hmeB : me < m_n M := nw me (by rw [hme]; decide)
  have hbB : b < m_n M := nw b (by rw [hb]; decide)
  have hne : h ≠ me := fun e => by rw [e, hme] at ht; cases ht
  have hnb : h ≠ b := fun e => by rw [e, hb] at ht; cases ht
  have p1 : Pg M h (f_S1 M h) := (Pg.sh hB (Pg.rf nw)).sr hB
  exact SI_ly0 hB p1 ((sh_kt nw).u hme) ((sh_kt nw).u hb) hne hnb rfl hmeB hbB hB hS ht
theorem HI_ly {M : Me} {h me b : Nat} (nw : Nw M) (ht : m_t M h = 3) (hme : m_t M me = 4) (hb : m_t M b = 7) : m_t (f_HI M h me b) (m_n M) = 55 ∧ ∀ j, j < 4 → LY (f_HI M h me b) (m_n M + 1 + 97 * j) := by
  have hB : h < m_n M := nw h (by rw [ht]; decide)
  obtain ⟨p2, s2, t2, x2, n2, e2⟩ := (Pg.rf (h := h) nw).al (fld := 132) (t := 55) (N := 4) (K := k_4) (c := 97) (u := 7) (mk := fun X => f_SI (s_new X 8 0) (m_n X) me b) hB k4 (by decide) (fun X nwX kX => mkS nwX (kX.u ((Nw.kt (t := 55) (z := 4) nw).u hme)) (kX.u ((Nw.kt (t := 55) (z := 4) nw).u hb))) (by decide) (by decide) (by decide) (by decide) (by decide)
  refine ⟨t2, fun j hj => ?_⟩
  have fl := al_fld (mk := fun X => f_SI (s_new X 8 0) (m_n X) me b) (M := s_r (s_new M 55 4) 132 h 0 (m_n M)) (fld := 132) (h := h) (t := 55) (c := 97) (u := 7) (P := m_n M) (F := LY) (Nw.sn (t := 55) (z := 4) nw) (by rw [n_sr, n_sn]; omega) (by rw [r_se]) (by rw [n_sr, n_sn]; omega) (by omega) (fun X nwX kX => mkS nwX (kX.u ((Nw.kt (t := 55) (z := 4) nw).u hme)) (kX.u ((Nw.kt (t := 55) (z := 4) nw).u hb))) (fun X nwX kX => SI_ly (Nw.sn (t := 8) (z := 0) nwX) (tn_n (z := 0)) ((Nw.kt (t := 8) (z := 0) nwX).u (kX.u ((Nw.kt (t := 55) (z := 4) nw).u hme))) ((Nw.kt (t := 8) (z := 0) nwX).u (kX.u ((Nw.kt (t := 55) (z := 4) nw).u hb))) rfl) (fun X Y a q s => q.sm s) k_4 j (by rw [k4]; exact hj)
  have mb : m_n (s_r (s_new M 55 4) 132 h 0 (m_n M)) = m_n M + 1 := rfl
  rw [mb] at fl
  have fl2 : LY (f_H1 M h me b) (m_n M + 1 + 97 * j) := fl
  exact fl2.sm (fun b h1 h2 => Sm.si (by omega))
theorem BI_fin {M B3 X4 X5 X6 Z : Me} {h : Nat} (hB : h < m_n M) (z3 : ∀ a, a < m_n M + 7 → a ≠ h → Sm B3 Z a) (z4 : ∀ a, a < m_n M + 104 → a ≠ h → Sm X4 Z a) (z5 : ∀ a, a < m_n M + 201 → a ≠ h → Sm X5 Z a) (z6 : ∀ a, a ≠ h → Sm X6 Z a) (t3 : m_t B3 (m_n M + 5) = 9) (g36 : m_t B3 (m_n M + 6) = 41) (f3 : m_r B3 228 (m_n M + 5) 0 = m_n M + 6) (ly4 : LY X4 (m_n M + 7)) (ly5 : LY X5 (m_n M + 104)) (t6 : m_t X6 (m_n M + 201) = 3) (l61 : m_t X6 (m_n M + 202) = 55) (l62 : ∀ j, j < 4 → LY X6 (m_n M + 202 + 1 + 97 * j)) (c63 : ∀ j, j < 4 → m_r X6 55 (m_n M + 202) j = m_n M + 202 + 1 + 97 * j) : (m_t Z (m_n M + 5) = 9 ∧ m_t Z (m_n M + 6) = 41 ∧ m_t Z (m_n M + 201) = 3 ∧ m_t Z (m_n M + 202) = 55) ∧ m_r Z 228 (m_n M + 5) 0 = m_n M + 6 ∧ (LY Z (m_n M + 7) ∧ LY Z (m_n M + 104) ∧ ∀ i, i < 4 → LY Z (m_n M + (203 + 97 * i))) ∧ ∀ j, j < 4 → m_r Z 55 (m_n M + 202) j = m_n M + (203 + 97 * j) := by
  generalize m_n M = n at hB z3 z4 z5 z6 t3 g36 f3 ly4 ly5 t6 l61 l62 c63 ⊢
  refine ⟨⟨?_, ?_, ?_, ?_⟩, ?_, ⟨?_, ?_, fun i hi => ?_⟩, fun j hj => ?_⟩
  · rw [(z3 _ (by omega) (by omega)).1]; exact t3
  · rw [(z3 _ (by omega) (by omega)).1]; exact g36
  · rw [(z6 _ (by omega)).1]; exact t6
  · rw [(z6 _ (by omega)).1]; exact l61
  · rw [(z3 _ (by omega) (by omega)).2.2.2.2]; exact f3
  · exact ly4.sm (fun b h1 h2 => z4 b (by omega) (by omega))
  · exact ly5.sm (fun b h1 h2 => z5 b (by omega) (by omega))
  · have q := (l62 i hi).sm (fun b h1 h2 => z6 b (by omega))
    rw [show n + (203 + 97 * i) = n + 202 + 1 + 97 * i by omega]
    exact q
  · rw [(z6 _ (by omega)).2.2.2.2]
    rw [c63 j hj]; omega
set_option maxHeartbeats 8000000 in
theorem BI_ly {M : Me} {h : Nat} (nw : Nw M) (ht : m_t M h = 11) : (m_t (f_BI M h) (m_n M + 5) = 9 ∧ m_t (f_BI M h) (m_n M + 6) = 41 ∧ m_t (f_BI M h) (m_n M + 201) = 3 ∧ m_t (f_BI M h) (m_n M + 202) = 55) ∧ m_r (f_BI M h) 228 (m_n M + 5) 0 = m_n M + 6 ∧ (LY (f_BI M h) (m_n M + 7) ∧ LY (f_BI M h) (m_n M + 104) ∧ ∀ i, i < 4 → LY (f_BI M h) (m_n M + (203 + 97 * i))) ∧ ∀ j, j < 4 → m_r (f_BI M h) 55 (m_n M + 202) j = m_n M + (203 + 97 * j) := by
  have hB : h < m_n M := nw h (by rw [ht]; decide)
  obtain ⟨p3, n3, g3, t3, i3, hme3, hb3⟩ := B3_pg nw ht
  unfold f_BI f_B6 f_B5 f_B4
  have nb1 : m_n (f_B1 M) = m_n M + 2 := rfl
  have f3 : m_r (f_B3 M h) 228 (m_n M + 5) 0 = m_n M + 6 := by
    have e1 : m_n M + 5 ≠ h := by omega
    show m_r (s_r (f_tx (s_new (f_B2 M) 9 0) (m_n (f_B2 M))) 260 h 0 (m_n (f_B2 M))) 228 (m_n (f_B2 M)) 0 = _
    rw [r_sk (by decide)]
    exact r_se
  have g36 : m_t (f_B3 M h) (m_n M + 6) = 41 := tn_n (M := s_new (f_B2 M) 9 0) (t := 41) (z := 60)
  generalize f_B3 M h = B3 at p3 n3 g3 t3 i3 hme3 hb3 f3 g36 ⊢
  rw [nb1]
  have ly4 := SI_ly (M := s_new B3 8 0) (h := m_n B3) (me := m_n M) (b := m_n M + 2) (p3.2.1.sn (t := 8) (z := 0)) (tn_n (z := 0)) ((Nw.kt (t := 8) (z := 0) p3.2.1).u hme3) ((Nw.kt (t := 8) (z := 0) p3.2.1).u hb3) rfl
  obtain ⟨c4, c4n, ⟨c41, c42⟩, ⟨c43, c44, c45, c46⟩, c47⟩ := SI_cn (M := s_new B3 8 0) (h := m_n B3) (me := m_n M) (b := m_n M + 2) (p3.2.1.sn (t := 8) (z := 0)) (tn_n (z := 0)) ((Nw.kt (t := 8) (z := 0) p3.2.1).u hme3) ((Nw.kt (t := 8) (z := 0) p3.2.1).u hb3)
  generalize f_SI (s_new B3 8 0) (m_n B3) (m_n M) (m_n M + 2) = X4 at c4 c4n c41 c42 c43 c44 c45 c46 c47 ly4 ⊢
  obtain ⟨p4a, x4, t4⟩ := p3.obj (tg := 8) hB c4
  have p4 : Pg M h (s_r X4 261 h 0 (m_n B3)) := p4a.sr hB
  have hme4 : m_t (s_r X4 261 h 0 (m_n B3)) (m_n M) = 4 := by rw [t_sr, (x4 (m_n M) (by omega)).1, hme3]
  have hb4 : m_t (s_r X4 261 h 0 (m_n B3)) (m_n M + 2) = 7 := by rw [t_sr, (x4 (m_n M + 2) (by omega)).1, hb3]
  have e8 : m_n (s_new B3 8 0) = m_n M + 8 := by rw [n_sn, n3]
  have c4n' : m_n X4 = m_n M + 104 := by rw [c4n, e8]
  have ly5 := SI_ly (M := s_new (s_r X4 261 h 0 (m_n B3)) 8 0) (h := m_n (s_r X4 261 h 0 (m_n B3))) (me := m_n M) (b := m_n M + 2) (p4.2.1.sn (t := 8) (z := 0)) (tn_n (z := 0)) ((Nw.kt (t := 8) (z := 0) p4.2.1).u hme4) ((Nw.kt (t := 8) (z := 0) p4.2.1).u hb4) rfl
  obtain ⟨c5, c5n, -⟩ := SI_cn (M := s_new (s_r X4 261 h 0 (m_n B3)) 8 0) (h := m_n (s_r X4 261 h 0 (m_n B3))) (me := m_n M) (b := m_n M + 2) (p4.2.1.sn (t := 8) (z := 0)) (tn_n (z := 0)) ((Nw.kt (t := 8) (z := 0) p4.2.1).u hme4) ((Nw.kt (t := 8) (z := 0) p4.2.1).u hb4)
  generalize f_SI (s_new (s_r X4 261 h 0 (m_n B3)) 8 0) (m_n (s_r X4 261 h 0 (m_n B3))) (m_n M) (m_n M + 2) = X5 at c5 c5n ly5 ⊢
  obtain ⟨p5a, x5, t5⟩ := p4.obj (tg := 8) hB c5
  have p5 : Pg M h (s_r X5 262 h 0 (m_n (s_r X4 261 h 0 (m_n B3)))) := p5a.sr hB
  have hme5 : m_t (s_r X5 262 h 0 (m_n (s_r X4 261 h 0 (m_n B3)))) (m_n M) = 4 := by rw [t_sr, (x5 (m_n M) (by rw [n_sr]; omega)).1, hme4]
  have hb5 : m_t (s_r X5 262 h 0 (m_n (s_r X4 261 h 0 (m_n B3)))) (m_n M + 2) = 7 := by rw [t_sr, (x5 (m_n M + 2) (by rw [n_sr]; omega)).1, hb4]
  have c5n' : m_n X5 = m_n M + 201 := by rw [c5n, n_sn, n_sr, c4n']
  have ly6 := HI_ly (M := s_new (s_r X5 262 h 0 (m_n (s_r X4 261 h 0 (m_n B3)))) 3 0) (h := m_n (s_r X5 262 h 0 (m_n (s_r X4 261 h 0 (m_n B3))))) (me := m_n M) (b := m_n M + 2) (p5.2.1.sn (t := 3) (z := 0)) (tn_n (z := 0)) ((Nw.kt (t := 3) (z := 0) p5.2.1).u hme5) ((Nw.kt (t := 3) (z := 0) p5.2.1).u hb5)
  obtain ⟨c6, c60, c61, c62, c63⟩ := HI_cn (M := s_new (s_r X5 262 h 0 (m_n (s_r X4 261 h 0 (m_n B3)))) 3 0) (h := m_n (s_r X5 262 h 0 (m_n (s_r X4 261 h 0 (m_n B3))))) (me := m_n M) (b := m_n M + 2) (p5.2.1.sn (t := 3) (z := 0)) (tn_n (z := 0)) ((Nw.kt (t := 3) (z := 0) p5.2.1).u hme5) ((Nw.kt (t := 3) (z := 0) p5.2.1).u hb5)
  generalize f_HI (s_new (s_r X5 262 h 0 (m_n (s_r X4 261 h 0 (m_n B3)))) 3 0) (m_n (s_r X5 262 h 0 (m_n (s_r X4 261 h 0 (m_n B3))))) (m_n M) (m_n M + 2) = X6 at c6 c60 c61 c62 c63 ly6 ⊢
  rw [e8] at c41 c42 c45 c46 c47
  rw [n3] at c41 c42 c43 c44
  rw [n_sr] at c5 c6 c61 c62
  have e202 : m_n (s_new (s_r X5 262 h 0 (m_n (s_r X4 261 h 0 (m_n B3)))) 3 0) = m_n M + 202 := by rw [n_sn, n_sr, c5n']
  rw [e202] at c60 c62 c63
  rw [c5n'] at c61 c62
  simp only [n_sr]
  obtain ⟨p6a, x6, t6⟩ := p5.obj (tg := 3) hB (by rw [n_sr]; exact c6)
  obtain ⟨k1, k2, ⟨k3, k4, k5, k6, k7⟩, z3, z4, z6⟩ := BI_abs (X4 := X4) (X5 := X5) (X6 := X6) rfl ht hB p3 n3 g3 t3 i3 c4 c4n' c5 c5n' c6 c60
  have lt1 : ∀ j, h < m_n M + j := fun j => Nat.lt_add_right _ hB
  have lt2 : ∀ {i j}, i < j → m_n M + i < m_n M + j := fun q => Nat.add_lt_add_left q _
  rw [n3] at ly4
  rw [n_sr, c4n'] at ly5
  rw [e202] at ly6
  rw [n_sr, c5n'] at t6
  exact BI_fin (M := M) (B3 := B3) (X4 := X4) (X5 := X5) (X6 := X6) hB (fun a ha hh => z3 a (by rw [n3]; exact ha) hh) (fun a ha hh => z4 a (by rw [c4n']; exact ha) hh) (fun a ha hh => (Sm.sr hh).tr ((x6 a (by rw [n_sr, c5n']; exact ha)).tr (z6 a hh))) z6 t3 g36 f3 ly4 ly5 t6 ly6.1 ly6.2 c63
