/-! arrays of new objects, and what a constructor has done so far -/
def f_al (mk : Me → Me) (M : Me) (fld h t : Nat) : Nat → Me
  | 0 => M
  | k + 1 => s_r (mk (f_al mk M fld h t k)) t (m_r (f_al mk M fld h t k) fld h 0) k (m_n (f_al mk M fld h t k))
def Mk (M1 M2 : Me) (c u : Nat) : Prop := m_n M2 = m_n M1 + c ∧ 0 < c ∧ Nw M2 ∧ (∀ a, a < m_n M1 → Sm M1 M2 a) ∧ m_t M2 (m_n M1) = u + 1 ∧ ∀ a, m_n M1 ≤ a → Wta M2 a
theorem Kt.sm {M M2 : Me} (nw : Nw M) (h : ∀ a, a < m_n M → Sm M M2 a) : Kt M M2 := fun a ha => (h a (nw a ha)).1
theorem al_inv {mk : Me → Me} {M : Me} {fld h t c u P : Nat} (nw : Nw M) (hh : h < m_n M) (hP : m_r M fld h 0 = P) (hPn : P < m_n M) (hne : P ≠ h) (hmk : ∀ M1, Nw M1 → Kt M M1 → Mk M1 (mk M1) c u) : ∀ k : Nat, m_n (f_al mk M fld h t k) = m_n M + c * k ∧ Nw (f_al mk M fld h t k) ∧ Kt M (f_al mk M fld h t k) ∧ (∀ a, a < m_n M → a ≠ P → Sm M (f_al mk M fld h t k) a) ∧ (m_t (f_al mk M fld h t k) P = m_t M P ∧ m_z (f_al mk M fld h t k) P = m_z M P) ∧ m_r (f_al mk M fld h t k) fld h 0 = P ∧ (∀ j, j < k → m_r (f_al mk M fld h t k) t P j = m_n M + c * j ∧ m_t (f_al mk M fld h t k) (m_n M + c * j) = u + 1) ∧ ∀ a, m_n M ≤ a → Wta M a → Wta (f_al mk M fld h t k) a := by
  intro k
  induction k with
  | zero => exact ⟨by simp [f_al], nw, Kt.rf, fun a _ _ => Sm.rf, ⟨rfl, rfl⟩, hP, fun j hj => by omega, fun a _ h => h⟩
  | succ k ih =>
    obtain ⟨i1, i2, i3, i4, ⟨i5, i6⟩, i7, i8, i9⟩ := ih
    obtain ⟨k1, k0, k2, k3, k4, k5⟩ := hmk _ i2 i3
    have hK1 := Kt.sm i2 k3
    have hPn1 : P < m_n (f_al mk M fld h t k) := by rw [i1]; omega
    have hhn1 : h < m_n (f_al mk M fld h t k) := by rw [i1]; omega
    have hck : c * (k + 1) = c * k + c := Nat.mul_succ c k
    simp only [f_al, i7]
    refine ⟨by rw [n_sr, k1, i1]; omega, k2, i3.tr hK1, fun a ha hp => ?_, ⟨?_, ?_⟩, ?_, fun j hj => ?_, fun a ha hw => ?_⟩
    · exact ((i4 a ha hp).tr (k3 a (by rw [i1]; omega))).tr (Sm.sr hp)
    · rw [t_sr, (k3 P hPn1).1, i5]
    · rw [z_sr, (k3 P hPn1).2.1, i6]
    · rw [r_sr, if_neg (fun q => hne q.2.1.symm), (k3 h hhn1).2.2.2.2, i7]
    · by_cases e : j = k
      · subst e
        rw [r_sr, if_pos ⟨rfl, rfl, rfl⟩, t_sr, ← i1]
        exact ⟨rfl, k4⟩
      · have hjk : j < k := by omega
        have hcj : c * j < c * k := Nat.mul_lt_mul_of_pos_left hjk k0
        rw [r_sr, if_neg (fun q => e q.2.2), (k3 P hPn1).2.2.2.2, t_sr, (k3 (m_n M + c * j) (by rw [i1]; omega)).1]
        exact i8 j hjk
    · have hK2 : Kt (mk (f_al mk M fld h t k)) (s_r (mk (f_al mk M fld h t k)) t P k (m_n (f_al mk M fld h t k))) := fun _ _ => rfl
      refine Wta.keep hK2 (Sm.sr (by omega)) ?_
      by_cases q : a < m_n (f_al mk M fld h t k)
      · exact Wta.keep hK1 (k3 a q) (i9 a ha hw)
      · exact k5 a (by omega)
/-- what a constructor at h has done since B -/
def Pg (B : Me) (h : Nat) (M : Me) : Prop := m_n B ≤ m_n M ∧ Nw M ∧ (∀ a, a < m_n B → a ≠ h → Sm B M a) ∧ m_t M h = m_t B h ∧ ∀ a, m_n B ≤ a → Wta M a
theorem Pg.rf {B : Me} {h : Nat} (nw : Nw B) : Pg B h B := ⟨Nat.le_refl _, nw, fun _ _ _ => Sm.rf, rfl, fun a ha => Wta.zero (Classical.byContradiction fun q => absurd (nw a q) (by omega))⟩
theorem Pg.kt {B M : Me} {h : Nat} (nw : Nw B) (p : Pg B h M) : Kt B M := fun a ha => by
  by_cases e : a = h
  · rw [e]; exact p.2.2.2.1
  · exact (p.2.2.1 a (nw a ha) e).1
theorem Pg.sr {B M : Me} {h k x : Nat} (hB : h < m_n B) (p : Pg B h M) : Pg B h (s_r M k h 0 x) := ⟨p.1, p.2.1, fun a ha hn => (p.2.2.1 a ha hn).tr (Sm.sr hn), p.2.2.2.1, fun a ha => Wta.keep (M := M) (fun _ _ => rfl) (Sm.sr (by omega)) (p.2.2.2.2 a ha)⟩
theorem Pg.si {B M : Me} {h k : Nat} {x : Int32} (hB : h < m_n B) (p : Pg B h M) : Pg B h (s_i M k h 0 x) := ⟨p.1, p.2.1, fun a ha hn => (p.2.2.1 a ha hn).tr (Sm.si hn), p.2.2.2.1, fun a ha => Wta.keep (M := M) (fun _ _ => rfl) (Sm.si (by omega)) (p.2.2.2.2 a ha)⟩
theorem Nw.sn {M : Me} (nw : Nw M) {t z : Nat} : Nw (s_new M t z) := fun a ha => by
  rw [t_sn] at ha
  rw [n_sn]
  by_cases e : a = m_n M
  · omega
  · rw [if_neg e] at ha
    have := nw a ha
    omega
theorem Pg.new {B M : Me} {h t z : Nat} (hB : h < m_n B) (p : Pg B h M) (hw : Wta (s_new M t z) (m_n M)) : Pg B h (s_new M t z) := by
  refine ⟨by rw [n_sn]; have := p.1; omega, p.2.1.sn, fun a ha hn => (p.2.2.1 a ha hn).tr (Sm.sn (by have := p.1; omega)), ?_, fun a ha => ?_⟩
  · rw [t_sn, if_neg (by have := p.1; omega)]; exact p.2.2.2.1
  · by_cases e : a = m_n M
    · rw [e]; exact hw
    · exact Wta.keep p.2.1.kt (Sm.sn e) (p.2.2.2.2 a ha)
/-- a new array of numbers -/
theorem Pg.arr {B M : Me} {h t z : Nat} (hB : h < m_n B) (p : Pg B h M) (h1 : ∀ q ∈ tgF, q.1 ≠ t) (h2 : ∀ q ∈ tgL, q.1 = t → q.2 = z) (h3 : ∀ q ∈ tgE, q.1 ≠ t) (h4 : t = 40 → z ≤ 60) : Pg B h (s_new M t z) := p.new hB (Wta.arr tn_n zn_n h1 h2 h3 h4)
/-- a new array of references, put into a field, and filled -/
theorem Pg.al {mk : Me → Me} {B M : Me} {h fld t N K c u : Nat} (hB : h < m_n B) (p : Pg B h M) (hKN : K = N) (hft : fld ≠ t) (hmk : ∀ M1, Nw M1 → Kt (s_r (s_new M t N) fld h 0 (m_n M)) M1 → Mk M1 (mk M1) c u) (h1 : ∀ q ∈ tgF, q.1 ≠ t) (h2 : ∀ q ∈ tgL, q.1 = t → q.2 = N) (h3 : ∀ q ∈ tgE, q.1 = t → q.2 = u + 1) (h4 : t ≠ 40) (ht0 : t ≠ 0) :
    Pg B h (f_al mk (s_r (s_new M t N) fld h 0 (m_n M)) fld h t K) ∧ Sm (s_r M fld h 0 (m_n M)) (f_al mk (s_r (s_new M t N) fld h 0 (m_n M)) fld h t K) h ∧ m_t (f_al mk (s_r (s_new M t N) fld h 0 (m_n M)) fld h t K) (m_n M) = t ∧ (∀ a, a < m_n M → a ≠ h → Sm M (f_al mk (s_r (s_new M t N) fld h 0 (m_n M)) fld h t K) a) ∧ m_n (f_al mk (s_r (s_new M t N) fld h 0 (m_n M)) fld h t K) = m_n M + 1 + c * K ∧ (∀ j, j < N → m_r (f_al mk (s_r (s_new M t N) fld h 0 (m_n M)) fld h t K) t (m_n M) j = m_n M + 1 + c * j) := by
  have hhM : h < m_n M := Nat.lt_of_lt_of_le hB p.1
  have hne : m_n M ≠ h := by omega
  have nw1 : Nw (s_r (s_new M t N) fld h 0 (m_n M)) := Nw.sn (t := t) (z := N) p.2.1
  obtain ⟨i1, i2, i3, i4, ⟨i5, i6⟩, i7, i8, i9⟩ := al_inv (mk := mk) (t := t) nw1 (h := h) (fld := fld) (P := m_n M) (by rw [n_sr, n_sn]; omega) (by rw [r_sr, if_pos ⟨rfl, rfl, rfl⟩]) (by rw [n_sr, n_sn]; omega) hne hmk K
  have hn1 : m_n (s_r (s_new M t N) fld h 0 (m_n M)) = m_n M + 1 := rfl
  have hT : m_t (f_al mk (s_r (s_new M t N) fld h 0 (m_n M)) fld h t K) (m_n M) = t := by rw [i5, t_sr]; exact tn_n
  refine ⟨⟨by rw [i1, hn1]; have := p.1; omega, i2, fun a ha hn => ?_, ?_, fun a ha => ?_⟩, ?_, hT, fun a hlt hn => ((Sm.sn (by omega)).tr (Sm.sr hn)).tr (i4 a (by rw [hn1]; omega) (by omega)), by rw [i1, hn1], fun j hj => by rw [(i8 j (by omega)).1, hn1]⟩
  · have hlt : a < m_n M := Nat.lt_of_lt_of_le ha p.1
    exact (((p.2.2.1 a ha hn).tr (Sm.sn (by omega))).tr (Sm.sr hn)).tr (i4 a (by rw [hn1]; omega) (by omega))
  · rw [(i4 h (by rw [hn1]; omega) (by omega)).1, t_sr, t_sn, if_neg (by omega)]; exact p.2.2.2.1
  · by_cases e : a = m_n M
    · subst e
      refine Wta.ref (z := N) (u + 1) hT (by rw [i6, z_sr]; exact zn_n) (fun j hj => ?_) h1 h2 h3 h4
      rw [(i8 j (by omega)).1]; exact (i8 j (by omega)).2
    · by_cases q : a < m_n M
      · refine Wta.keep i3 (i4 a (by rw [hn1]; omega) e) ?_
        exact Wta.keep (M := s_new M t N) (fun _ _ => rfl) (Sm.sr (by omega)) (Wta.keep (Nw.kt p.2.1) (Sm.sn e) (p.2.2.2.2 a ha))
      · refine i9 a (by rw [hn1]; omega) (Wta.zero ?_)
        exact Classical.byContradiction fun z => absurd (nw1 a z) (by rw [hn1]; omega)
  · refine Sm.tr ?_ (i4 h (by rw [hn1]; omega) (by omega))
    have hhn : h ≠ m_n M := by omega
    exact ⟨if_neg hhn, if_neg hhn, fun _ _ => if_neg hhn, fun _ _ => if_neg hhn, fun k j => by rw [r_sr, r_sr, r_sn, if_neg hhn]⟩
/-- what a constructor does: as Pg, and typing holds at h -/
def Cn (M : Me) (h : Nat) (M2 : Me) : Prop := Pg M h M2 ∧ Wta M2 h
/-- a new object with its constructor -/
theorem Pg.obj {B M M2 : Me} {h tg : Nat} (hB : h < m_n B) (p : Pg B h M) (cn : Cn (s_new M tg 0) (m_n M) M2) : Pg B h M2 ∧ (∀ a, a < m_n M → Sm M M2 a) ∧ m_t M2 (m_n M) = tg := by
  obtain ⟨⟨c1, c2, c3, c4, c5⟩, c6⟩ := cn
  have hs : ∀ a, a < m_n M → Sm M M2 a := fun a ha => (Sm.sn (Nat.ne_of_lt ha)).tr (c3 a (by rw [n_sn]; omega) (Nat.ne_of_lt ha))
  rw [n_sn] at c1
  refine ⟨⟨by have := p.1; omega, c2, fun a ha hn => (p.2.2.1 a ha hn).tr (hs a (Nat.lt_of_lt_of_le ha p.1)), ?_, fun a ha => ?_⟩, hs, by rw [c4]; exact tn_n⟩
  · rw [(hs h (Nat.lt_of_lt_of_le hB p.1)).1]; exact p.2.2.2.1
  · by_cases e : a = m_n M
    · rw [e]; exact c6
    · by_cases q : a < m_n M
      · exact Wta.keep (Kt.sm p.2.1 hs) (hs a q) (p.2.2.2.2 a ha)
      · exact c5 a (by rw [n_sn]; omega)
theorem Mk.of {M1 M2 : Me} {c tg : Nat} (nw : Nw M1) (hc : m_n M2 = m_n M1 + c) (h0 : 0 < c) (cn : Cn (s_new M1 (tg + 1) 0) (m_n M1) M2) : Mk M1 M2 c tg := by
  obtain ⟨⟨c1, c2, c3, c4, c5⟩, c6⟩ := cn
  refine ⟨hc, h0, c2, fun a ha => (Sm.sn (Nat.ne_of_lt ha)).tr (c3 a (by rw [n_sn]; omega) (Nat.ne_of_lt ha)), by rw [c4]; exact tn_n, fun a ha => ?_⟩
  by_cases e : a = m_n M1
  · rw [e]; exact c6
  · exact c5 a (by rw [n_sn]; omega)
theorem Cn.kt {M M2 : Me} {h : Nat} (nw : Nw M) (c : Cn M h M2) : Kt M M2 := c.1.kt nw
theorem wI_nw {M : Me} {h b : Nat} (nw : Nw M) : Nw (f_wI M h b) := fun a ha => by
  rw [wI_n]
  rw [wI_t] at ha
  by_cases e2 : a = m_n M + 2
  · omega
  · by_cases e1 : a = m_n M + 1
    · omega
    · by_cases e0 : a = m_n M
      · omega
      · rw [if_neg e2, if_neg e1, if_neg e0] at ha
        have := nw a ha
        omega
theorem wI_cn {M : Me} {h b : Nat} (nw : Nw M) (ht : m_t M h = 10) (hb : m_t M b = 7) : Cn M h (f_wI M h b) := by
  have hn : h < m_n M := nw h (by rw [ht]; decide)
  have hbn : b < m_n M := nw b (by rw [hb]; decide)
  have hT : m_t (f_wI M h b) h = 10 := by rw [wI_t, if_neg (by omega), if_neg (by omega), if_neg (by omega), ht]
  have hB : m_t (f_wI M h b) b = 7 := by rw [wI_t, if_neg (by omega), if_neg (by omega), if_neg (by omega), hb]
  have hS : m_t (f_wI M h b) (m_n M) = 52 := by rw [wI_t, if_neg (by omega), if_neg (by omega), if_pos rfl]
  have hS1 : m_t (f_wI M h b) (m_n M + 1) = 24 := by rw [wI_t, if_neg (by omega), if_pos rfl]
  have hS2 : m_t (f_wI M h b) (m_n M + 2) = 25 := by rw [wI_t, if_pos rfl]
  obtain ⟨r0, r1, r2, r3⟩ := wI_r (M := M) (h := h) (b := b) hn
  refine ⟨⟨by rw [wI_n]; omega, wI_nw nw, fun a hl ha => wI_sm ha hl, by rw [hT, ht], ?_⟩, ?_⟩
  rotate_left
  · exact Wta.obj hT (tf_10 (by rw [r0]; exact hS) (by rw [r1]; exact hS1) (by rw [r2]; exact hS2)) (by decide) (by decide) (by decide)
  · intro a ha
    by_cases e0 : a = m_n M
    · subst e0
      exact Wta.ref 7 (z := 12) hS (by rw [wI_z, if_neg (by omega), if_neg (by omega), if_pos rfl]) (fun j hj => by rw [r3 j hj]; exact hB) (by decide) (by decide) (by decide) (by decide)
    · by_cases e1 : a = m_n M + 1
      · subst e1
        exact Wta.arr (z := 12) hS1 (by rw [wI_z, if_neg (by omega), if_pos rfl]) (by decide) (by decide) (by decide) (by decide)
      · by_cases e2 : a = m_n M + 2
        · subst e2
          exact Wta.arr (z := 12) hS2 (by rw [wI_z, if_pos rfl]) (by decide) (by decide) (by decide) (by decide)
        · refine Wta.zero ?_
          rw [wI_t, if_neg e2, if_neg e1, if_neg e0]
          exact Classical.byContradiction fun q => absurd (nw a q) (by omega)
/-- a constructor that writes numbers alone -/
theorem Cn.num {M M2 : Me} {h t : Nat} (nw : Nw M) (ht : m_t M h = t) (hn : m_n M2 = m_n M) (htt : ∀ a, m_t M2 a = m_t M a) (hs : ∀ a, a ≠ h → Sm M M2 a) (hw : Wta M2 h) : Cn M h M2 := ⟨⟨by rw [hn]; exact Nat.le_refl _, fun a ha => by rw [hn]; exact nw a (by rw [← htt]; exact ha), fun a _ ha => hs a ha, htt h, fun a ha => Wta.zero (by rw [htt]; exact Classical.byContradiction fun q => absurd (nw a q) (by omega))⟩, hw⟩
theorem pR_cn {M : Me} {h : Nat} {r : Int32} (nw : Nw M) (ht : m_t M h = 6) : Cn M h (f_pR M h r) := Cn.num nw ht rfl (fun _ => rfl) (fun _ ha => Sm.pR ha) (Wta.num (t := 6) ht (by decide) (by decide) (by decide) (by decide))
theorem dR_cn {M : Me} {h : Nat} {x y z : Int32} (nw : Nw M) (ht : m_t M h = 1) : Cn M h (f_dR M h x y z) := Cn.num nw ht rfl (fun _ => rfl) (fun _ ha => Sm.dR ha) (Wta.num (t := 1) ht (by decide) (by decide) (by decide) (by decide))
theorem eR_cn {M : Me} {h g : Nat} {x : Int32} (nw : Nw M) (ht : m_t M h = 2) (hg : m_t M g = 7) : Cn M h (f_eR M h g x) := Cn.num nw ht rfl (fun _ => rfl) (fun _ ha => Sm.eR ha) (Wta.obj (t := 2) ht (tf_2 (by
  have e : m_r (f_eR M h g x) 116 h 0 = g := by
    unfold f_eR
    rw [r_si, r_si, r_sr, if_pos ⟨rfl, rfl, rfl⟩]
  rw [e]; exact hg)) (by decide) (by decide) (by decide))
theorem mkP {M : Me} (nw : Nw M) : Mk M (f_pR (s_new M 6 0) (m_n M) 0) 1 5 := Mk.of nw rfl (by decide) (pR_cn nw.sn tn_n)
theorem mkD {M : Me} (nw : Nw M) : Mk M (f_dR (s_new M 1 0) (m_n M) 0 0 0) 1 0 := Mk.of nw rfl (by decide) (dR_cn nw.sn tn_n)
theorem mkE {M : Me} {b : Nat} (nw : Nw M) (hb : m_t M b = 7) : Mk M (f_eR (s_new M 2 0) (m_n M) b 0) 1 1 := Mk.of nw rfl (by decide) (eR_cn nw.sn tn_n (nw.kt.u hb))
theorem mkW {M : Me} {b : Nat} (nw : Nw M) (hb : m_t M b = 7) : Mk M (f_wI (s_new M 10 0) (m_n M) b) 4 9 := Mk.of nw (by rw [wI_n, n_sn]) (by decide) (wI_cn nw.sn tn_n (nw.kt.u hb))

theorem r_sk {M : Me} {k a j v k2 b i : Nat} (h : k2 ≠ k) : m_r (s_r M k a j v) k2 b i = m_r M k2 b i := if_neg (fun q => h q.1)
theorem i_sk {M : Me} {k a j : Nat} {v : Int32} {k2 b i : Nat} (h : k2 ≠ k) : m_i (s_i M k a j v) k2 b i = m_i M k2 b i := if_neg (fun q => h q.1)
theorem r_se {M : Me} {k a j v : Nat} : m_r (s_r M k a j v) k a j = v := if_pos ⟨rfl, rfl, rfl⟩
theorem i_se {M : Me} {k a j : Nat} {v : Int32} : m_i (s_i M k a j v) k a j = v := if_pos ⟨rfl, rfl, rfl⟩
/-- Memory(measure, blank) at h -/
def f_M1 (M : Me) (h me : Nat) : Me := s_r M 164 h 0 me
noncomputable def f_M2 (M : Me) (h me b : Nat) : Me := f_al (fun X => f_eR (s_new X 2 0) (m_n X) b 0) (s_r (s_new (f_M1 M h me) 53 40) 165 h 0 (m_n (f_M1 M h me))) 165 h 53 k_40
noncomputable def f_M3 (M : Me) (h me b : Nat) : Me := s_i (f_M2 M h me b) 166 h 0 0
noncomputable def f_M4 (M : Me) (h me b : Nat) : Me := f_al (fun X => f_dR (s_new X 1 0) (m_n X) 0 0 0) (s_r (s_new (f_M3 M h me b) 54 10) 167 h 0 (m_n (f_M3 M h me b))) 167 h 54 k_10
noncomputable def f_MI (M : Me) (h me b : Nat) : Me := s_i (f_M4 M h me b) 168 h 0 0
theorem MI_cn {M : Me} {h me b : Nat} (nw : Nw M) (ht : m_t M h = 5) (hme : m_t M me = 4) (hb : m_t M b = 7) : Cn M h (f_MI M h me b) ∧ m_n (f_MI M h me b) = m_n M + 52 ∧ m_i (f_MI M h me b) 166 h 0 = 0 ∧ m_i (f_MI M h me b) 168 h 0 = 0 := by
  have hB : h < m_n M := nw h (by rw [ht]; decide)
  have p1 : Pg M h (f_M1 M h me) := (Pg.rf nw).sr hB
  obtain ⟨p2, s2, t2, x2, n2, e2⟩ := p1.al (fld := 165) (t := 53) (N := 40) (K := k_40) (c := 1) (u := 1) (mk := fun X => f_eR (s_new X 2 0) (m_n X) b 0) hB k40 (by decide) (fun X nwX kX => mkE nwX (kX.u ((Nw.kt (t := 53) (z := 40) p1.2.1).u hb))) (by decide) (by decide) (by decide) (by decide) (by decide)
  have p3 : Pg M h (f_M3 M h me b) := p2.si hB
  obtain ⟨p4, s4, t4, x4, n4, e4⟩ := p3.al (fld := 167) (t := 54) (N := 10) (K := k_10) (c := 1) (u := 0) (mk := fun X => f_dR (s_new X 1 0) (m_n X) 0 0 0) hB k10 (by decide) (fun X nwX kX => mkD nwX) (by decide) (by decide) (by decide) (by decide) (by decide)
  have p5 : Pg M h (f_MI M h me b) := p4.si hB
  have hn1 : m_n (f_M1 M h me) = m_n M := rfl
  have hn3 : m_n (f_M3 M h me b) = m_n M + 41 := by
    have : m_n (f_M3 M h me b) = m_n (f_M1 M h me) + 1 + 1 * k_40 := n2
    rw [k40] at this
    omega
  have hn5 : m_n (f_MI M h me b) = m_n M + 52 := by
    have : m_n (f_MI M h me b) = m_n (f_M3 M h me b) + 1 + 1 * k_10 := n4
    rw [k10] at this
    omega
  have q4 : ∀ k j, m_r (f_M4 M h me b) k h j = m_r (s_r (f_M3 M h me b) 167 h 0 (m_n (f_M3 M h me b))) k h j := s4.2.2.2.2
  have q2 : ∀ k j, m_r (f_M2 M h me b) k h j = m_r (s_r (f_M1 M h me) 165 h 0 (m_n (f_M1 M h me))) k h j := s2.2.2.2.2
  have r0 : m_r (f_MI M h me b) 164 h 0 = me := by
    have : m_r (f_MI M h me b) 164 h 0 = m_r (f_M4 M h me b) 164 h 0 := rfl
    rw [this, q4, r_sk (by decide)]
    have : m_r (f_M3 M h me b) 164 h 0 = m_r (f_M2 M h me b) 164 h 0 := rfl
    rw [this, q2, r_sk (by decide)]
    exact if_pos ⟨rfl, rfl, rfl⟩
  have r1 : m_r (f_MI M h me b) 165 h 0 = m_n M := by
    have : m_r (f_MI M h me b) 165 h 0 = m_r (f_M4 M h me b) 165 h 0 := rfl
    rw [this, q4, r_sk (by decide)]
    have : m_r (f_M3 M h me b) 165 h 0 = m_r (f_M2 M h me b) 165 h 0 := rfl
    rw [this, q2, r_sr, if_pos ⟨rfl, rfl, rfl⟩, hn1]
  have r2 : m_r (f_MI M h me b) 167 h 0 = m_n (f_M3 M h me b) := by
    have : m_r (f_MI M h me b) 167 h 0 = m_r (f_M4 M h me b) 167 h 0 := rfl
    rw [this, q4, r_sr, if_pos ⟨rfl, rfl, rfl⟩]
  refine ⟨⟨p5, Wta.obj (t := 5) (by rw [p5.2.2.2.1, ht]) (tf_5 (by rw [r0]; exact (p5.kt nw).u hme) ?_ ?_) (by decide) (by decide) (by decide)⟩, hn5, ?_, ?_⟩
  · rw [r1]
    have h1 : m_t (f_MI M h me b) (m_n M) = m_t (f_M3 M h me b) (m_n M) := (x4 (m_n M) (by rw [hn3]; omega) (by omega)).1
    rw [h1]
    exact t2
  · rw [r2]
    exact t4
  · have : m_i (f_MI M h me b) 166 h 0 = m_i (f_M4 M h me b) 166 h 0 := rfl
    rw [this]
    have e : m_i (f_M4 M h me b) 166 h 0 = m_i (s_r (f_M3 M h me b) 167 h 0 (m_n (f_M3 M h me b))) 166 h 0 := s4.2.2.1 166 0
    rw [e]
    exact if_pos ⟨rfl, rfl, rfl⟩
  · exact if_pos ⟨rfl, rfl, rfl⟩
/-- State(measure, blank) at h -/
def f_S1 (M : Me) (h : Nat) : Me := s_r (f_sh M) 212 h 0 (m_n M)
noncomputable def f_S2 (M : Me) (h : Nat) : Me := f_al (fun X => f_pR (s_new X 6 0) (m_n X) 0) (s_r (s_new (f_S1 M h) 50 6) 213 h 0 (m_n (f_S1 M h))) 213 h 50 k_6
noncomputable def f_S3 (M : Me) (h : Nat) : Me := s_i (f_S2 M h) 214 h 0 0
noncomputable def f_S4 (M : Me) (h b : Nat) : Me := f_al (fun X => f_wI (s_new X 10 0) (m_n X) b) (s_r (s_new (f_S3 M h) 51 8) 215 h 0 (m_n (f_S3 M h))) 215 h 51 k_8
noncomputable def f_S5 (M : Me) (h b : Nat) : Me := s_i (f_S4 M h b) 216 h 0 0
noncomputable def f_S6 (M : Me) (h b : Nat) : Me := s_r (s_new (f_S5 M h b) 21 8) 217 h 0 (m_n (f_S5 M h b))
noncomputable def f_S7 (M : Me) (h me b : Nat) : Me := s_r (f_MI (s_new (f_S6 M h b) 5 0) (m_n (f_S6 M h b)) me b) 218 h 0 (m_n (f_S6 M h b))
noncomputable def f_SI (M : Me) (h me b : Nat) : Me := s_r (s_new (f_S7 M h me b) 22 6) 219 h 0 (m_n (f_S7 M h me b))
theorem sh_n {M : Me} : m_n (f_sh M) = m_n M + 1 := rfl
theorem sh_sm {M : Me} {a : Nat} (h : a ≠ m_n M) : Sm M (f_sh M) a := ⟨if_neg h, if_neg h, fun _ _ => if_neg h, fun _ _ => if_neg h, fun _ _ => if_neg h⟩
theorem sh_nw {M : Me} (nw : Nw M) : Nw (f_sh M) := fun a ha => by
  rw [sh_n]
  by_cases e : a = m_n M
  · omega
  · rw [(sh_sm e).1] at ha
    have := nw a ha
    omega
theorem sh_t {M : Me} : m_t (f_sh M) (m_n M) = 20 := if_pos rfl
theorem sh_z {M : Me} : m_z (f_sh M) (m_n M) = 6 := if_pos rfl
theorem sh_i {M : Me} {k j : Nat} : m_i (f_sh M) k (m_n M) j = shr j := if_pos rfl
theorem sh_kt {M : Me} (nw : Nw M) : Kt M (f_sh M) := fun a ha => (sh_sm (Nat.ne_of_lt (nw a ha))).1
theorem Pg.sh {B M : Me} {h : Nat} (hB : h < m_n B) (p : Pg B h M) : Pg B h (f_sh M) := by
  refine ⟨by rw [sh_n]; have := p.1; omega, sh_nw p.2.1, fun a ha hn => (p.2.2.1 a ha hn).tr (sh_sm (by have := p.1; omega)), ?_, fun a ha => ?_⟩
  · rw [(sh_sm (by have := p.1; omega)).1]; exact p.2.2.2.1
  · by_cases e : a = m_n M
    · rw [e]; exact Wta.arr sh_t sh_z (by decide) (by decide) (by decide) (by decide)
    · exact Wta.keep (sh_kt p.2.1) (sh_sm e) (p.2.2.2.2 a ha)

theorem SI_pg {B M : Me} {h me b : Nat} (hB : h < m_n B) (p1 : Pg B h (f_S1 M h)) (hme : m_t (f_S1 M h) me = 4) (hb : m_t (f_S1 M h) b = 7) (hne : h ≠ me) (hnb : h ≠ b) (hn0 : m_n (f_S1 M h) = m_n M + 1) (hmeB : me < m_n M) (hbB : b < m_n M) (hhM : h < m_n M) : Pg B h (f_SI M h me b) ∧ m_n (f_SI M h me b) = m_n M + 96 ∧ m_n (f_S6 M h b) = m_n M + 42 ∧ (m_r (f_SI M h me b) 212 h 0 = m_n M ∧ m_r (f_SI M h me b) 213 h 0 = m_n M + 1 ∧ m_r (f_SI M h me b) 215 h 0 = m_n M + 8 ∧ m_r (f_SI M h me b) 217 h 0 = m_n M + 41 ∧ m_r (f_SI M h me b) 218 h 0 = m_n M + 42 ∧ m_r (f_SI M h me b) 219 h 0 = m_n M + 95) ∧ (m_t (f_SI M h me b) (m_n M + 1) = 50 ∧ m_t (f_SI M h me b) (m_n M + 8) = 51 ∧ m_t (f_SI M h me b) (m_n M + 41) = 21 ∧ m_t (f_SI M h me b) (m_n M + 42) = 5 ∧ m_t (f_SI M h me b) (m_n M + 95) = 22) ∧ m_i (f_SI M h me b) 214 h 0 = 0 ∧ m_i (f_SI M h me b) 216 h 0 = 0 ∧ m_i (f_SI M h me b) 166 (m_n M + 42) 0 = 0 ∧ m_i (f_SI M h me b) 168 (m_n M + 42) 0 = 0 := by
  obtain ⟨p2, s2, t2, x2, n2, e2⟩ := p1.al (fld := 213) (t := 50) (N := 6) (K := k_6) (c := 1) (u := 5) (mk := fun X => f_pR (s_new X 6 0) (m_n X) 0) hB k6 (by decide) (fun X nwX kX => mkP nwX) (by decide) (by decide) (by decide) (by decide) (by decide)
  have p3 : Pg B h (f_S3 M h) := p2.si hB
  have hn3 : m_n (f_S3 M h) = m_n M + 8 := by
    have : m_n (f_S3 M h) = m_n (f_S1 M h) + 1 + 1 * k_6 := n2
    rw [k6] at this
    omega
  have hb3 : m_t (f_S3 M h) b = 7 := by
    have : m_t (f_S3 M h) b = m_t (f_S1 M h) b := (x2 b (by omega) (Ne.symm hnb)).1
    rw [this, hb]
  have hme3 : m_t (f_S3 M h) me = 4 := by
    have : m_t (f_S3 M h) me = m_t (f_S1 M h) me := (x2 me (by omega) (Ne.symm hne)).1
    rw [this, hme]
  obtain ⟨p4, s4, t4, x4, n4, e4⟩ := p3.al (fld := 215) (t := 51) (N := 8) (K := k_8) (c := 4) (u := 9) (mk := fun X => f_wI (s_new X 10 0) (m_n X) b) hB k8 (by decide) (fun X nwX kX => mkW nwX (kX.u ((Nw.kt (t := 51) (z := 8) p3.2.1).u hb3))) (by decide) (by decide) (by decide) (by decide) (by decide)
  have p5 : Pg B h (f_S5 M h b) := p4.si hB
  have hn5 : m_n (f_S5 M h b) = m_n M + 41 := by
    have : m_n (f_S5 M h b) = m_n (f_S3 M h) + 1 + 4 * k_8 := n4
    rw [k8] at this
    omega
  have p6 : Pg B h (f_S6 M h b) := (p5.arr (t := 21) (z := 8) hB (by decide) (by decide) (by decide) (by decide)).sr hB
  have hn6 : m_n (f_S6 M h b) = m_n M + 42 := by
    have : m_n (f_S6 M h b) = m_n (f_S5 M h b) + 1 := rfl
    omega
  have x6 : ∀ a, a < m_n (f_S5 M h b) → a ≠ h → Sm (f_S5 M h b) (f_S6 M h b) a := fun a ha hn => (Sm.sn (Nat.ne_of_lt ha)).tr (Sm.sr hn)
  have x5 : ∀ a, a < m_n (f_S3 M h) → a ≠ h → Sm (f_S3 M h) (f_S5 M h b) a := fun a ha hn => (x4 a ha hn).tr (Sm.si hn)
  have hb6 : m_t (f_S6 M h b) b = 7 := by rw [(x6 b (by omega) (Ne.symm hnb)).1, (x5 b (by omega) (Ne.symm hnb)).1, hb3]
  have hme6 : m_t (f_S6 M h b) me = 4 := by rw [(x6 me (by omega) (Ne.symm hne)).1, (x5 me (by omega) (Ne.symm hne)).1, hme3]
  obtain ⟨cn, cn2, cn3, cn4⟩ := MI_cn (M := s_new (f_S6 M h b) 5 0) (h := m_n (f_S6 M h b)) (me := me) (b := b) p6.2.1.sn tn_n ((Nw.kt p6.2.1).u hme6) ((Nw.kt p6.2.1).u hb6)
  obtain ⟨p7a, x7, t7⟩ := p6.obj hB cn
  have p7 : Pg B h (f_S7 M h me b) := p7a.sr hB
  have hn7 : m_n (f_S7 M h me b) = m_n M + 95 := by
    have : m_n (f_S7 M h me b) = m_n (s_new (f_S6 M h b) 5 0) + 52 := cn2
    rw [n_sn] at this
    omega
  have p8 : Pg B h (f_SI M h me b) := (p7.arr (t := 22) (z := 6) hB (by decide) (by decide) (by decide) (by decide)).sr hB
  have x8 : ∀ a, a < m_n (f_S7 M h me b) → a ≠ h → Sm (f_S7 M h me b) (f_SI M h me b) a := fun a ha hn => (Sm.sn (Nat.ne_of_lt ha)).tr (Sm.sr hn)
  have x78 : ∀ a, a < m_n (f_S6 M h b) → a ≠ h → Sm (f_S6 M h b) (f_SI M h me b) a := fun a ha hn => ((x7 a ha).tr (Sm.sr hn)).tr (x8 a (by omega) hn)
  have x58 : ∀ a, a < m_n (f_S5 M h b) → a ≠ h → Sm (f_S5 M h b) (f_SI M h me b) a := fun a ha hn => (x6 a ha hn).tr (x78 a (by omega) hn)
  have x38 : ∀ a, a < m_n (f_S3 M h) → a ≠ h → Sm (f_S3 M h) (f_SI M h me b) a := fun a ha hn => (x5 a ha hn).tr (x58 a (by omega) hn)
  -- the fields of h
  have hh7 : ∀ k j, m_r (f_SI M h me b) k h j = m_r (s_r (f_S7 M h me b) 219 h 0 (m_n (f_S7 M h me b))) k h j := fun k j => by
    have e : h ≠ m_n (f_S7 M h me b) := by omega
    show m_r (s_r (s_new (f_S7 M h me b) 22 6) 219 h 0 (m_n (f_S7 M h me b))) k h j = _
    rw [r_sr, r_sr, r_sn, if_neg e]
  have hh6 : ∀ k j, m_r (f_S7 M h me b) k h j = m_r (s_r (f_S6 M h b) 218 h 0 (m_n (f_S6 M h b))) k h j := fun k j => by
    show m_r (s_r (f_MI (s_new (f_S6 M h b) 5 0) (m_n (f_S6 M h b)) me b) 218 h 0 (m_n (f_S6 M h b))) k h j = _
    rw [r_sr, r_sr, (x7 h (by omega)).2.2.2.2]
  have hh5 : ∀ k j, m_r (f_S6 M h b) k h j = m_r (s_r (f_S5 M h b) 217 h 0 (m_n (f_S5 M h b))) k h j := fun k j => by
    have e : h ≠ m_n (f_S5 M h b) := by omega
    show m_r (s_r (s_new (f_S5 M h b) 21 8) 217 h 0 (m_n (f_S5 M h b))) k h j = _
    rw [r_sr, r_sr, r_sn, if_neg e]
  have hh4 : ∀ k j, m_r (f_S5 M h b) k h j = m_r (s_r (f_S3 M h) 215 h 0 (m_n (f_S3 M h))) k h j := s4.2.2.2.2
  have hh2 : ∀ k j, m_r (f_S3 M h) k h j = m_r (s_r (f_S1 M h) 213 h 0 (m_n (f_S1 M h))) k h j := s2.2.2.2.2
  have hh1 : m_r (f_S1 M h) 212 h 0 = m_n M := r_se
  have hi7 : ∀ k j, m_i (f_SI M h me b) k h j = m_i (f_S5 M h b) k h j := fun k j => by
    have e : h ≠ m_n (f_S7 M h me b) := by omega
    have e5 : h ≠ m_n (f_S5 M h b) := by omega
    have a1 : m_i (f_SI M h me b) k h j = m_i (f_S7 M h me b) k h j := if_neg e
    have a2 : m_i (f_S7 M h me b) k h j = m_i (f_S6 M h b) k h j := (x7 h (by omega)).2.2.1 k j
    have a3 : m_i (f_S6 M h b) k h j = m_i (f_S5 M h b) k h j := if_neg e5
    rw [a1, a2, a3]
  have ee2 : ∀ q, q = m_n M + 42 → q ≠ h := fun q e => by omega
  refine ⟨p8, ?_, hn6, ⟨?_, ?_, ?_, ?_, ?_, ?_⟩, ⟨?_, ?_, ?_, ?_, ?_⟩, ?_, ?_, ?_, ?_⟩
  · have : m_n (f_SI M h me b) = m_n (f_S7 M h me b) + 1 := rfl
    omega
  · rw [hh7, r_sk (by decide), hh6, r_sk (by decide), hh5, r_sk (by decide), hh4, r_sk (by decide), hh2, r_sk (by decide), hh1]
  · rw [hh7, r_sk (by decide), hh6, r_sk (by decide), hh5, r_sk (by decide), hh4, r_sk (by decide), hh2, r_se, hn0]
  · rw [hh7, r_sk (by decide), hh6, r_sk (by decide), hh5, r_sk (by decide), hh4, r_se, hn3]
  · rw [hh7, r_sk (by decide), hh6, r_sk (by decide), hh5, r_se, hn5]
  · rw [hh7, r_sk (by decide), hh6, r_se, hn6]
  · rw [hh7, r_se, hn7]
  · have h1 : m_t (f_S3 M h) (m_n (f_S1 M h)) = 50 := t2
    rw [hn0] at h1
    rw [(x38 (m_n M + 1) (by omega) (by omega)).1, h1]
  · have h1 : m_t (f_S5 M h b) (m_n (f_S3 M h)) = 51 := t4
    rw [hn3] at h1
    rw [(x58 (m_n M + 8) (by omega) (by omega)).1, h1]
  · have h1 : m_t (f_S6 M h b) (m_n (f_S5 M h b)) = 21 := tn_n (z := 8)
    rw [hn5] at h1
    rw [(x78 (m_n M + 41) (by omega) (by omega)).1, h1]
  · have h1 : m_t (f_S7 M h me b) (m_n (f_S6 M h b)) = 5 := t7
    rw [hn6] at h1
    rw [(x8 (m_n M + 42) (by omega) (by omega)).1, h1]
  · have h1 : m_t (f_SI M h me b) (m_n (f_S7 M h me b)) = 22 := tn_n (z := 6)
    rw [hn7] at h1
    exact h1
  · rw [hi7]
    have a1 : m_i (f_S5 M h b) 214 h 0 = m_i (f_S4 M h b) 214 h 0 := i_sk (by decide)
    have a2 : m_i (f_S4 M h b) 214 h 0 = m_i (s_r (f_S3 M h) 215 h 0 (m_n (f_S3 M h))) 214 h 0 := s4.2.2.1 214 0
    rw [a1, a2]
    exact i_se
  · rw [hi7]
    exact i_se
  · rw [hn6] at cn3
    have a0 : m_i (f_S7 M h me b) 166 (m_n M + 42) 0 = 0 := by rw [← cn3, ← hn6]; rfl
    rw [(x8 (m_n M + 42) (by omega) (by omega)).2.2.1, a0]
  · rw [hn6] at cn4
    have a0 : m_i (f_S7 M h me b) 168 (m_n M + 42) 0 = 0 := by rw [← cn4, ← hn6]; rfl
    rw [(x8 (m_n M + 42) (by omega) (by omega)).2.2.1, a0]
theorem SI_cn {M : Me} {h me b : Nat} (nw : Nw M) (ht : m_t M h = 8) (hme : m_t M me = 4) (hb : m_t M b = 7) : Cn M h (f_SI M h me b) ∧ m_n (f_SI M h me b) = m_n M + 96 ∧ (m_r (f_SI M h me b) 212 h 0 = m_n M ∧ m_r (f_SI M h me b) 218 h 0 = m_n M + 42) ∧ (m_i (f_SI M h me b) 214 h 0 = 0 ∧ m_i (f_SI M h me b) 216 h 0 = 0 ∧ m_i (f_SI M h me b) 166 (m_n M + 42) 0 = 0 ∧ m_i (f_SI M h me b) 168 (m_n M + 42) 0 = 0) ∧ ∀ j, m_i (f_SI M h me b) 20 (m_n M) j = shr j := by
  have hB : h < m_n M := nw h (by rw [ht]; decide)
  have hmeB : me < m_n M := nw me (by rw [hme]; decide)
  have hbB : b < m_n M := nw b (by rw [hb]; decide)
  have hne : h ≠ me := fun e => by rw [e, hme] at ht; cases ht
  have hnb : h ≠ b := fun e => by rw [e, hb] at ht; cases ht
  have p1 : Pg M h (f_S1 M h) := (Pg.sh hB (Pg.rf nw)).sr hB
  have hn1 : m_n (f_S1 M h) = m_n M + 1 := rfl
  have hme1 : m_t (f_S1 M h) me = 4 := (sh_kt nw).u hme
  have hb1 : m_t (f_S1 M h) b = 7 := (sh_kt nw).u hb
  obtain ⟨p8, n8, n6, ⟨r0, r1, r2, r3, r4, r5⟩, ⟨t1, t2, t3, t4, t5⟩, i1, i2, i3, i4⟩ := SI_pg hB p1 hme1 hb1 hne hnb hn1 hmeB hbB hB
  obtain ⟨q8, -⟩ := SI_pg (B := f_S1 M h) (by omega) (Pg.rf p1.2.1) hme1 hb1 hne hnb hn1 hmeB hbB hB
  have t0 : m_t (f_SI M h me b) (m_n M) = 20 := by
    rw [(q8.2.2.1 (m_n M) (by omega) (by omega)).1]
    exact sh_t
  refine ⟨⟨p8, Wta.obj (t := 8) (by rw [p8.2.2.2.1, ht]) (tf_8 (by rw [r0]; exact t0) (by rw [r1]; exact t1) (by rw [r2]; exact t2) (by rw [r3]; exact t3) (by rw [r4]; exact t4) (by rw [r5]; exact t5)) (by decide) (by decide) (by decide)⟩, n8, ⟨r0, r4⟩, ⟨i1, i2, i3, i4⟩, fun j => ?_⟩
  rw [(q8.2.2.1 (m_n M) (by omega) (by omega)).2.2.1]
  exact sh_i
theorem mkS {M : Me} {me b : Nat} (nw : Nw M) (hme : m_t M me = 4) (hb : m_t M b = 7) : Mk M (f_SI (s_new M 8 0) (m_n M) me b) 97 7 := by
  have h := SI_cn (M := s_new M 8 0) (h := m_n M) (me := me) (b := b) nw.sn tn_n ((Nw.kt nw).u hme) ((Nw.kt nw).u hb)
  exact Mk.of nw (by rw [h.2.1, n_sn]) (by decide) h.1

/-- History(measure, blank) at h -/
noncomputable def f_H1 (M : Me) (h me b : Nat) : Me := f_al (fun X => f_SI (s_new X 8 0) (m_n X) me b) (s_r (s_new M 55 4) 132 h 0 (m_n M)) 132 h 55 k_4
noncomputable def f_HI (M : Me) (h me b : Nat) : Me := s_i (f_H1 M h me b) 133 h 0 0
theorem HI_cn {M : Me} {h me b : Nat} (nw : Nw M) (ht : m_t M h = 3) (hme : m_t M me = 4) (hb : m_t M b = 7) : Cn M h (f_HI M h me b) ∧ m_n (f_HI M h me b) = m_n M + 389 ∧ m_i (f_HI M h me b) 133 h 0 = 0 ∧ m_r (f_HI M h me b) 132 h 0 = m_n M ∧ ∀ j, j < 4 → m_r (f_HI M h me b) 55 (m_n M) j = m_n M + 1 + 97 * j := by
  have hB : h < m_n M := nw h (by rw [ht]; decide)
  obtain ⟨p2, s2, t2, x2, n2, e2⟩ := (Pg.rf (h := h) nw).al (fld := 132) (t := 55) (N := 4) (K := k_4) (c := 97) (u := 7) (mk := fun X => f_SI (s_new X 8 0) (m_n X) me b) hB k4 (by decide) (fun X nwX kX => mkS nwX (kX.u ((Nw.kt (t := 55) (z := 4) nw).u hme)) (kX.u ((Nw.kt (t := 55) (z := 4) nw).u hb))) (by decide) (by decide) (by decide) (by decide) (by decide)
  have p3 : Pg M h (f_HI M h me b) := p2.si hB
  have r0 : m_r (f_HI M h me b) 132 h 0 = m_n M := by
    have a1 : m_r (f_HI M h me b) 132 h 0 = m_r (f_H1 M h me b) 132 h 0 := rfl
    have a2 : m_r (f_H1 M h me b) 132 h 0 = m_r (s_r M 132 h 0 (m_n M)) 132 h 0 := s2.2.2.2.2 132 0
    rw [a1, a2, r_se]
  refine ⟨⟨p3, Wta.obj (t := 3) (by rw [p3.2.2.2.1, ht]) (tf_3 (by rw [r0]; exact t2)) (by decide) (by decide) (by decide)⟩, ?_, i_se, r0, e2⟩
  have : m_n (f_HI M h me b) = m_n M + 1 + 97 * k_4 := n2
  rw [k4] at this
  omega
theorem zn_o {M : Me} (nw : Nw M) {a t t2 z : Nat} (ht : m_t M a = t + 1) : m_z (s_new M t2 z) a = m_z M a := by rw [z_sn, if_neg (Nat.ne_of_lt (nw a (by rw [ht]; omega)))]
