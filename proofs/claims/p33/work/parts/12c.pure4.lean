theorem ms_kt {M : Me} {h : Nat} (nw : Nw M) : Kt M (f_ms M h) := Nw.kt (t := 23) (z := 9) nw
theorem tx_kt {M : Me} {h : Nat} (nw : Nw M) : Kt M (f_tx M h) := Nw.kt (t := 41) (z := 60) nw
theorem sg_kt {M : Me} {h ch : Nat} (nw : Nw M) : Kt M (f_sg M h ch) := Nw.kt (t := 30) (z := 8) nw
/-! the reference's constructor -/
def f_N1 (M : Me) (h : Nat) : Me := s_r (s_new M 31 1662) 276 h 0 (m_n M)
def f_N2 (M : Me) (h : Nat) : Me := s_r (s_new (f_N1 M h) 32 6648) 277 h 0 (m_n (f_N1 M h))
def f_N3 (M : Me) (h : Nat) : Me := s_r (s_new (f_N2 M h) 33 1662) 278 h 0 (m_n (f_N2 M h))
def f_N4 (M : Me) (h : Nat) : Me := s_r (s_new (f_N3 M h) 42 60) 281 h 0 (m_n (f_N3 M h))
def f_N5 (M : Me) (h : Nat) : Me := s_r (s_new (f_N4 M h) 34 330) 283 h 0 (m_n (f_N4 M h))
def f_N6 (M : Me) (h : Nat) : Me := s_r (s_new (f_N5 M h) 26 9) 286 h 0 (m_n (f_N5 M h))
def f_N7 (M : Me) (h : Nat) : Me := s_r (s_new (f_N6 M h) 27 9) 287 h 0 (m_n (f_N6 M h))
def f_NI (M : Me) (h : Nat) : Me := s_l (s_l (s_l (s_l (s_l (s_l (f_N7 M h) 31 (m_n M) 4 10) 31 (m_n M) 5 20) 31 (m_n M) 6 40) 31 (m_n M) 7 60) 31 (m_n M) 8 80) 31 (m_n M) 9 100
theorem N7_n {M : Me} {h : Nat} : m_n (f_N7 M h) = m_n M + 7 := rfl
theorem N7_t {M : Me} {h a : Nat} : m_t (f_N7 M h) a = if a = m_n M + 6 then 27 else if a = m_n M + 5 then 26 else if a = m_n M + 4 then 34 else if a = m_n M + 3 then 42 else if a = m_n M + 2 then 33 else if a = m_n M + 1 then 32 else if a = m_n M then 31 else m_t M a := rfl
theorem N7_z {M : Me} {h a : Nat} : m_z (f_N7 M h) a = if a = m_n M + 6 then 9 else if a = m_n M + 5 then 9 else if a = m_n M + 4 then 330 else if a = m_n M + 3 then 60 else if a = m_n M + 2 then 1662 else if a = m_n M + 1 then 6648 else if a = m_n M then 1662 else m_z M a := rfl
theorem N7_sm {M : Me} {h a : Nat} (ha : a ≠ h) (hn : a < m_n M) : Sm M (f_N7 M h) a := by
  have s1 : Sm M (f_N1 M h) a := (Sm.sn (by omega)).tr (Sm.sr ha)
  have s2 : Sm (f_N1 M h) (f_N2 M h) a := (Sm.sn (by show a ≠ m_n M + 1; omega)).tr (Sm.sr ha)
  have s3 : Sm (f_N2 M h) (f_N3 M h) a := (Sm.sn (by show a ≠ m_n M + 2; omega)).tr (Sm.sr ha)
  have s4 : Sm (f_N3 M h) (f_N4 M h) a := (Sm.sn (by show a ≠ m_n M + 3; omega)).tr (Sm.sr ha)
  have s5 : Sm (f_N4 M h) (f_N5 M h) a := (Sm.sn (by show a ≠ m_n M + 4; omega)).tr (Sm.sr ha)
  have s6 : Sm (f_N5 M h) (f_N6 M h) a := (Sm.sn (by show a ≠ m_n M + 5; omega)).tr (Sm.sr ha)
  have s7 : Sm (f_N6 M h) (f_N7 M h) a := (Sm.sn (by show a ≠ m_n M + 6; omega)).tr (Sm.sr ha)
  exact (((((s1.tr s2).tr s3).tr s4).tr s5).tr s6).tr s7
theorem N7_h {M : Me} {h : Nat} (hn : h < m_n M) : (m_r (f_N7 M h) 276 h 0 = m_n M ∧ m_r (f_N7 M h) 277 h 0 = m_n M + 1 ∧ m_r (f_N7 M h) 278 h 0 = m_n M + 2 ∧ m_r (f_N7 M h) 281 h 0 = m_n M + 3 ∧ m_r (f_N7 M h) 283 h 0 = m_n M + 4 ∧ m_r (f_N7 M h) 286 h 0 = m_n M + 5 ∧ m_r (f_N7 M h) 287 h 0 = m_n M + 6) ∧ ∀ k j, m_i (f_N7 M h) k h j = m_i M k h j := by
  have e0 : h ≠ m_n M := by omega
  have e1 : h ≠ m_n (f_N1 M h) := by show h ≠ m_n M + 1; omega
  have e2 : h ≠ m_n (f_N2 M h) := by show h ≠ m_n M + 2; omega
  have e3 : h ≠ m_n (f_N3 M h) := by show h ≠ m_n M + 3; omega
  have e4 : h ≠ m_n (f_N4 M h) := by show h ≠ m_n M + 4; omega
  have e5 : h ≠ m_n (f_N5 M h) := by show h ≠ m_n M + 5; omega
  have e6 : h ≠ m_n (f_N6 M h) := by show h ≠ m_n M + 6; omega
  have q7 : ∀ k, k ≠ 287 → m_r (f_N7 M h) k h 0 = m_r (f_N6 M h) k h 0 := fun k hk => by
    unfold f_N7; rw [r_sk hk, r_sn, if_neg e6]
  have q6 : ∀ k, k ≠ 286 → m_r (f_N6 M h) k h 0 = m_r (f_N5 M h) k h 0 := fun k hk => by
    unfold f_N6; rw [r_sk hk, r_sn, if_neg e5]
  have q5 : ∀ k, k ≠ 283 → m_r (f_N5 M h) k h 0 = m_r (f_N4 M h) k h 0 := fun k hk => by
    unfold f_N5; rw [r_sk hk, r_sn, if_neg e4]
  have q4 : ∀ k, k ≠ 281 → m_r (f_N4 M h) k h 0 = m_r (f_N3 M h) k h 0 := fun k hk => by
    unfold f_N4; rw [r_sk hk, r_sn, if_neg e3]
  have q3 : ∀ k, k ≠ 278 → m_r (f_N3 M h) k h 0 = m_r (f_N2 M h) k h 0 := fun k hk => by
    unfold f_N3; rw [r_sk hk, r_sn, if_neg e2]
  have q2 : ∀ k, k ≠ 277 → m_r (f_N2 M h) k h 0 = m_r (f_N1 M h) k h 0 := fun k hk => by
    unfold f_N2; rw [r_sk hk, r_sn, if_neg e1]
  refine ⟨⟨?_, ?_, ?_, ?_, ?_, ?_, ?_⟩, fun k j => ?_⟩
  · rw [q7 _ (by decide), q6 _ (by decide), q5 _ (by decide), q4 _ (by decide), q3 _ (by decide), q2 _ (by decide)]; exact r_se
  · rw [q7 _ (by decide), q6 _ (by decide), q5 _ (by decide), q4 _ (by decide), q3 _ (by decide)]; exact r_se
  · rw [q7 _ (by decide), q6 _ (by decide), q5 _ (by decide), q4 _ (by decide)]; exact r_se
  · rw [q7 _ (by decide), q6 _ (by decide), q5 _ (by decide)]; exact r_se
  · rw [q7 _ (by decide), q6 _ (by decide)]; exact r_se
  · rw [q7 _ (by decide)]; exact r_se
  · exact r_se
  · have a7 : m_i (f_N7 M h) k h j = m_i (f_N6 M h) k h j := if_neg e6
    have a6 : m_i (f_N6 M h) k h j = m_i (f_N5 M h) k h j := if_neg e5
    have a5 : m_i (f_N5 M h) k h j = m_i (f_N4 M h) k h j := if_neg e4
    have a4 : m_i (f_N4 M h) k h j = m_i (f_N3 M h) k h j := if_neg e3
    have a3 : m_i (f_N3 M h) k h j = m_i (f_N2 M h) k h j := if_neg e2
    have a2 : m_i (f_N2 M h) k h j = m_i (f_N1 M h) k h j := if_neg e1
    have a1 : m_i (f_N1 M h) k h j = m_i M k h j := if_neg e0
    rw [a7, a6, a5, a4, a3, a2, a1]
/-- what holds of a new reference at h, whose parts begin at n -/
def FrN (M : Me) (h n : Nat) : Prop := m_t M h = 12 ∧ (m_r M 276 h 0 = n ∧ m_r M 277 h 0 = n + 1 ∧ m_r M 278 h 0 = n + 2) ∧ (m_i M 279 h 0 = 0 ∧ m_i M 280 h 0 = 0 ∧ m_i M 282 h 0 = 0) ∧ (m_l M 31 n 0 = 0 ∧ m_l M 31 n 1 = 0 ∧ m_l M 31 n 2 = 0 ∧ m_l M 31 n 3 = 0) ∧ (m_l M 31 n 4 = 10 ∧ m_l M 31 n 5 = 20 ∧ m_l M 31 n 6 = 40 ∧ m_l M 31 n 7 = 60 ∧ m_l M 31 n 8 = 80 ∧ m_l M 31 n 9 = 100)
theorem N7_l {M : Me} {h j : Nat} (hn : h < m_n M) : m_l (f_N7 M h) 31 (m_n M) j = 0 := by
  have a7 : m_l (f_N7 M h) 31 (m_n M) j = m_l (f_N6 M h) 31 (m_n M) j := if_neg (by show m_n M ≠ m_n M + 6; omega)
  have a6 : m_l (f_N6 M h) 31 (m_n M) j = m_l (f_N5 M h) 31 (m_n M) j := if_neg (by show m_n M ≠ m_n M + 5; omega)
  have a5 : m_l (f_N5 M h) 31 (m_n M) j = m_l (f_N4 M h) 31 (m_n M) j := if_neg (by show m_n M ≠ m_n M + 4; omega)
  have a4 : m_l (f_N4 M h) 31 (m_n M) j = m_l (f_N3 M h) 31 (m_n M) j := if_neg (by show m_n M ≠ m_n M + 3; omega)
  have a3 : m_l (f_N3 M h) 31 (m_n M) j = m_l (f_N2 M h) 31 (m_n M) j := if_neg (by show m_n M ≠ m_n M + 2; omega)
  have a2 : m_l (f_N2 M h) 31 (m_n M) j = m_l (f_N1 M h) 31 (m_n M) j := if_neg (by show m_n M ≠ m_n M + 1; omega)
  have a1 : m_l (f_N1 M h) 31 (m_n M) j = 0 := if_pos rfl
  rw [a7, a6, a5, a4, a3, a2, a1]
theorem l_sj {M : Me} {k a j : Nat} {v : Int64} {i : Nat} (h : i ≠ j) : m_l (s_l M k a j v) k a i = m_l M k a i := if_neg (fun q => h q.2.2)
theorem l_se {M : Me} {k a j : Nat} {v : Int64} : m_l (s_l M k a j v) k a j = v := if_pos ⟨rfl, rfl, rfl⟩
theorem NI_cn {M : Me} {h : Nat} (nw : Nw M) (ht : m_t M h = 12) (h1 : m_i M 279 h 0 = 0) (h2 : m_i M 280 h 0 = 0) (h3 : m_i M 282 h 0 = 0) : Cn M h (f_NI M h) ∧ m_n (f_NI M h) = m_n M + 7 ∧ FrN (f_NI M h) h (m_n M) := by
  have hB : h < m_n M := nw h (by rw [ht]; decide)
  obtain ⟨⟨r0, r1, r2, r3, r4, r5, r6⟩, ri⟩ := N7_h hB
  have t0 : ∀ a, m_t (f_NI M h) a = m_t (f_N7 M h) a := fun _ => rfl
  have z0 : ∀ a, m_z (f_NI M h) a = m_z (f_N7 M h) a := fun _ => rfl
  have q0 : ∀ k a j, m_r (f_NI M h) k a j = m_r (f_N7 M h) k a j := fun _ _ _ => rfl
  have i0 : ∀ k a j, m_i (f_NI M h) k a j = m_i (f_N7 M h) k a j := fun _ _ _ => rfl
  have hth : m_t (f_NI M h) h = 12 := by rw [t0, N7_t, if_neg (by omega), if_neg (by omega), if_neg (by omega), if_neg (by omega), if_neg (by omega), if_neg (by omega), if_neg (by omega), ht]
  have sm : ∀ a, a < m_n M → a ≠ h → Sm M (f_NI M h) a := fun a hn ha => (N7_sm ha hn).tr ((((((Sm.sl (by omega)).tr (Sm.sl (by omega))).tr (Sm.sl (by omega))).tr (Sm.sl (by omega))).tr (Sm.sl (by omega))).tr (Sm.sl (by omega)))
  have wa : ∀ a t z, m_t (f_NI M h) a = t → m_z (f_NI M h) a = z → (∀ q ∈ tgF, q.1 ≠ t) → (∀ q ∈ tgL, q.1 = t → q.2 = z) → (∀ q ∈ tgE, q.1 ≠ t) → (t = 40 → z ≤ 60) → Wta (f_NI M h) a := fun a t z h1 h2 h3 h4 h5 h6 => Wta.arr h1 h2 h3 h4 h5 h6
  have w : ∀ a, m_n M ≤ a → Wta (f_NI M h) a := fun a ha => by
    by_cases e6 : a = m_n M + 6
    · exact wa a 27 9 (by rw [t0, N7_t, if_pos e6]) (by rw [z0, N7_z, if_pos e6]) (by decide) (by decide) (by decide) (by decide)
    by_cases e5 : a = m_n M + 5
    · exact wa a 26 9 (by rw [t0, N7_t, if_neg e6, if_pos e5]) (by rw [z0, N7_z, if_neg e6, if_pos e5]) (by decide) (by decide) (by decide) (by decide)
    by_cases e4 : a = m_n M + 4
    · exact wa a 34 330 (by rw [t0, N7_t, if_neg e6, if_neg e5, if_pos e4]) (by rw [z0, N7_z, if_neg e6, if_neg e5, if_pos e4]) (by decide) (by decide) (by decide) (by decide)
    by_cases e3 : a = m_n M + 3
    · exact wa a 42 60 (by rw [t0, N7_t, if_neg e6, if_neg e5, if_neg e4, if_pos e3]) (by rw [z0, N7_z, if_neg e6, if_neg e5, if_neg e4, if_pos e3]) (by decide) (by decide) (by decide) (by decide)
    by_cases e2 : a = m_n M + 2
    · exact wa a 33 1662 (by rw [t0, N7_t, if_neg e6, if_neg e5, if_neg e4, if_neg e3, if_pos e2]) (by rw [z0, N7_z, if_neg e6, if_neg e5, if_neg e4, if_neg e3, if_pos e2]) (by decide) (by decide) (by decide) (by decide)
    by_cases e1 : a = m_n M + 1
    · exact wa a 32 6648 (by rw [t0, N7_t, if_neg e6, if_neg e5, if_neg e4, if_neg e3, if_neg e2, if_pos e1]) (by rw [z0, N7_z, if_neg e6, if_neg e5, if_neg e4, if_neg e3, if_neg e2, if_pos e1]) (by decide) (by decide) (by decide) (by decide)
    by_cases e0 : a = m_n M
    · exact wa a 31 1662 (by rw [t0, N7_t, if_neg e6, if_neg e5, if_neg e4, if_neg e3, if_neg e2, if_neg e1, if_pos e0]) (by rw [z0, N7_z, if_neg e6, if_neg e5, if_neg e4, if_neg e3, if_neg e2, if_neg e1, if_pos e0]) (by decide) (by decide) (by decide) (by decide)
    refine Wta.zero ?_
    rw [t0, N7_t, if_neg e6, if_neg e5, if_neg e4, if_neg e3, if_neg e2, if_neg e1, if_neg e0]
    exact Classical.byContradiction fun q => absurd (nw a q) (by omega)
  have nwN : Nw (f_NI M h) := fun a ha => by
    rw [t0, N7_t] at ha
    show a < m_n M + 7
    by_cases q : a < m_n M + 7
    · exact q
    · rw [if_neg (by omega), if_neg (by omega), if_neg (by omega), if_neg (by omega), if_neg (by omega), if_neg (by omega), if_neg (by omega)] at ha
      have := nw a ha
      omega
  refine ⟨⟨⟨by show m_n M ≤ m_n M + 7; omega, nwN, fun a ha hn => sm a ha hn, by rw [hth, ht], w⟩, Wta.obj (t := 12) hth (tf_12 (by rw [q0, r0, t0, N7_t, if_neg (by omega), if_neg (by omega), if_neg (by omega), if_neg (by omega), if_neg (by omega), if_neg (by omega), if_pos rfl]) (by rw [q0, r1, t0, N7_t, if_neg (by omega), if_neg (by omega), if_neg (by omega), if_neg (by omega), if_neg (by omega), if_pos rfl]) (by rw [q0, r2, t0, N7_t, if_neg (by omega), if_neg (by omega), if_neg (by omega), if_neg (by omega), if_pos rfl]) (by rw [q0, r3, t0, N7_t, if_neg (by omega), if_neg (by omega), if_neg (by omega), if_pos rfl]) (by rw [q0, r4, t0, N7_t, if_neg (by omega), if_neg (by omega), if_pos rfl]) (by rw [q0, r5, t0, N7_t, if_neg (by omega), if_pos rfl]) (by rw [q0, r6, t0, N7_t, if_pos rfl])) (by decide) (by decide) (by decide)⟩, rfl, hth, ⟨by rw [q0, r0], by rw [q0, r1], by rw [q0, r2]⟩, ⟨by rw [i0, ri, h1], by rw [i0, ri, h2], by rw [i0, ri, h3]⟩, ⟨?_, ?_, ?_, ?_⟩, ?_, ?_, ?_, ?_, ?_, ?_⟩
  · unfold f_NI; rw [l_sj (by decide), l_sj (by decide), l_sj (by decide), l_sj (by decide), l_sj (by decide), l_sj (by decide), N7_l hB]
  · unfold f_NI; rw [l_sj (by decide), l_sj (by decide), l_sj (by decide), l_sj (by decide), l_sj (by decide), l_sj (by decide), N7_l hB]
  · unfold f_NI; rw [l_sj (by decide), l_sj (by decide), l_sj (by decide), l_sj (by decide), l_sj (by decide), l_sj (by decide), N7_l hB]
  · unfold f_NI; rw [l_sj (by decide), l_sj (by decide), l_sj (by decide), l_sj (by decide), l_sj (by decide), l_sj (by decide), N7_l hB]
  · unfold f_NI; rw [l_sj (by decide), l_sj (by decide), l_sj (by decide), l_sj (by decide), l_sj (by decide), l_se]
  · unfold f_NI; rw [l_sj (by decide), l_sj (by decide), l_sj (by decide), l_sj (by decide), l_se]
  · unfold f_NI; rw [l_sj (by decide), l_sj (by decide), l_sj (by decide), l_se]
  · unfold f_NI; rw [l_sj (by decide), l_sj (by decide), l_se]
  · unfold f_NI; rw [l_sj (by decide), l_se]
  · unfold f_NI; rw [l_se]
section VX
variable {p : Program} {l : Launch} {e : Env} {R : Room} {s : State} {m : MethodId} {args : Array Value} {below : List Frame} {meth : Method} {c : Code} {nL : Nat} {G : Gd} {Q : State → Prop} {M : Me} {cells slots pc : Nat} {L : Lo} {rest : List Value} {cc : ByteArray} {own nm : String} {rt : Option FieldType}
theorem v_mem {M2 : Me} (h : M2 = M) (kk : V p l e R s m args below meth c nL G Q M2 cells slots pc L rest) : V p l e R s m args below meth c nL G Q M cells slots pc L rest := h ▸ kk
theorem v_alez {a z : Nat} (hC : Cx p m c s args meth cc nL own nm rt G) (ht : m_t M a = 40) (hz : m_z M a = z) (hd : decode cc pc = .ok (.arraylength, 1)) (kk : V p l e R s m args below meth c nL G Q M cells slots (pc + 1) L (.int (nI z) :: rest)) : V p l e R s m args below meth c nL G Q M cells slots pc L (.ref a :: rest) := by
  subst hz
  exact v_alen 40 hC (ty := .char) ht (by decide) (by decide) hd kk
end VX
