def Tx (M M2 : Me) : Prop := m_n M2 = m_n M ∧ ∀ a, m_t M2 a = m_t M a
theorem Tx.rf {M : Me} : Tx M M := ⟨rfl, fun _ => rfl⟩
theorem Tx.tr {M M2 M3 : Me} (h : Tx M M2) (h2 : Tx M2 M3) : Tx M M3 := ⟨h2.1.trans h.1, fun a => (h2.2 a).trans (h.2 a)⟩
theorem Fx.tx {M M2 : Me} (h : Fx M M2) : Tx M M2 := ⟨h.1, h.2.1⟩
/-- a state laid in part: numbers P, sizes PS, segments PG, entries' segments PE are those of u -/
def CP (M : Me) (S : Nat) (u : Si) (P : Nat → Nat → Nat → Prop) (PS : Nat → Prop) (PG : Nat → Nat → Prop) (PE : Nat → Prop) : Prop := LY M S ∧ (∀ k a j, P k a j → cpR k a j ∧ Kn M S u k a j) ∧ (∀ f, PS f → f < 8 ∧ m_i M 249 (cA S 4 f) 0 = nI (n_s u f)) ∧ (∀ f t, PG f t → f < 8 ∧ SgR M (m_r M 52 (cF S f) t) (q_g u 0 f t)) ∧ ∀ x, PE x → x < 40 ∧ SgR M (m_r M 116 (cA S 11 x) 0) (q_g u 1 x 0)
section CPs
variable {M : Me} {S : Nat} {u : Si} {P P2 : Nat → Nat → Nat → Prop} {PS PS2 : Nat → Prop} {PG PG2 : Nat → Nat → Prop} {PE PE2 : Nat → Prop}
theorem CP.sub (h : CP M S u P PS PG PE) (h1 : ∀ k a j, P2 k a j → P k a j) (h2 : ∀ f, PS2 f → PS f) (h3 : ∀ f t, PG2 f t → PG f t) (h4 : ∀ x, PE2 x → PE x) : CP M S u P2 PS2 PG2 PE2 := ⟨h.1, fun k a j q => h.2.1 k a j (h1 k a j q), fun f q => h.2.2.1 f (h2 f q), fun f t q => h.2.2.2.1 f t (h3 f t q), fun x q => h.2.2.2.2 x (h4 x q)⟩
theorem CP.wr {A : Nat} {x : Int32} (k a j : Nat) (h : CP M S u P PS PG PE) (hc : cpR k a j) (hA : A = cA S k a) (hx : x = q_i u k a j) : CP (s_i M (cK k) A j x) S u (fun k2 a2 j2 => P k2 a2 j2 ∨ (k2 = k ∧ a2 = a ∧ j2 = j)) PS PG PE := by
  subst hA; subst hx
  obtain ⟨n1, n2, n3, n4, n5, n6, n7⟩ := cK_no hc.le
  refine ⟨h.1, fun k2 a2 j2 q => ?_, fun f q => ⟨(h.2.2.1 f q).1, by rw [i_sk (Ne.symm n5)]; exact (h.2.2.1 f q).2⟩, fun f t q => ⟨(h.2.2.2.1 f t q).1, (h.2.2.2.1 f t q).2.si n6 n7⟩, fun y q => ⟨(h.2.2.2.2 y q).1, (h.2.2.2.2 y q).2.si n6 n7⟩⟩
  by_cases w : k2 = k ∧ a2 = a ∧ j2 = j
  · obtain ⟨rfl, rfl, rfl⟩ := w
    exact ⟨hc, i_se⟩
  · rcases q with q | q
    · obtain ⟨q1, q2⟩ := h.2.1 k2 a2 j2 q
      exact ⟨q1, (i_sx (cA_ne hc q1 w)).trans q2⟩
    · exact absurd q w
theorem CP.sz {f : Nat} {x : Int32} (h : CP M S u P PS PG PE) (hf : f < 8) (hx : x = nI (n_s u f)) : CP (s_i M 249 (cA S 4 f) 0 x) S u P (fun g => PS g ∨ g = f) PG PE := by
  subst hx
  refine ⟨h.1, fun k a j q => ?_, fun g q => ?_, fun g t q => ⟨(h.2.2.2.1 g t q).1, (h.2.2.2.1 g t q).2.si (by decide) (by decide)⟩, fun y q => ⟨(h.2.2.2.2 y q).1, (h.2.2.2.2 y q).2.si (by decide) (by decide)⟩⟩
  · obtain ⟨q1, q2⟩ := h.2.1 k a j q
    exact ⟨q1, (i_sk (cK_no q1.le).2.2.2.2.1).trans q2⟩
  · by_cases w : g = f
    · subst w; exact ⟨hf, i_se⟩
    · rcases q with q | q
      · exact ⟨(h.2.2.1 g q).1, (i_ska (fun z => by simp [cA, cB, cS] at z; omega)).trans (h.2.2.1 g q).2⟩
      · exact absurd q w
theorem CP.ct {k x j : Nat} {v : Int32} (h : CP M S u P PS PG PE) (hk : k = 214 ∨ k = 216 ∨ k = 166 ∨ k = 168) : CP (s_i M k x j v) S u P PS PG PE := by
  refine ⟨h.1, fun k2 a j q => ?_, fun g q => ⟨(h.2.2.1 g q).1, by rw [i_sk (by omega)]; exact (h.2.2.1 g q).2⟩, fun g t q => ⟨(h.2.2.2.1 g t q).1, (h.2.2.2.1 g t q).2.si (by omega) (by omega)⟩, fun y q => ⟨(h.2.2.2.2 y q).1, (h.2.2.2.2 y q).2.si (by omega) (by omega)⟩⟩
  obtain ⟨q1, q2⟩ := h.2.1 k2 a j q
  have w := cK_no q1.le
  exact ⟨q1, (i_sk (by omega)).trans q2⟩
theorem CP.g52 {f t g0 : Nat} (h : CP M S u P PS PG PE) (hf : f < 8) (hg : SgR M g0 (q_g u 0 f t)) : CP (s_r M 52 (cF S f) t g0) S u P PS (fun f2 t2 => PG f2 t2 ∨ (f2 = f ∧ t2 = t)) PE := by
  refine ⟨h.1.sr (Or.inl rfl), h.2.1, h.2.2.1, fun f2 t2 q => ?_, fun y q => ⟨(h.2.2.2.2 y q).1, by rw [r_sk (by decide)]; exact (h.2.2.2.2 y q).2.sr (Or.inl rfl)⟩⟩
  by_cases w : f2 = f ∧ t2 = t
  · obtain ⟨rfl, rfl⟩ := w
    exact ⟨hf, by rw [r_se]; exact hg.sr (Or.inl rfl)⟩
  · rcases q with q | q
    · refine ⟨(h.2.2.2.1 f2 t2 q).1, ?_⟩
      rw [r_sx (fun z => w ⟨by obtain ⟨_, z2, _⟩ := z; unfold cF at z2; omega, z.2.2⟩)]
      exact (h.2.2.2.1 f2 t2 q).2.sr (Or.inl rfl)
    · exact absurd q w
theorem CP.g116 {y g0 : Nat} (h : CP M S u P PS PG PE) (hf : y < 40) (hg : SgR M g0 (q_g u 1 y 0)) : CP (s_r M 116 (cA S 11 y) 0 g0) S u P PS PG (fun x => PE x ∨ x = y) := by
  refine ⟨h.1.sr (Or.inr rfl), h.2.1, h.2.2.1, fun f2 t2 q => ⟨(h.2.2.2.1 f2 t2 q).1, by rw [r_sk (by decide)]; exact (h.2.2.2.1 f2 t2 q).2.sr (Or.inr rfl)⟩, fun x q => ?_⟩
  by_cases w : x = y
  · subst w
    exact ⟨hf, by rw [r_se]; exact hg.sr (Or.inr rfl)⟩
  · rcases q with q | q
    · refine ⟨(h.2.2.2.2 x q).1, ?_⟩
      rw [r_sx (fun z => w (by obtain ⟨_, z2, _⟩ := z; simp [cA, cB, cS] at z2; omega))]
      exact (h.2.2.2.2 x q).2.sr (Or.inr rfl)
    · exact absurd q w
theorem CP.done (h : CP M S u P PS PG PE) (hu : capU u) (h1 : ∀ k a j, inR u k a j → P k a j) (h2 : ∀ f, f < n_f u → PS f) (h3 : ∀ f t, f < n_f u → t < n_s u f → PG f t) (h4 : ∀ x, x < n_e u → PE x) (hc : m_i M 216 S 0 = nI (n_f u) ∧ m_i M 214 S 0 = nI (n_p u) ∧ m_i M 166 (S + 43) 0 = nI (n_e u) ∧ m_i M 168 (S + 43) 0 = nI (n_d u)) : CR M S u := ⟨h.1, hu, fun k a j q => (h.2.1 k a j (h1 k a j q)).2, hc, fun f q => (h.2.2.1 f (h2 f q)).2, fun f t q1 q2 => (h.2.2.2.1 f t (h3 f t q1 q2)).2, fun x q => (h.2.2.2.2 x (h4 x q)).2⟩
end CPs
/-- what a copy keeps beside -/
def Ck (M M2 : Me) : Prop := ∀ a j, m_i M2 214 a j = m_i M 214 a j ∧ m_i M2 216 a j = m_i M 216 a j
theorem Ck.rf {M : Me} : Ck M M := fun _ _ => ⟨rfl, rfl⟩
theorem Ck.tr {M M2 M3 : Me} (h : Ck M M2) (h2 : Ck M2 M3) : Ck M M3 := fun a j => ⟨(h2 a j).1.trans (h a j).1, (h2 a j).2.trans (h a j).2⟩
theorem Ck.si {M M2 : Me} {k x j : Nat} {v : Int32} (h : Ck M M2) (hk : k ≠ 214 ∧ k ≠ 216) : Ck M (s_i M2 k x j v) := fun a i => ⟨(i_sk (Ne.symm hk.1)).trans (h a i).1, (i_sk (Ne.symm hk.2)).trans (h a i).2⟩
theorem Ck.sr {M M2 : Me} {k x j v : Nat} (h : Ck M M2) : Ck M (s_r M2 k x j v) := h
theorem CR.sh2 {M : Me} {S j : Nat} {u : Si} (h : CR M S u) (hj : j < 6) : m_i M 20 (cA S 0 0) j = q_i u 0 0 j := h.2.2.1 0 0 j (Or.inl ⟨rfl, rfl, hj⟩)
theorem CR.od2 {M : Me} {S j : Nat} {u : Si} (h : CR M S u) (hj : j < n_f u) : m_i M 21 (cA S 17 0) j = q_i u 17 0 j := h.2.2.1 17 0 j (Or.inr (Or.inr (Or.inr (Or.inr (Or.inr (Or.inr ⟨rfl, rfl, hj⟩))))))
set_option maxHeartbeats 4000000 in
set_option maxRecDepth 100000 in
theorem c_X5_copyFrom {l : Launch} {G : Gd} {M : Me} {h g : Nat} (ht : m_t M h = 6) (hg : m_t M g = 6) : CQ (Qv G (fun M2 => M2 = s_i (s_i (s_i M 180 h 0 (m_i M 180 g 0)) 181 h 0 (m_i M 181 g 0)) 182 h 0 (m_i M 182 g 0))) l G yX5_copyFrom cX5_copyFrom 2 (none) 0 0 0 0 [.ref h, .ref g] M := by
  refine c_of ([some (.ref h), some (.ref g)] : Lo) RX5 "copyFrom" (by decide) rfl rfl (Nat.le_of_ble_eq_true rfl) rfl (fun p e s m below meth c hC nw => ?_)
  refine v_aload_n hC dX5_copyFrom_0 rfl rfl ?_
  refine v_aload_n hC dX5_copyFrom_1 rfl rfl ?_
  refine gf_5_0 hC hg mw_1_103 dX5_copyFrom_2 ?_
  refine pf_5_0 hC ht mw_1_103 dX5_copyFrom_5 ?_
  refine v_aload_n hC dX5_copyFrom_8 rfl rfl ?_
  refine v_aload_n hC dX5_copyFrom_9 rfl rfl ?_
  refine gf_5_1 hC hg mw_1_105 dX5_copyFrom_10 ?_
  refine pf_5_1 hC ht mw_1_105 dX5_copyFrom_13 ?_
  refine v_aload_n hC dX5_copyFrom_16 rfl rfl ?_
  refine v_aload_n hC dX5_copyFrom_17 rfl rfl ?_
  refine gf_5_2 hC hg mw_1_107 dX5_copyFrom_18 ?_
  refine pf_5_2 hC ht mw_1_107 dX5_copyFrom_21 ?_
  refine v_vret hC dX5_copyFrom_24 ?_
  exact rfl

set_option maxHeartbeats 4000000 in
set_option maxRecDepth 100000 in
theorem c_X0_copyFrom {l : Launch} {G : Gd} {M : Me} {h g : Nat} (ht : m_t M h = 1) (hg : m_t M g = 1) : CQ (Qv G (fun M2 => M2 = s_i (s_i (s_i (s_i M 100 h 0 (m_i M 100 g 0)) 101 h 0 (m_i M 101 g 0)) 102 h 0 (m_i M 102 g 0)) 103 h 0 (m_i M 103 g 0))) l G yX0_copyFrom cX0_copyFrom 2 (none) 0 0 0 0 [.ref h, .ref g] M := by
  refine c_of ([some (.ref h), some (.ref g)] : Lo) RX0 "copyFrom" (by decide) rfl rfl (Nat.le_of_ble_eq_true rfl) rfl (fun p e s m below meth c hC nw => ?_)
  refine v_aload_n hC dX0_copyFrom_0 rfl rfl ?_
  refine v_aload_n hC dX0_copyFrom_1 rfl rfl ?_
  refine gf_0_0 hC hg mw_1_224 dX0_copyFrom_2 ?_
  refine pf_0_0 hC ht mw_1_224 dX0_copyFrom_5 ?_
  refine v_aload_n hC dX0_copyFrom_8 rfl rfl ?_
  refine v_aload_n hC dX0_copyFrom_9 rfl rfl ?_
  refine gf_0_1 hC hg mw_1_228 dX0_copyFrom_10 ?_
  refine pf_0_1 hC ht mw_1_228 dX0_copyFrom_13 ?_
  refine v_aload_n hC dX0_copyFrom_16 rfl rfl ?_
  refine v_aload_n hC dX0_copyFrom_17 rfl rfl ?_
  refine gf_0_2 hC hg mw_1_231 dX0_copyFrom_18 ?_
  refine pf_0_2 hC ht mw_1_231 dX0_copyFrom_21 ?_
  refine v_aload_n hC dX0_copyFrom_24 rfl rfl ?_
  refine v_aload_n hC dX0_copyFrom_25 rfl rfl ?_
  refine gf_0_3 hC hg mw_1_234 dX0_copyFrom_26 ?_
  refine pf_0_3 hC ht mw_1_234 dX0_copyFrom_29 ?_
  refine v_vret hC dX0_copyFrom_32 ?_
  exact rfl

set_option maxHeartbeats 4000000 in
set_option maxRecDepth 100000 in
theorem c_X1_copyFrom {l : Launch} {G : Gd} {M : Me} {h g : Nat} (hW : Wt M) (ht : m_t M h = 2) (hg : m_t M g = 2) (hz : m_i M 118 g 0 = 0 ∨ m_i M 118 g 0 = 1) : CQ (Qv G (fun M2 => M2 = s_i (s_i (s_r M 116 h 0 (m_r M 116 g 0)) 117 h 0 (m_i M 117 g 0)) 118 h 0 (m_i M 118 g 0))) l G yX1_copyFrom cX1_copyFrom 2 (none) 0 0 0 0 [.ref h, .ref g] M := by
  refine c_of ([some (.ref h), some (.ref g)] : Lo) RX1 "copyFrom" (by decide) rfl rfl (Nat.le_of_ble_eq_true rfl) rfl (fun p e s m below meth c hC nw => ?_)
  refine v_aload_n hC dX1_copyFrom_0 rfl rfl ?_
  refine v_aload_n hC dX1_copyFrom_1 rfl rfl ?_
  refine gf_1_0 hC hg (wf_116 hW hg) mw_1_194 dX1_copyFrom_2 ?_
  refine pf_1_0 hC ht (wf_116 hW hg) mw_1_194 dX1_copyFrom_5 ?_
  refine v_aload_n hC dX1_copyFrom_8 rfl rfl ?_
  refine v_aload_n hC dX1_copyFrom_9 rfl rfl ?_
  refine gf_1_1 hC hg mw_1_198 dX1_copyFrom_10 ?_
  refine pf_1_1 hC ht mw_1_198 dX1_copyFrom_13 ?_
  refine v_aload_n hC dX1_copyFrom_16 rfl rfl ?_
  refine v_aload_n hC dX1_copyFrom_17 rfl rfl ?_
  refine gf_1_2 hC hg mw_1_202 dX1_copyFrom_18 ?_
  refine pf_1_2 hC ht hz mw_1_202 dX1_copyFrom_21 ?_
  refine v_vret hC dX1_copyFrom_24 ?_
  exact rfl
