/-- a number at a place is the one that the state tells -/
def Kn (M : Me) (S : Nat) (u : Si) (k a j : Nat) : Prop := m_i M (cK k) (cA S k a) j = q_i u k a j
theorem Kn.w {M : Me} {S A k a j k2 a2 j2 : Nat} {u : Si} {v : Int32} (h : ¬ (k2 = k ∧ a2 = a ∧ j2 = j) → Kn M S u k2 a2 j2) (hc2 : cpR k2 a2 j2) (hc : cpR k a j) (hA : A = cA S k a) : Kn (s_i M (cK k) A j v) S (u_i u k a j v) k2 a2 j2 := by
  subst hA
  by_cases q : k2 = k ∧ a2 = a ∧ j2 = j
  · obtain ⟨rfl, rfl, rfl⟩ := q
    exact i_se.trans q_ie.symm
  · exact (i_sx (cA_ne hc hc2 q)).trans ((h q).trans (show q_i (u_i u k a j v) k2 a2 j2 = q_i u k2 a2 j2 from if_neg q).symm)
theorem cp_p {p : Nat} (h : p < 6) : ∀ k, 1 ≤ k → k ≤ 3 → cpR k p 0 := fun k q1 q2 => Or.inr (Or.inl ⟨q1, q2, h, rfl⟩)
theorem cp_f {f : Nat} (h : f < 8) : ∀ k, 4 ≤ k → k ≤ 8 → cpR k f 0 := fun k q1 q2 => Or.inr (Or.inr (Or.inl ⟨q1, q2, h, rfl⟩))
theorem cp_s {f s : Nat} (h : f < 8) (h2 : s < 12) : ∀ k, 9 ≤ k → k ≤ 10 → cpR k f s := fun k q1 q2 => Or.inr (Or.inr (Or.inr (Or.inl ⟨q1, q2, h, h2⟩)))
theorem cp_e {e : Nat} (h : e < 40) : ∀ k, 11 ≤ k → k ≤ 12 → cpR k e 0 := fun k q1 q2 => Or.inr (Or.inr (Or.inr (Or.inr (Or.inl ⟨q1, q2, h, rfl⟩))))
theorem cp_d {d : Nat} (h : d < 10) : ∀ k, 13 ≤ k → k ≤ 16 → cpR k d 0 := fun k q1 q2 => Or.inr (Or.inr (Or.inr (Or.inr (Or.inr (Or.inl ⟨q1, q2, h, rfl⟩)))))
theorem cp_o {j : Nat} (h : j < 8) : cpR 17 0 j := Or.inr (Or.inr (Or.inr (Or.inr (Or.inr (Or.inr ⟨rfl, rfl, h⟩)))))
theorem cp_h {b : Nat} (h : b < 6) : cpR 0 0 b := Or.inl ⟨rfl, rfl, h⟩
theorem ly_F2 {M : Me} {S f : Nat} (h : LY M S) (hf : f < 8) : m_r M 51 (m_r M 215 S 0) f = cA S 4 f := ly_F h hf
theorem ly_P2 {M : Me} {S p : Nat} (h : LY M S) (hp : p < 6) : m_r M 50 (m_r M 213 S 0) p = cA S 1 p := ly_P h hp
theorem ly_M {M : Me} {S : Nat} (h : LY M S) : m_r M 218 S 0 = S + 43 := h.1.2.2.2.2.2.1
theorem ly_E2 {M : Me} {S e : Nat} (h : LY M S) (he : e < 40) : m_r M 53 (m_r M 165 (S + 43) 0) e = cA S 11 e := by
  have q := ly_E h he
  unfold pE pM at q
  rw [ly_M h] at q; exact q
theorem ly_D2 {M : Me} {S d : Nat} (h : LY M S) (hd : d < 10) : m_r M 54 (m_r M 167 (S + 43) 0) d = cA S 13 d := by
  have q := ly_D h hd
  unfold pD pM at q
  rw [ly_M h] at q; exact q
theorem ly_T2 {M : Me} {S f : Nat} (h : LY M S) (hf : f < 8) : m_r M 251 (cA S 4 f) 0 = cA S 9 f ∧ m_r M 252 (cA S 4 f) 0 = cA S 10 f ∧ m_r M 250 (cA S 4 f) 0 = cF S f := ⟨(h.2.2.1 f hf).2.2.1, (h.2.2.1 f hf).2.2.2, (h.2.2.1 f hf).2.1⟩
theorem ly_O {M : Me} {S : Nat} (h : LY M S) : m_r M 217 S 0 = cA S 17 0 := h.1.2.2.2.2.1
theorem ly_H {M : Me} {S : Nat} (h : LY M S) : m_r M 212 S 0 = cA S 0 0 := h.1.2.1
theorem CR.fs2 {M : Me} {S f : Nat} {u : Si} (h : CR M S u) (hf : f < n_f u) : FS M (cA S 4 f) (n_s u f) (q_g u 0 f) := by
  have q := h.fs hf
  rw [ly_F h.1 (by have := h.2.1.1; omega)] at q
  exact q
theorem CR.ft2 {M : Me} {S f s : Nat} {u : Si} (h : CR M S u) (hf : f < n_f u) (hs : s < n_s u f) : m_i M 24 (m_r M 251 (cA S 4 f) 0) s = q_i u 9 f s ∧ m_i M 25 (m_r M 252 (cA S 4 f) 0) s = q_i u 10 f s := by
  have q := h.ft hf hs
  rw [ly_F h.1 (by have := h.2.1.1; omega)] at q
  exact q
theorem CR.f42 {M : Me} {S f : Nat} {u : Si} (h : CR M S u) (hf : f < n_f u) : m_i M 244 (cA S 4 f) 0 = q_i u 4 f 0 ∧ m_i M 245 (cA S 4 f) 0 = q_i u 5 f 0 ∧ m_i M 246 (cA S 4 f) 0 = q_i u 6 f 0 ∧ m_i M 247 (cA S 4 f) 0 = q_i u 7 f 0 ∧ m_i M 248 (cA S 4 f) 0 = q_i u 8 f 0 := by
  have q := h.f4 hf
  rw [ly_F h.1 (by have := h.2.1.1; omega)] at q
  exact q
theorem CR.pe2 {M : Me} {S p : Nat} {u : Si} (h : CR M S u) (hp : p < n_p u) : m_i M 180 (cA S 1 p) 0 = q_i u 1 p 0 ∧ m_i M 181 (cA S 1 p) 0 = q_i u 2 p 0 ∧ m_i M 182 (cA S 1 p) 0 = q_i u 3 p 0 := by
  have q := h.pe hp
  rw [ly_P h.1 (by have := h.2.1.2.1; omega)] at q
  exact q
theorem CR.en2 {M : Me} {S e : Nat} {u : Si} (h : CR M S u) (he : e < n_e u) : m_i M 117 (cA S 11 e) 0 = q_i u 11 e 0 ∧ m_i M 118 (cA S 11 e) 0 = q_i u 12 e 0 ∧ SgR M (m_r M 116 (cA S 11 e) 0) (q_g u 1 e 0) := by
  have q := h.en he
  rw [ly_E h.1 (by have := h.2.1.2.2.1; omega)] at q
  exact q
theorem CR.di2 {M : Me} {S d : Nat} {u : Si} (h : CR M S u) (hd : d < n_d u) : m_i M 100 (cA S 13 d) 0 = q_i u 13 d 0 ∧ m_i M 101 (cA S 13 d) 0 = q_i u 14 d 0 ∧ m_i M 102 (cA S 13 d) 0 = q_i u 15 d 0 ∧ m_i M 103 (cA S 13 d) 0 = q_i u 16 d 0 := by
  have q := h.di hd
  rw [ly_D h.1 (by have := h.2.1.2.2.2.1; omega)] at q
  exact q
theorem CR.es2 {M : Me} {S : Nat} {u : Si} (h : CR M S u) : ES M (S + 43) (n_e u) (fun e => q_g u 1 e 0) := by
  have q := h.es
  unfold pM at q
  rw [ly_M h.1] at q
  exact q
theorem Wt.sg {M : Me} {a j x : Nat} (h : Wt M) (hx : m_t M x = 7) (k : Nat) (hk : k = 52 ∨ k = 116) : Wt (s_r M k a j x) := by
  obtain ⟨w1, w2, w3, w4⟩ := h
  refine ⟨fun q hq b hb => ?_, w2, fun q hq b hb i hi => ?_, w4⟩
  · have hb' : m_t M b = q.1 := hb
    have e := w1 q hq b hb'
    by_cases z : q.2.1 = k ∧ b = a ∧ 0 = j
    · have e7 : q.2.2 = 7 := by
        obtain ⟨z1, -, -⟩ := z
        have h1 : ∀ y ∈ tgF, (y.2.1 = 52 ∨ y.2.1 = 116) → y.2.2 = 7 := by decide
        exact h1 q hq (by rw [z1]; exact hk)
      rw [e7, show m_r (s_r M k a j x) q.2.1 b 0 = x from if_pos z]; exact hx
    · rw [show m_r (s_r M k a j x) q.2.1 b 0 = m_r M q.2.1 b 0 from if_neg z]; exact e
  · have hb' : m_t M b = q.1 := hb
    have e := w3 q hq b hb' i hi
    by_cases z : q.1 = k ∧ b = a ∧ i = j
    · have e7 : q.2 = 7 := by
        obtain ⟨z1, -, -⟩ := z
        have h1 : ∀ y ∈ tgE, (y.1 = 52 ∨ y.1 = 116) → y.2 = 7 := by decide
        exact h1 q hq (by rw [z1]; exact hk)
      rw [e7, show m_r (s_r M k a j x) q.1 b i = x from if_pos z]; exact hx
    · rw [show m_r (s_r M k a j x) q.1 b i = m_r M q.1 b i from if_neg z]; exact e
def hireU (u : Si) (x : Int32) : Si := u_n (u_i (u_i (u_i u 1 (n_p u) 0 x) 2 (n_p u) 0 0) 3 (n_p u) 0 (-5)) 1 0 (n_p u + 1)
def fileU (u : Si) : Si := u_n (u_i (u_n (u_i (u_i (u_i (u_i (u_i u 4 (n_f u) 0 0) 5 (n_f u) 0 (-5)) 6 (n_f u) 0 (-5)) 7 (n_f u) 0 (-5)) 8 (n_f u) 0 0) 4 (n_f u) 0) 17 0 (n_f u) (nI (n_f u))) 0 0 (n_f u + 1)
def appU (u : Si) (f : Nat) (g : Sg) : Si := u_n (u_i (u_i (u_g u 0 f (n_s u f) g) 9 f (n_s u f) 0) 10 f (n_s u f) 0) 4 f (n_s u f + 1)
def entU (u : Si) (g : Sg) (t : Int32) : Si := u_n (u_i (u_i (u_g u 1 (n_e u) 0 g) 11 (n_e u) 0 t) 12 (n_e u) 0 0) 2 0 (n_e u + 1)
def dspU (u : Si) (e : Nat) (t : Int32) : Si := u_n (u_i (u_i (u_i (u_i u 13 (n_d u) 0 (nI e)) 14 (n_d u) 0 (q_i u 11 e 0)) 15 (n_d u) 0 t) 16 (n_d u) 0 0) 3 0 (n_d u + 1)
set_option maxHeartbeats 4000000 in
set_option maxRecDepth 100000 in
theorem c_X7_hire {l : Launch} {G : Gd} {M : Me} {h : Nat} {u : Si} {x : Int32} (hW : Wt M) (ht : m_t M h = 8) (hR : CR M h u) (hn : n_p u < 6) : CQ (Qi G (fun r M2 => r = nI (n_p u) ∧ CR M2 h (hireU u x) ∧ Rg M M2 h ∧ Wt M2)) l G yX7_hire cX7_hire 2 ((some .int)) 1 21 0 0 [.ref h, .int x] M := by
  refine c_of ([some (.ref h), some (.int x)] : Lo) RX7 "hire" (by decide) rfl rfl (Nat.le_of_ble_eq_true rfl) rfl (fun p e s m below meth c hC nw => ?_)
  have hn0 := hR.2.2.2.1.2.1
  have hP : m_t M (cA h 1 (n_p u)) = 6 := by rw [← ly_P2 hR.1 hn]; exact we_50 hW (wf_213 hW ht) (by omega)
  refine v_aload_n hC dX7_hire_0 rfl rfl ?_
  refine gf_7_2 hC ht mw_2_32 dX7_hire_1 ?_
  rw [hn0]
  refine v_bipush (v := 6) hC dX7_hire_4 (by decide) ?_
  refine v_icmp_lt hC dX7_hire_6 (tgt := 12) (by decide) (fun h6 => ?_) (fun h6 => absurd (nI_lt (a := n_p u) (b := 6) hn (by decide)) h6)
  refine v_aload_n hC dX7_hire_12 rfl rfl ?_
  refine gf_7_1 hC ht (wf_213 hW ht) mw_2_30 dX7_hire_13 ?_
  refine v_aload_n hC dX7_hire_16 rfl rfl ?_
  refine gf_7_2 hC ht mw_2_32 dX7_hire_17 ?_
  rw [hn0]
  refine v_aald 50 _ hC (wf_213 hW ht) (by decide) rfl (ix_c (wz_50 hW (wf_213 hW ht)) (by omega)) (we_50 hW (wf_213 hW ht) (by omega)) dX7_hire_20 ?_
  rw [ly_P2 hR.1 hn]
  refine v_iload_n hC dX7_hire_21 rfl rfl ?_
  refine cVv1 hC (c_X5_reset hP) yv_X5_reset rfl hP mw_2_138 ⟨Nat.le_of_ble_eq_true rfl, Nat.le_of_ble_eq_true rfl⟩ ⟨Nat.le_of_ble_eq_true rfl, Nat.le_of_ble_eq_true rfl⟩ (Nat.le_of_ble_eq_true rfl) dX7_hire_22 (fun M24 hq => ?_)
  subst hq
  unfold f_pR
  refine v_aload_n hC dX7_hire_25 rfl rfl ?_
  refine v_dup hC dX7_hire_26 rfl ?_
  refine gf_7_2 hC ht mw_2_32 dX7_hire_27 ?_
  erw [hn0]
  refine v_iconst (v := 1) hC dX7_hire_30 (by decide) ?_
  refine v_iadd hC dX7_hire_31 ?_
  rw [← nI_succ]
  refine pf_7_2 hC ht mw_2_32 dX7_hire_32 ?_
  refine v_aload_n hC dX7_hire_35 rfl rfl ?_
  refine gf_7_2 hC ht mw_2_32 dX7_hire_36 ?_
  rw [i_se]
  refine v_iconst (v := 1) hC dX7_hire_39 (by decide) ?_
  refine v_isub hC dX7_hire_40 ?_
  rw [nI_pred]
  refine v_iret hC dX7_hire_41 ?_
  have hA : cA h 1 (n_p u) = cA h 1 (n_p u) := rfl
  have hc := cp_p hn
  have k3 := CR.wA (v := -5) 3 (n_p u) 0 (CR.wA (v := 0) 2 (n_p u) 0 (CR.wA (v := x) 1 (n_p u) 0 hR (hc 1 (by decide) (by decide)) hA) (hc 2 (by decide) (by decide)) hA) (hc 3 (by decide) (by decide)) hA
  refine ⟨rfl, k3.growP hn (fun k q1 q2 => ?_), ?_, hW⟩
  · show m_i _ (cK k) (cA h k (n_p u)) 0 = q_i _ k (n_p u) 0
    exact Kn.w (fun n3 => Kn.w (fun n2 => Kn.w (fun n1 => absurd n1 (by omega)) (hc k q1 q2) (hc 1 (by decide) (by decide)) hA) (hc k q1 q2) (hc 2 (by decide) (by decide)) hA) (hc k q1 q2) (hc 3 (by decide) (by decide)) hA
  · exact (((Rg.rf.si (cA_r (hc 1 (by decide) (by decide))) (by decide)).si (cA_r (hc 1 (by decide) (by decide))) (by decide)).si (cA_r (hc 1 (by decide) (by decide))) (by decide)).si ⟨Nat.le_refl _, by omega⟩ (by decide)

set_option maxHeartbeats 4000000 in
set_option maxRecDepth 100000 in
theorem c_X7_addFile {l : Launch} {G : Gd} {M : Me} {h : Nat} {u : Si} (hW : Wt M) (ht : m_t M h = 8) (hR : CR M h u) (hn : n_f u < 8) : CQ (Qi G (fun r M2 => r = nI (n_f u) ∧ CR M2 h (fileU u) ∧ Rg M M2 h ∧ Wt M2)) l G yX7_addFile cX7_addFile 1 ((some .int)) 1 20 0 0 [.ref h] M := by
  refine c_of ([some (.ref h)] : Lo) RX7 "addFile" (by decide) rfl rfl (Nat.le_of_ble_eq_true rfl) rfl (fun p e s m below meth c hC nw => ?_)
  have hn0 := hR.2.2.2.1.1
  have hP : m_t M (cA h 4 (n_f u)) = 10 := by rw [← ly_F2 hR.1 hn]; exact we_51 hW (wf_215 hW ht) (by omega)
  have hO : m_t M (cA h 17 0) = 21 := by rw [← ly_O hR.1]; exact wf_217 hW ht
  refine v_aload_n hC dX7_addFile_0 rfl rfl ?_
  refine gf_7_4 hC ht mw_2_36 dX7_addFile_1 ?_
  rw [hn0]
  refine v_bipush (v := 8) hC dX7_addFile_4 (by decide) ?_
  refine v_icmp_lt hC dX7_addFile_6 (tgt := 12) (by decide) (fun h6 => ?_) (fun h6 => absurd (nI_lt (a := n_f u) (b := 8) hn (by decide)) h6)
  refine v_aload_n hC dX7_addFile_12 rfl rfl ?_
  refine gf_7_3 hC ht (wf_215 hW ht) mw_2_34 dX7_addFile_13 ?_
  refine v_aload_n hC dX7_addFile_16 rfl rfl ?_
  refine gf_7_4 hC ht mw_2_36 dX7_addFile_17 ?_
  rw [hn0]
  refine v_aald 51 _ hC (wf_215 hW ht) (by decide) rfl (ix_c (wz_51 hW (wf_215 hW ht)) (by omega)) (we_51 hW (wf_215 hW ht) (by omega)) dX7_addFile_20 ?_
  rw [ly_F2 hR.1 hn]
  refine cVv0 hC (c_X9_reset hP) yv_X9_reset rfl hP mw_2_188 ⟨Nat.le_of_ble_eq_true rfl, Nat.le_of_ble_eq_true rfl⟩ ⟨Nat.le_of_ble_eq_true rfl, Nat.le_of_ble_eq_true rfl⟩ (Nat.le_of_ble_eq_true rfl) dX7_addFile_21 (fun M23 hq => ?_)
  subst hq
  unfold f_wR
  refine v_aload_n hC dX7_addFile_24 rfl rfl ?_
  refine gf_7_5 hC ht (wf_217 hW ht) mw_2_38 dX7_addFile_25 ?_
  erw [ly_O hR.1]
  refine v_aload_n hC dX7_addFile_28 rfl rfl ?_
  refine gf_7_4 hC ht mw_2_36 dX7_addFile_29 ?_
  erw [hn0]
  refine v_aload_n hC dX7_addFile_32 rfl rfl ?_
  refine gf_7_4 hC ht mw_2_36 dX7_addFile_33 ?_
  erw [hn0]
  refine v_iast 21 hC hO (by decide) (by decide) (ix_c (wz_21 hW hO) (by omega)) dX7_addFile_36 ?_
  refine v_aload_n hC dX7_addFile_37 rfl rfl ?_
  refine v_dup hC dX7_addFile_38 rfl ?_
  refine gf_7_4 hC ht mw_2_36 dX7_addFile_39 ?_
  erw [hn0]
  refine v_iconst (v := 1) hC dX7_addFile_42 (by decide) ?_
  refine v_iadd hC dX7_addFile_43 ?_
  rw [← nI_succ]
  refine pf_7_4 hC ht mw_2_36 dX7_addFile_44 ?_
  refine v_aload_n hC dX7_addFile_47 rfl rfl ?_
  refine gf_7_4 hC ht mw_2_36 dX7_addFile_48 ?_
  rw [i_se]
  refine v_iconst (v := 1) hC dX7_addFile_51 (by decide) ?_
  refine v_isub hC dX7_addFile_52 ?_
  rw [nI_pred]
  refine v_iret hC dX7_addFile_53 ?_
  have hc := cp_f hn
  have k8 := CR.wA (v := 0) 8 (n_f u) 0 (CR.wA (v := -5) 7 (n_f u) 0 (CR.wA (v := -5) 6 (n_f u) 0 (CR.wA (v := -5) 5 (n_f u) 0 (CR.wA (v := 0) 4 (n_f u) 0 hR (hc 4 (by decide) (by decide)) rfl) (hc 5 (by decide) (by decide)) (A := cA h 4 (n_f u)) rfl) (hc 6 (by decide) (by decide)) (A := cA h 4 (n_f u)) rfl) (hc 7 (by decide) (by decide)) (A := cA h 4 (n_f u)) rfl) (hc 8 (by decide) (by decide)) (A := cA h 4 (n_f u)) rfl
  have k9 := (k8.free249 (v := 0) hn (Nat.le_refl _)).pokeN (n := 0) (Nat.le_refl (n_f u))
  have k10 := CR.wA (v := nI (n_f u)) 17 0 (n_f u) k9 (cp_o hn) rfl
  refine ⟨rfl, k10.growF hn q_ne (fun k q1 q2 => ?_) ?_ ?_, ?_, hW⟩
  · refine Kn.w (fun n9 => ?_) (hc k q1 q2) (cp_o hn) rfl
    show m_i (s_i _ 249 _ _ _) (cK k) (cA h k (n_f u)) 0 = _
    rw [i_sk (cK_no (by omega)).2.2.2.2.1]
    exact Kn.w (fun n8 => Kn.w (fun n7 => Kn.w (fun n6 => Kn.w (fun n5 => Kn.w (fun n4 => absurd n4 (by omega)) (hc k q1 q2) (hc 4 (by decide) (by decide)) rfl) (hc k q1 q2) (hc 5 (by decide) (by decide)) rfl) (hc k q1 q2) (hc 6 (by decide) (by decide)) rfl) (hc k q1 q2) (hc 7 (by decide) (by decide)) rfl) (hc k q1 q2) (hc 8 (by decide) (by decide)) rfl
  · exact (i_sk (by decide)).trans i_se
  · exact i_se.trans q_ie.symm
  · have r4 := cA_r (S := h) (hc 4 (by decide) (by decide))
    exact (((((((Rg.rf.si r4 (by decide)).si r4 (by decide)).si r4 (by decide)).si r4 (by decide)).si r4 (by decide)).si r4 (by decide)).si (cA_r (cp_o hn)) (by decide)).si ⟨Nat.le_refl _, by omega⟩ (by decide)

set_option maxHeartbeats 4000000 in
set_option maxRecDepth 100000 in
theorem c_X9_append {l : Launch} {G : Gd} {M : Me} {S f g0 : Nat} {u : Si} {g : Sg} (hW : Wt M) (ht : m_t M (cA S 4 f) = 10) (hR : CR M S u) (hf : f < n_f u) (hg : SgR M g0 g) (hn : n_s u f < 12) : CQ (Qv G (fun M2 => CR M2 S (appU u f g) ∧ Rg M M2 S ∧ Wt M2 ∧ (m_n M2 = m_n M ∧ ∀ a, m_t M2 a = m_t M a))) l G yX9_append cX9_append 2 (none) 1 23 0 0 [.ref (cA S 4 f), .ref g0] M := by
  refine c_of ([some (.ref (cA S 4 f)), some (.ref g0)] : Lo) RX9 "append" (by decide) rfl rfl (Nat.le_of_ble_eq_true rfl) rfl (fun p e s m below meth c hC nw => ?_)
  have h8 : f < 8 := by have := hR.2.1.1; omega
  have hn0 := hR.2.2.2.2.1 f hf
  obtain ⟨y1, y2, y3⟩ := ly_T2 hR.1 h8
  have hFa : m_t M (cF S f) = 52 := by rw [← y3]; exact wf_250 hW ht
  refine v_aload_n hC dX9_append_0 rfl rfl ?_
  refine gf_9_5 hC ht mw_1_144 dX9_append_1 ?_
  rw [hn0]
  refine v_bipush (v := 12) hC dX9_append_4 (by decide) ?_
  refine v_icmp_ge hC dX9_append_6 (tgt := 39) (by decide) (fun h6 => absurd (nI_lt (a := n_s u f) (b := 12) hn (by decide)) (fun q => i_ab q h6)) (fun h6 => ?_)
  refine v_aload_n hC dX9_append_9 rfl rfl ?_
  refine gf_9_6 hC ht (wf_250 hW ht) mw_1_148 dX9_append_10 ?_
  rw [y3]
  refine v_aload_n hC dX9_append_13 rfl rfl ?_
  refine gf_9_5 hC ht mw_1_144 dX9_append_14 ?_
  rw [hn0]
  refine v_aload_n hC dX9_append_17 rfl rfl ?_
  refine v_aast 52 6 hC hFa (by decide) rfl rfl (ix_c (wz_52 hW hFa) (by omega)) hg.1 dX9_append_18 ?_
  refine v_aload_n hC dX9_append_19 rfl rfl ?_
  refine v_aload_n hC dX9_append_20 rfl rfl ?_
  refine gf_9_5 hC ht mw_1_144 dX9_append_21 ?_
  erw [hn0]
  refine v_iconst (v := 0) hC dX9_append_24 (by decide) ?_
  refine v_iconst (v := 0) hC dX9_append_25 (by decide) ?_
  refine cVv3 hC (c_X9_putTarget (hW.sg hg.1 52 (Or.inl rfl)) ht hn) yv_X9_putTarget rfl ht mw_2_118 ⟨Nat.le_of_ble_eq_true rfl, Nat.le_of_ble_eq_true rfl⟩ ⟨Nat.le_of_ble_eq_true rfl, Nat.le_of_ble_eq_true rfl⟩ (Nat.le_of_ble_eq_true rfl) dX9_append_26 (fun M28 hq => ?_)
  subst hq
  erw [y1, y2]
  refine v_aload_n hC dX9_append_29 rfl rfl ?_
  refine v_dup hC dX9_append_30 rfl ?_
  refine gf_9_5 hC ht mw_1_144 dX9_append_31 ?_
  erw [hn0]
  refine v_iconst (v := 1) hC dX9_append_34 (by decide) ?_
  refine v_iadd hC dX9_append_35 ?_
  rw [← nI_succ]
  refine pf_9_5 hC ht mw_1_144 dX9_append_36 ?_
  refine v_vret hC dX9_append_39 ?_
  have hc := cp_s h8 hn
  have hG := (hR.pokeG (k := 0) (a := f) (j := n_s u f) (v := g) (fun q => by rcases q with q | q <;> omega)).w52 (v := g0) h8 (fun _ => Nat.le_refl _)
  have k2 := CR.wA (v := 0) 10 f (n_s u f) (CR.wA (v := 0) 9 f (n_s u f) hG (hc 9 (by decide) (by decide)) rfl) (hc 10 (by decide) (by decide)) rfl
  refine ⟨k2.growS hf hn (fun k q1 q2 => ?_) ?_, ?_, hW.sg hg.1 52 (Or.inl rfl), rfl, fun _ => rfl⟩
  · show m_i _ (cK k) (cA S k f) (n_s u f) = q_i _ k f (n_s u f)
    exact Kn.w (fun n2 => Kn.w (fun n1 => absurd n1 (by omega)) (hc k q1 q2) (hc 9 (by decide) (by decide)) rfl) (hc k q1 q2) (hc 10 (by decide) (by decide)) rfl
  · show SgR _ (m_r (s_r M 52 (cF S f) (n_s u f) g0) 52 (cF S f) (n_s u f)) (q_g (u_g u 0 f (n_s u f) g) 0 f (n_s u f))
    rw [r_se, q_ge]
    exact ((hg.sr (Or.inl rfl)).si (by decide) (by decide)).si (by decide) (by decide)
  · exact (((Rg.rf.sr (cF_lt h8) (Or.inl rfl)).si (cA_r (hc 9 (by decide) (by decide))) (by decide)).si (cA_r (hc 10 (by decide) (by decide))) (by decide)).si (cA_r (j := 0) (cp_f h8 4 (by decide) (by decide))) (by decide)
