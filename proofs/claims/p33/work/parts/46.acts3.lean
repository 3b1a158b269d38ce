theorem c_X4_needsDispute2 {l : Launch} {G : Gd} {M : Me} {S e : Nat} {u : Si} {t : Int32} (hW : Wt M) (ht : m_t M (S + 43) = 5) (hR : CR M S u) (he : e < n_e u) : CQ (Qi G (fun r M2 => M2 = M ∧ (nds u e t ∧ r = 1 ∨ ¬ nds u e t ∧ r = 0))) l G yX4_needsDispute cX4_needsDispute 3 ((some .boolean)) 2 42 0 0 [.ref (S + 43), .int (nI e), .int t] M := by
  have q := c_X4_needsDispute (l := l) (G := G) (t := t) hW (by show m_t M (m_r M 218 S 0) = 5; rw [ly_M hR.1]; exact ht) hR he
  unfold pM at q
  rw [ly_M hR.1] at q
  exact q
set_option maxHeartbeats 4000000 in
set_option maxRecDepth 100000 in
theorem c_X4_learn {l : Launch} {G : Gd} {M : Me} {S g0 : Nat} {u : Si} {g : Sg} {t : Int32} (hW : Wt M) (ht : m_t M (S + 43) = 5) (hR : CR M S u) (hg : SgR M g0 g) (h1 : alN u g = none → n_e u < 40) (h2 : ∀ x, alN u g = some x → ndB u x t = true → n_d u < 10) : CQ (Qv G (fun M2 => CR M2 S (lrnU u g t) ∧ Rg M M2 S ∧ Wt M2)) l G yX4_learn cX4_learn 4 (none) 3 64 0 0 [.ref (S + 43), .ref g0, .int t] M := by
  refine c_of ([some (.ref (S + 43)), some (.ref g0), some (.int t), none] : Lo) RX4 "learn" (by decide) rfl rfl (Nat.le_of_ble_eq_true rfl) rfl (fun p e s m below meth c hC nw => ?_)
  have hn0 : m_i M 166 (S + 43) 0 = nI (n_e u) := hR.2.2.2.1.2.2.1
  have hnd : m_i M 168 (S + 43) 0 = nI (n_d u) := hR.2.2.2.1.2.2.2
  have c1 := hR.2.1.2.2.1
  have c2 := hR.2.1.2.2.2.1
  refine v_aload_n hC dX4_learn_0 rfl rfl ?_
  refine v_aload_n hC dX4_learn_1 rfl rfl ?_
  refine cVi1 hC (c_X4_alikeEntry hW ht hR.es2 hg) yv_X4_alikeEntry rfl ht mw_3_83 ⟨Nat.le_of_ble_eq_true rfl, Nat.le_of_ble_eq_true rfl⟩ ⟨Nat.le_of_ble_eq_true rfl, Nat.le_of_ble_eq_true rfl⟩ (Nat.le_of_ble_eq_true rfl) dX4_learn_2 (fun r2 M4 hq => ?_)
  obtain ⟨hf9, hm⟩ := hq
  have hm2 := hm.symm
  clear hm
  subst hm2
  have hE : alE u g r2 := hf9
  rcases hE.c with ⟨e1, a1, a2, rfl⟩ | ⟨a1, rfl⟩
  · refine v_ist3 hC dX4_learn_5 (by decide) (kk := ?_)
    refine v_aload_n hC dX4_learn_6 rfl rfl ?_
    refine v_iload_n hC dX4_learn_7 rfl rfl ?_
    refine cVi1 hC (c_X4_hasEntry ht hn0 hR.2.1.2.2.1) yv_X4_hasEntry rfl ht mw_3_84 ⟨Nat.le_of_ble_eq_true rfl, Nat.le_of_ble_eq_true rfl⟩ ⟨Nat.le_of_ble_eq_true rfl, Nat.le_of_ble_eq_true rfl⟩ (Nat.le_of_ble_eq_true rfl) dX4_learn_8 (fun r8 M10 hq => ?_)
    obtain ⟨hm, hq2⟩ := hq
    have hm2 := hm.symm
    clear hm
    subst hm2
    obtain ⟨g8, rfl⟩ | ⟨g8, rfl⟩ := hq2
    · refine v_if_ne hC dX4_learn_11 (tgt := 24) (by decide) (fun _ => ?_) (fun hx => absurd hx (by decide))
      refine v_aload_n hC dX4_learn_24 rfl rfl ?_
      refine v_iload_n hC dX4_learn_25 rfl rfl ?_
      refine v_iload_n hC dX4_learn_26 rfl rfl ?_
      refine cVi2 hC (c_X4_needsDispute2 hW ht hR a2) yv_X4_needsDispute rfl ht mw_3_105 ⟨Nat.le_of_ble_eq_true rfl, Nat.le_of_ble_eq_true rfl⟩ ⟨Nat.le_of_ble_eq_true rfl, Nat.le_of_ble_eq_true rfl⟩ (Nat.le_of_ble_eq_true rfl) dX4_learn_27 (fun r27 M29 hq => ?_)
      obtain ⟨hm, hq2⟩ := hq
      have hm2 := hm.symm
      clear hm
      subst hm2
      obtain ⟨g27, rfl⟩ | ⟨g27, rfl⟩ := hq2
      · refine v_if_eq hC dX4_learn_30 (tgt := 75) (by decide) (fun hx => absurd hx (by decide)) (fun _ => ?_)
        refine v_aload_n hC dX4_learn_33 rfl rfl ?_
        refine gf_4_4 hC ht mw_2_15 dX4_learn_34 ?_
        rw [hnd]
        refine v_bipush (v := 10) hC dX4_learn_37 (by decide) ?_
        refine v_icmp_ge hC dX4_learn_39 (tgt := 75) (by decide) (fun h39 => absurd (nI_lt (a := n_d u) (b := 10) (h2 e1 a1 ((nds_iff (by omega)).mp g27)) (by decide)) (fun q => i_ab q h39)) (fun h39 => ?_)
        have hd := h2 e1 a1 ((nds_iff (by omega)).mp g27)
        have hD : m_t M (cA S 13 (n_d u)) = 1 := by rw [← ly_D2 hR.1 hd]; exact we_54 hW (wf_167 hW ht) (by omega)
        have hE1 : m_t M (cA S 11 e1) = 2 := by rw [← ly_E2 hR.1 (by omega)]; exact we_53 hW (wf_165 hW ht) (by omega)
        refine v_aload_n hC dX4_learn_42 rfl rfl ?_
        refine gf_4_3 hC ht (wf_167 hW ht) mw_2_12 dX4_learn_43 ?_
        refine v_aload_n hC dX4_learn_46 rfl rfl ?_
        refine gf_4_4 hC ht mw_2_15 dX4_learn_47 ?_
        rw [hnd]
        refine v_aald 54 _ hC (wf_167 hW ht) (by decide) rfl (ix_c (wz_54 hW (wf_167 hW ht)) (by omega)) (we_54 hW (wf_167 hW ht) (by omega)) dX4_learn_50 ?_
        rw [ly_D2 hR.1 hd]
        refine v_iload_n hC dX4_learn_51 rfl rfl ?_
        refine v_aload_n hC dX4_learn_52 rfl rfl ?_
        refine gf_4_1 hC ht (wf_165 hW ht) mw_2_7 dX4_learn_53 ?_
        refine v_iload_n hC dX4_learn_56 rfl rfl ?_
        refine v_aald 53 _ hC (wf_165 hW ht) (by decide) rfl (ix_c (wz_53 hW (wf_165 hW ht)) (by omega)) (we_53 hW (wf_165 hW ht) (by omega)) dX4_learn_57 ?_
        rw [ly_E2 hR.1 (by omega)]
        refine gf_1_1 hC hE1 mw_1_199 dX4_learn_58 ?_
        rw [(hR.en2 a2).1]
        refine v_iload_n hC dX4_learn_61 rfl rfl ?_
        refine cVv3 hC (c_X0_reset hD) yv_X0_reset rfl hD mw_3_123 ⟨Nat.le_of_ble_eq_true rfl, Nat.le_of_ble_eq_true rfl⟩ ⟨Nat.le_of_ble_eq_true rfl, Nat.le_of_ble_eq_true rfl⟩ (Nat.le_of_ble_eq_true rfl) dX4_learn_62 (fun M64 hq => ?_)
        subst hq
        unfold f_dR
        refine v_aload_n hC dX4_learn_65 rfl rfl ?_
        refine v_dup hC dX4_learn_66 rfl ?_
        refine gf_4_4 hC ht mw_2_15 dX4_learn_67 ?_
        erw [hnd]
        refine v_iconst (v := 1) hC dX4_learn_70 (by decide) ?_
        refine v_iadd hC dX4_learn_71 ?_
        rw [← nI_succ]
        refine pf_4_4 hC ht mw_2_15 dX4_learn_72 ?_
        refine v_vret hC dX4_learn_75 ?_
        first
          | exact ⟨by rw [lrnU, a1]; exact hR2, hr2, hW3⟩
          | exact ⟨by rw [lrnU, a1]; show CR M S (if ndB u e1 t = true then dspU u e1 t else u); rw [if_neg (fun q => g27 ((nds_iff (by omega)).mpr q))]; exact hR, Rg.rf, hW⟩
          | (have hc := cp_d hd
             have k4 := CR.wA (v := 0) 16 (n_d u) 0 (CR.wA (v := t) 15 (n_d u) 0 (CR.wA (v := q_i u 11 e1 0) 14 (n_d u) 0 (CR.wA (v := nI e1) 13 (n_d u) 0 hR (hc 13 (by decide) (by decide)) rfl) (hc 14 (by decide) (by decide)) (A := cA S 13 (n_d u)) rfl) (hc 15 (by decide) (by decide)) (A := cA S 13 (n_d u)) rfl) (hc 16 (by decide) (by decide)) (A := cA S 13 (n_d u)) rfl
             refine ⟨?_, ?_, hW⟩
             · rw [lrnU, a1]
               show CR _ S (if ndB u e1 t = true then dspU u e1 t else u)
               rw [if_pos ((nds_iff (by omega)).mp g27)]
               refine k4.growD hd (fun k q1 q2 => ?_)
               show m_i _ (cK k) (cA S k (n_d u)) 0 = q_i _ k (n_d u) 0
               exact Kn.w (fun n4 => Kn.w (fun n3 => Kn.w (fun n2 => Kn.w (fun n1 => absurd n1 (by omega)) (hc k q1 q2) (hc 13 (by decide) (by decide)) rfl) (hc k q1 q2) (hc 14 (by decide) (by decide)) rfl) (hc k q1 q2) (hc 15 (by decide) (by decide)) rfl) (hc k q1 q2) (hc 16 (by decide) (by decide)) rfl
             · have r1 := cA_r (S := S) (hc 13 (by decide) (by decide))
               exact ((((Rg.rf.si r1 (by decide)).si r1 (by decide)).si r1 (by decide)).si r1 (by decide)).si ⟨by omega, by omega⟩ (by decide))
      · refine v_if_eq hC dX4_learn_30 (tgt := 75) (by decide) (fun _ => ?_) (fun hx => absurd hx (by decide))
        refine v_vret hC dX4_learn_75 ?_
        first
          | exact ⟨by rw [lrnU, a1]; exact hR2, hr2, hW3⟩
          | exact ⟨by rw [lrnU, a1]; show CR M S (if ndB u e1 t = true then dspU u e1 t else u); rw [if_neg (fun q => g27 ((nds_iff (by omega)).mpr q))]; exact hR, Rg.rf, hW⟩
          | (have hc := cp_d hd
             have k4 := CR.wA (v := 0) 16 (n_d u) 0 (CR.wA (v := t) 15 (n_d u) 0 (CR.wA (v := q_i u 11 e1 0) 14 (n_d u) 0 (CR.wA (v := nI e1) 13 (n_d u) 0 hR (hc 13 (by decide) (by decide)) rfl) (hc 14 (by decide) (by decide)) (A := cA S 13 (n_d u)) rfl) (hc 15 (by decide) (by decide)) (A := cA S 13 (n_d u)) rfl) (hc 16 (by decide) (by decide)) (A := cA S 13 (n_d u)) rfl
             refine ⟨?_, ?_, hW⟩
             · rw [lrnU, a1]
               show CR _ S (if ndB u e1 t = true then dspU u e1 t else u)
               rw [if_pos ((nds_iff (by omega)).mp g27)]
               refine k4.growD hd (fun k q1 q2 => ?_)
               show m_i _ (cK k) (cA S k (n_d u)) 0 = q_i _ k (n_d u) 0
               exact Kn.w (fun n4 => Kn.w (fun n3 => Kn.w (fun n2 => Kn.w (fun n1 => absurd n1 (by omega)) (hc k q1 q2) (hc 13 (by decide) (by decide)) rfl) (hc k q1 q2) (hc 14 (by decide) (by decide)) rfl) (hc k q1 q2) (hc 15 (by decide) (by decide)) rfl) (hc k q1 q2) (hc 16 (by decide) (by decide)) rfl
             · have r1 := cA_r (S := S) (hc 13 (by decide) (by decide))
               exact ((((Rg.rf.si r1 (by decide)).si r1 (by decide)).si r1 (by decide)).si r1 (by decide)).si ⟨by omega, by omega⟩ (by decide))
    · exact absurd ⟨e1, a2, rfl⟩ g8
  · refine v_ist3 hC dX4_learn_5 (by decide) (kk := ?_)
    refine v_aload_n hC dX4_learn_6 rfl rfl ?_
    refine v_iload_n hC dX4_learn_7 rfl rfl ?_
    refine cVi1 hC (c_X4_hasEntry ht hn0 hR.2.1.2.2.1) yv_X4_hasEntry rfl ht mw_3_84 ⟨Nat.le_of_ble_eq_true rfl, Nat.le_of_ble_eq_true rfl⟩ ⟨Nat.le_of_ble_eq_true rfl, Nat.le_of_ble_eq_true rfl⟩ (Nat.le_of_ble_eq_true rfl) dX4_learn_8 (fun r8 M10 hq => ?_)
    obtain ⟨hm, hq2⟩ := hq
    have hm2 := hm.symm
    clear hm
    subst hm2
    obtain ⟨g8, rfl⟩ | ⟨g8, rfl⟩ := hq2
    · exact absurd g8 (rg_lo (by decide) (by have := hR.2.1.2.2.1; omega))
    · refine v_if_ne hC dX4_learn_11 (tgt := 24) (by decide) (fun hx => absurd hx (by decide)) (fun _ => ?_)
      refine v_aload_n hC dX4_learn_14 rfl rfl ?_
      refine v_aload_n hC dX4_learn_15 rfl rfl ?_
      refine v_iload_n hC dX4_learn_16 rfl rfl ?_
      refine cVi2 hC (c_X4_addEntry hW ht hR hg (h1 a1)) yv_X4_addEntry rfl ht mw_3_122 ⟨Nat.le_of_ble_eq_true rfl, Nat.le_of_ble_eq_true rfl⟩ ⟨Nat.le_of_ble_eq_true rfl, Nat.le_of_ble_eq_true rfl⟩ (Nat.le_of_ble_eq_true rfl) dX4_learn_17 (fun r17 M19 hq => ?_)
      obtain ⟨rfl, hR2, hr2, hW3⟩ := hq
      refine v_pop hC dX4_learn_20 rfl ?_
      refine v_goto hC dX4_learn_21 (tgt := 75) (by decide) ?_
      refine v_vret hC dX4_learn_75 ?_
      first
        | exact ⟨by rw [lrnU, a1]; exact hR2, hr2, hW3⟩
        | exact ⟨by rw [lrnU, a1]; show CR M S (if ndB u e1 t = true then dspU u e1 t else u); rw [if_neg (fun q => g27 ((nds_iff (by omega)).mpr q))]; exact hR, Rg.rf, hW⟩
        | (have hc := cp_d hd
           have k4 := CR.wA (v := 0) 16 (n_d u) 0 (CR.wA (v := t) 15 (n_d u) 0 (CR.wA (v := q_i u 11 e1 0) 14 (n_d u) 0 (CR.wA (v := nI e1) 13 (n_d u) 0 hR (hc 13 (by decide) (by decide)) rfl) (hc 14 (by decide) (by decide)) (A := cA S 13 (n_d u)) rfl) (hc 15 (by decide) (by decide)) (A := cA S 13 (n_d u)) rfl) (hc 16 (by decide) (by decide)) (A := cA S 13 (n_d u)) rfl
           refine ⟨?_, ?_, hW⟩
           · rw [lrnU, a1]
             show CR _ S (if ndB u e1 t = true then dspU u e1 t else u)
             rw [if_pos ((nds_iff (by omega)).mp g27)]
             refine k4.growD hd (fun k q1 q2 => ?_)
             show m_i _ (cK k) (cA S k (n_d u)) 0 = q_i _ k (n_d u) 0
             exact Kn.w (fun n4 => Kn.w (fun n3 => Kn.w (fun n2 => Kn.w (fun n1 => absurd n1 (by omega)) (hc k q1 q2) (hc 13 (by decide) (by decide)) rfl) (hc k q1 q2) (hc 14 (by decide) (by decide)) rfl) (hc k q1 q2) (hc 15 (by decide) (by decide)) rfl) (hc k q1 q2) (hc 16 (by decide) (by decide)) rfl
           · have r1 := cA_r (S := S) (hc 13 (by decide) (by decide))
             exact ((((Rg.rf.si r1 (by decide)).si r1 (by decide)).si r1 (by decide)).si r1 (by decide)).si ⟨by omega, by omega⟩ (by decide))

set_option maxHeartbeats 4000000 in
set_option maxRecDepth 100000 in
theorem c_X4_fillFromEntries {l : Launch} {G : Gd} {M : Me} {S f : Nat} {u : Si} (hW : Wt M) (ht : m_t M (S + 43) = 5) (htF : m_t M (cA S 4 f) = 10) (hR : CR M S u) (hf : f < n_f u) : CQ (Qv G (fun M2 => CR M2 S (fU (stM f) u (n_s u f)) ∧ Rg M M2 S ∧ Fx M M2)) l G yX4_fillFromEntries cX4_fillFromEntries 4 (none) 2 44 0 0 [.ref (S + 43), .ref (cA S 4 f)] M := by
  refine c_of ([some (.ref (S + 43)), some (.ref (cA S 4 f)), none, none] : Lo) RX4 "fillFromEntries" (by decide) rfl rfl (Nat.le_of_ble_eq_true rfl) rfl (fun p e s m below meth c hC nw => ?_)
  have hW0 := hW
  have h8 : f < 8 := by have := hR.2.1.1; omega
  have h12 := hR.2.1.2.2.2.2 f hf
  have ht0 := ht
  have htF0 := htF
  have loop : ∀ (k i : Nat) (M1 : Me), i + k = 13 → i ≤ n_s u f → CR M1 S (fU (stM f) u i) → Rg M M1 S → Fx M M1 → V p l e (rmk 2 44 0 0) s m ([.ref (S + 43), .ref (cA S 4 f)] : List Value).toArray below meth c 4 G (MQ below (Qv G (fun M2 => CR M2 S (fU (stM f) u (n_s u f)) ∧ Rg M M2 S ∧ Fx M M2)) ([.ref (S + 43), .ref (cA S 4 f)] : List Value).toArray s 0 0 (fr_ G)) M1 0 0 2 ([some (.ref (S + 43)), some (.ref (cA S 4 f)), some (.int (nI i)), none] : Lo) [] := by
    intro k
    induction k with
    | zero => intro i M1 e1 e2; omega
    | succ k ih =>
      intro i M1 e1 e2 hR hr hx
      have hW := hW0.fx hx
      have kp : Kp u (fU (stM f) u i) := Kp.fU (stM_kp f) i
      obtain ⟨v, hv⟩ : ∃ v, v = fU (stM f) u i := ⟨_, rfl⟩
      rw [← hv] at hR kp
      have hfv : f < n_f v := by show f < q_n v 0 0; rw [kp.n]; exact hf
      have kn : n_s v f = n_s u f := kp.n 4 f
      obtain ⟨y1, y2, y3⟩ := ly_T2 hR.1 h8
      have htF : m_t M1 (cA S 4 f) = 10 := (hx.2.1 _).trans htF0
      have ht : m_t M1 (S + 43) = 5 := (hx.2.1 _).trans ht0
      have hn0 : m_i M1 166 (S + 43) 0 = nI (n_e v) := hR.2.2.2.1.2.2.1
      have c40 := hR.2.1.2.2.1
      refine v_iload_n hC dX4_fillFromEntries_2 rfl rfl ?_
      refine v_aload_n hC dX4_fillFromEntries_3 rfl rfl ?_
      refine gf_9_5 hC htF mw_1_147 dX4_fillFromEntries_4 ?_
      rw [(hR.fs2 hfv).2.1, kn]
      refine v_icmp_ge hC dX4_fillFromEntries_7 (tgt := 59) (by decide) (fun h7 => ?_) (fun h7 => ?_)
      · have hi := lp_ge h7
        refine v_vret hC dX4_fillFromEntries_59 ?_
        have hie : i = n_s u f := by omega
        subst hie
        rw [hv] at hR
        exact ⟨hR, hr, hx⟩
      · have hi := lp_lt h7
        have his : i < n_s v f := by omega
        refine v_aload_n hC dX4_fillFromEntries_10 rfl rfl ?_
        refine v_aload_n hC dX4_fillFromEntries_11 rfl rfl ?_
        refine gf_9_6 hC htF (wf_250 hW htF) mw_1_149 dX4_fillFromEntries_12 ?_
        refine v_iload_n hC dX4_fillFromEntries_15 rfl rfl ?_
        refine v_aald 52 _ hC (wf_250 hW htF) (by decide) rfl (ix_c (wz_52 hW (wf_250 hW htF)) (by omega)) ((hR.fs2 hfv).2.2 i his).1 dX4_fillFromEntries_16 ?_
        refine cVi1 hC (c_X4_alikeEntry hW ht hR.es2 ((hR.fs2 hfv).2.2 i his)) yv_X4_alikeEntry rfl ht mw_3_83 ⟨Nat.le_of_ble_eq_true rfl, Nat.le_of_ble_eq_true rfl⟩ ⟨Nat.le_of_ble_eq_true rfl, Nat.le_of_ble_eq_true rfl⟩ (Nat.le_of_ble_eq_true rfl) dX4_fillFromEntries_17 (fun r17 M19 hq => ?_)
        obtain ⟨hf9, hm⟩ := hq
        have hm2 := hm.symm
        clear hm
        subst hm2
        have hE : alE v (q_g v 0 f i) r17 := hf9
        rcases hE.c with ⟨e1, a1, a2, rfl⟩ | ⟨a1, rfl⟩
        · refine v_ist3 hC dX4_fillFromEntries_20 (by decide) (kk := ?_)
          refine v_aload_n hC dX4_fillFromEntries_21 rfl rfl ?_
          refine gf_9_7 hC htF (wf_251 hW htF) mw_1_153 dX4_fillFromEntries_22 ?_
          refine v_iload_n hC dX4_fillFromEntries_25 rfl rfl ?_
          refine v_iald 24 hC (wf_251 hW htF) (by decide) (by decide) (ix_c (wz_24 hW (wf_251 hW htF)) (by omega)) dX4_fillFromEntries_26 ?_
          rw [(hR.ft2 hfv his).1]
          refine v_if_ne hC dX4_fillFromEntries_27 (tgt := 53) (by decide) (fun h27 => ?_) (fun h27 => ?_)
          · refine v_inc2 hC dX4_fillFromEntries_53 ((nI_succ i).symm) (by decide) (kk := ?_)
            refine v_goto hC dX4_fillFromEntries_56 (tgt := 2) (by decide) ?_
            refine v_drop 3 ?_
            refine ih (i + 1) _ (by omega) (by omega) ?_ ?_ ?_
            · rw [fU, ← hv]
              unfold stM
              first
                | (rw [if_neg h27]; exact hR)
                | (rw [if_pos h27, a1]; first | exact hR | exact CR.wA 10 f i (CR.wA 9 f i hR (cp_s h8 (by omega) 9 (by decide) (by decide)) rfl) (cp_s h8 (by omega) 10 (by decide) (by decide)) rfl)
            · first
                | exact hr
                | exact (hr.si (cA_r (cp_s h8 (s := i) (by omega) 9 (by decide) (by decide))) (by decide)).si (cA_r (cp_s h8 (s := i) (by omega) 10 (by decide) (by decide))) (by decide)
            · first | exact hx | exact hx.si.si
          · refine v_aload_n hC dX4_fillFromEntries_30 rfl rfl ?_
            refine v_iload_n hC dX4_fillFromEntries_31 rfl rfl ?_
            refine cVi1 hC (c_X4_hasEntry ht hn0 hR.2.1.2.2.1) yv_X4_hasEntry rfl ht mw_3_84 ⟨Nat.le_of_ble_eq_true rfl, Nat.le_of_ble_eq_true rfl⟩ ⟨Nat.le_of_ble_eq_true rfl, Nat.le_of_ble_eq_true rfl⟩ (Nat.le_of_ble_eq_true rfl) dX4_fillFromEntries_32 (fun r32 M34 hq => ?_)
            obtain ⟨hm, hq2⟩ := hq
            have hm2 := hm.symm
            clear hm
            subst hm2
            obtain ⟨g32, rfl⟩ | ⟨g32, rfl⟩ := hq2
            · refine v_if_eq hC dX4_fillFromEntries_35 (tgt := 53) (by decide) (fun hx => absurd hx (by decide)) (fun _ => ?_)
              refine v_aload_n hC dX4_fillFromEntries_38 rfl rfl ?_
              refine v_iload_n hC dX4_fillFromEntries_39 rfl rfl ?_
              refine v_aload_n hC dX4_fillFromEntries_40 rfl rfl ?_
              refine gf_4_1 hC ht (wf_165 hW ht) mw_2_7 dX4_fillFromEntries_41 ?_
              refine v_iload_n hC dX4_fillFromEntries_44 rfl rfl ?_
              refine v_aald 53 _ hC (wf_165 hW ht) (by decide) rfl (ix_c (wz_53 hW (wf_165 hW ht)) (by have := hR.2.1.2.2.1; omega)) (we_53 hW (wf_165 hW ht) (by omega)) dX4_fillFromEntries_45 ?_
              rw [ly_E2 hR.1 (by have := hR.2.1.2.2.1; omega)]
              refine gf_1_1 hC (by rw [← ly_E2 hR.1 (by have := hR.2.1.2.2.1; omega)]; exact we_53 hW (wf_165 hW ht) (by have := hR.2.1.2.2.1; omega)) mw_1_199 dX4_fillFromEntries_46 ?_
              rw [(hR.en2 a2).1]
              refine v_iconst (v := 3) hC dX4_fillFromEntries_49 (by decide) ?_
              refine cVv3 hC (c_X9_putTarget hW htF (by omega)) yv_X9_putTarget rfl htF mw_3_88 ⟨Nat.le_of_ble_eq_true rfl, Nat.le_of_ble_eq_true rfl⟩ ⟨Nat.le_of_ble_eq_true rfl, Nat.le_of_ble_eq_true rfl⟩ (Nat.le_of_ble_eq_true rfl) dX4_fillFromEntries_50 (fun M52 hq => ?_)
              subst hq
              rw [y1, y2]
              refine v_inc2 hC dX4_fillFromEntries_53 ((nI_succ i).symm) (by decide) (kk := ?_)
              refine v_goto hC dX4_fillFromEntries_56 (tgt := 2) (by decide) ?_
              refine v_drop 3 ?_
              refine ih (i + 1) _ (by omega) (by omega) ?_ ?_ ?_
              · rw [fU, ← hv]
                unfold stM
                first
                  | (rw [if_neg h27]; exact hR)
                  | (rw [if_pos h27, a1]; first | exact hR | exact CR.wA 10 f i (CR.wA 9 f i hR (cp_s h8 (by omega) 9 (by decide) (by decide)) rfl) (cp_s h8 (by omega) 10 (by decide) (by decide)) rfl)
              · first
                  | exact hr
                  | exact (hr.si (cA_r (cp_s h8 (s := i) (by omega) 9 (by decide) (by decide))) (by decide)).si (cA_r (cp_s h8 (s := i) (by omega) 10 (by decide) (by decide))) (by decide)
              · first | exact hx | exact hx.si.si
            · exact absurd ⟨e1, a2, rfl⟩ g32
        · refine v_ist3 hC dX4_fillFromEntries_20 (by decide) (kk := ?_)
          refine v_aload_n hC dX4_fillFromEntries_21 rfl rfl ?_
          refine gf_9_7 hC htF (wf_251 hW htF) mw_1_153 dX4_fillFromEntries_22 ?_
          refine v_iload_n hC dX4_fillFromEntries_25 rfl rfl ?_
          refine v_iald 24 hC (wf_251 hW htF) (by decide) (by decide) (ix_c (wz_24 hW (wf_251 hW htF)) (by omega)) dX4_fillFromEntries_26 ?_
          rw [(hR.ft2 hfv his).1]
          refine v_if_ne hC dX4_fillFromEntries_27 (tgt := 53) (by decide) (fun h27 => ?_) (fun h27 => ?_)
          · refine v_inc2 hC dX4_fillFromEntries_53 ((nI_succ i).symm) (by decide) (kk := ?_)
            refine v_goto hC dX4_fillFromEntries_56 (tgt := 2) (by decide) ?_
            refine v_drop 3 ?_
            refine ih (i + 1) _ (by omega) (by omega) ?_ ?_ ?_
            · rw [fU, ← hv]
              unfold stM
              first
                | (rw [if_neg h27]; exact hR)
                | (rw [if_pos h27, a1]; first | exact hR | exact CR.wA 10 f i (CR.wA 9 f i hR (cp_s h8 (by omega) 9 (by decide) (by decide)) rfl) (cp_s h8 (by omega) 10 (by decide) (by decide)) rfl)
            · first
                | exact hr
                | exact (hr.si (cA_r (cp_s h8 (s := i) (by omega) 9 (by decide) (by decide))) (by decide)).si (cA_r (cp_s h8 (s := i) (by omega) 10 (by decide) (by decide))) (by decide)
            · first | exact hx | exact hx.si.si
          · refine v_aload_n hC dX4_fillFromEntries_30 rfl rfl ?_
            refine v_iload_n hC dX4_fillFromEntries_31 rfl rfl ?_
            refine cVi1 hC (c_X4_hasEntry ht hn0 hR.2.1.2.2.1) yv_X4_hasEntry rfl ht mw_3_84 ⟨Nat.le_of_ble_eq_true rfl, Nat.le_of_ble_eq_true rfl⟩ ⟨Nat.le_of_ble_eq_true rfl, Nat.le_of_ble_eq_true rfl⟩ (Nat.le_of_ble_eq_true rfl) dX4_fillFromEntries_32 (fun r32 M34 hq => ?_)
            obtain ⟨hm, hq2⟩ := hq
            have hm2 := hm.symm
            clear hm
            subst hm2
            obtain ⟨g32, rfl⟩ | ⟨g32, rfl⟩ := hq2
            · exact absurd g32 (rg_lo (by decide) (by have := hR.2.1.2.2.1; omega))
            · refine v_if_eq hC dX4_fillFromEntries_35 (tgt := 53) (by decide) (fun _ => ?_) (fun hx => absurd hx (by decide))
              refine v_inc2 hC dX4_fillFromEntries_53 ((nI_succ i).symm) (by decide) (kk := ?_)
              refine v_goto hC dX4_fillFromEntries_56 (tgt := 2) (by decide) ?_
              refine v_drop 3 ?_
              refine ih (i + 1) _ (by omega) (by omega) ?_ ?_ ?_
              · rw [fU, ← hv]
                unfold stM
                first
                  | (rw [if_neg h27]; exact hR)
                  | (rw [if_pos h27, a1]; first | exact hR | exact CR.wA 10 f i (CR.wA 9 f i hR (cp_s h8 (by omega) 9 (by decide) (by decide)) rfl) (cp_s h8 (by omega) 10 (by decide) (by decide)) rfl)
              · first
                  | exact hr
                  | exact (hr.si (cA_r (cp_s h8 (s := i) (by omega) 9 (by decide) (by decide))) (by decide)).si (cA_r (cp_s h8 (s := i) (by omega) 10 (by decide) (by decide))) (by decide)
              · first | exact hx | exact hx.si.si
  refine v_iconst (v := 0) hC dX4_fillFromEntries_0 (by decide) ?_
  refine v_ist2 hC dX4_fillFromEntries_1 (by decide) (kk := ?_)
  exact loop 13 0 M (by omega) (by omega) hR Rg.rf Fx.rf

set_option maxHeartbeats 4000000 in
set_option maxRecDepth 100000 in
theorem c_X9_fillAlike {l : Launch} {G : Gd} {M : Me} {S f g0 : Nat} {u : Si} {g : Sg} {t : Int32} (hW : Wt M) (htF : m_t M (cA S 4 f) = 10) (hR : CR M S u) (hf : f < n_f u) (hg : SgR M g0 g) : CQ (Qi G (fun r M2 => r = fC (stA f g t) (ctA f g) u (n_s u f) ∧ CR M2 S (fU (stA f g t) u (n_s u f)) ∧ Rg M M2 S ∧ Fx M M2)) l G yX9_fillAlike cX9_fillAlike 5 ((some .int)) 1 23 0 0 [.ref (cA S 4 f), .ref g0, .int t] M := by
  refine c_of ([some (.ref (cA S 4 f)), some (.ref g0), some (.int t), none, none] : Lo) RX9 "fillAlike" (by decide) rfl rfl (Nat.le_of_ble_eq_true rfl) rfl (fun p e s m below meth c hC nw => ?_)
  have hW0 := hW
  have h8 : f < 8 := by have := hR.2.1.1; omega
  have h12 := hR.2.1.2.2.2.2 f hf
  have hg0 := hg
  have htF0 := htF
  have loop : ∀ (k i : Nat) (M1 : Me), i + k = 13 → i ≤ n_s u f → CR M1 S (fU (stA f g t) u i) → Rg M M1 S → Fx M M1 → V p l e (rmk 1 23 0 0) s m ([.ref (cA S 4 f), .ref g0, .int t] : List Value).toArray below meth c 5 G (MQ below (Qi G (fun r M2 => r = fC (stA f g t) (ctA f g) u (n_s u f) ∧ CR M2 S (fU (stA f g t) u (n_s u f)) ∧ Rg M M2 S ∧ Fx M M2)) ([.ref (cA S 4 f), .ref g0, .int t] : List Value).toArray s 0 0 (fr_ G)) M1 0 0 5 ([some (.ref (cA S 4 f)), some (.ref g0), some (.int t), some (.int (fC (stA f g t) (ctA f g) u i)), some (.int (nI i))] : Lo) [] := by
    intro k
    induction k with
    | zero => intro i M1 e1 e2; omega
    | succ k ih =>
      intro i M1 e1 e2 hR hr hx
      have hW := hW0.fx hx
      have kp : Kp u (fU (stA f g t) u i) := Kp.fU (stA_kp f g t) i
      obtain ⟨v, hv⟩ : ∃ v, v = fU (stA f g t) u i := ⟨_, rfl⟩
      rw [← hv] at hR kp
      have hfv : f < n_f v := by show f < q_n v 0 0; rw [kp.n]; exact hf
      have kn : n_s v f = n_s u f := kp.n 4 f
      obtain ⟨y1, y2, y3⟩ := ly_T2 hR.1 h8
      have htF : m_t M1 (cA S 4 f) = 10 := (hx.2.1 _).trans htF0
      have hg : SgR M1 g0 g := hg0.rg nw hW0 hr
      refine v_iload hC dX9_fillAlike_5 rfl ?_
      refine v_aload_n hC dX9_fillAlike_7 rfl rfl ?_
      refine gf_9_5 hC htF mw_1_144 dX9_fillAlike_8 ?_
      rw [(hR.fs2 hfv).2.1, kn]
      refine v_icmp_ge hC dX9_fillAlike_11 (tgt := 55) (by decide) (fun h11 => ?_) (fun h11 => ?_)
      · have hi := lp_ge h11
        refine v_iload_n hC dX9_fillAlike_55 rfl rfl ?_
        refine v_iret hC dX9_fillAlike_56 ?_
        have hie : i = n_s u f := by omega
        subst hie
        rw [hv] at hR
        exact ⟨rfl, hR, hr, hx⟩
      · have hi := lp_lt h11
        have his : i < n_s v f := by omega
        refine v_aload_n hC dX9_fillAlike_14 rfl rfl ?_
        refine gf_9_7 hC htF (wf_251 hW htF) mw_1_152 dX9_fillAlike_15 ?_
        refine v_iload hC dX9_fillAlike_18 rfl ?_
        refine v_iald 24 hC (wf_251 hW htF) (by decide) (by decide) (ix_c (wz_24 hW (wf_251 hW htF)) (by omega)) dX9_fillAlike_20 ?_
        rw [(hR.ft2 hfv his).1]
        refine v_if_ne hC dX9_fillAlike_21 (tgt := 49) (by decide) (fun h21 => ?_) (fun h21 => ?_)
        · first
            | (have z : ¬ (q_i v 9 f i = 0 ∧ q_g v 0 f i = g) := (fun q => h21 q.1)
               rw [show fC (stA f g t) (ctA f g) u i = fC (stA f g t) (ctA f g) u (i + 1) from by rw [fC, ← hv, ctA, if_neg z, Int32.add_zero]])
            | (have z : ¬ (q_i v 9 f i = 0 ∧ q_g v 0 f i = g) := (fun q => g32 q.2)
               rw [show fC (stA f g t) (ctA f g) u i = fC (stA f g t) (ctA f g) u (i + 1) from by rw [fC, ← hv, ctA, if_neg z, Int32.add_zero]])
            | skip
          refine v_inc4 hC dX9_fillAlike_49 ((nI_succ i).symm) (by decide) (kk := ?_)
          refine v_goto hC dX9_fillAlike_52 (tgt := 5) (by decide) ?_
          refine ih (i + 1) _ (by omega) (by omega) ?_ ?_ ?_
          · rw [fU, ← hv, stA]
            first
              | (have z : ¬ (q_i v 9 f i = 0 ∧ q_g v 0 f i = g) := (fun q => h21 q.1)
                 rw [if_neg z]; exact hR)
              | (have z : ¬ (q_i v 9 f i = 0 ∧ q_g v 0 f i = g) := (fun q => g32 q.2)
                 rw [if_neg z]; exact hR)
              | (rw [if_pos ⟨h21, g32⟩]; exact CR.wA 10 f i (CR.wA 9 f i hR (cp_s h8 (by omega) 9 (by decide) (by decide)) rfl) (cp_s h8 (by omega) 10 (by decide) (by decide)) rfl)
          · first
              | exact hr
              | exact (hr.si (cA_r (cp_s h8 (s := i) (by omega) 9 (by decide) (by decide))) (by decide)).si (cA_r (cp_s h8 (s := i) (by omega) 10 (by decide) (by decide))) (by decide)
          · first | exact hx | exact hx.si.si
        · refine v_aload_n hC dX9_fillAlike_24 rfl rfl ?_
          refine gf_9_6 hC htF (wf_250 hW htF) mw_1_148 dX9_fillAlike_25 ?_
          refine v_iload hC dX9_fillAlike_28 rfl ?_
          refine v_aald 52 _ hC (wf_250 hW htF) (by decide) rfl (ix_c (wz_52 hW (wf_250 hW htF)) (by omega)) ((hR.fs2 hfv).2.2 i his).1 dX9_fillAlike_30 ?_
          refine v_aload_n hC dX9_fillAlike_31 rfl rfl ?_
          refine cVi1 hC (c_X6_isAlike hW ((hR.fs2 hfv).2.2 i his) hg) yv_X6_isAlike rfl ((hR.fs2 hfv).2.2 i his).1 mw_3_62 ⟨Nat.le_of_ble_eq_true rfl, Nat.le_of_ble_eq_true rfl⟩ ⟨Nat.le_of_ble_eq_true rfl, Nat.le_of_ble_eq_true rfl⟩ (Nat.le_of_ble_eq_true rfl) dX9_fillAlike_32 (fun r32 M34 hq => ?_)
          obtain ⟨hm, hq2⟩ := hq
          have hm2 := hm.symm
          clear hm
          subst hm2
          obtain ⟨g32, rfl⟩ | ⟨g32, rfl⟩ := hq2
          · refine v_if_eq hC dX9_fillAlike_35 (tgt := 49) (by decide) (fun hx => absurd hx (by decide)) (fun _ => ?_)
            refine v_aload_n hC dX9_fillAlike_38 rfl rfl ?_
            refine v_iload hC dX9_fillAlike_39 rfl ?_
            refine v_iload_n hC dX9_fillAlike_41 rfl rfl ?_
            refine v_iconst (v := 2) hC dX9_fillAlike_42 (by decide) ?_
            refine cVv3 hC (c_X9_putTarget hW htF (by omega)) yv_X9_putTarget rfl htF mw_2_118 ⟨Nat.le_of_ble_eq_true rfl, Nat.le_of_ble_eq_true rfl⟩ ⟨Nat.le_of_ble_eq_true rfl, Nat.le_of_ble_eq_true rfl⟩ (Nat.le_of_ble_eq_true rfl) dX9_fillAlike_43 (fun M45 hq => ?_)
            subst hq
            rw [y1, y2]
            refine v_inc3 hC dX9_fillAlike_46 (show fC (stA f g t) (ctA f g) u i + Int32.ofInt 1 = fC (stA f g t) (ctA f g) u (i + 1) from by rw [fC, ← hv, ctA, if_pos ⟨h21, g32⟩]; rfl) (by decide) (kk := ?_)
            first
              | (have z : ¬ (q_i v 9 f i = 0 ∧ q_g v 0 f i = g) := (fun q => h21 q.1)
                 rw [show fC (stA f g t) (ctA f g) u i = fC (stA f g t) (ctA f g) u (i + 1) from by rw [fC, ← hv, ctA, if_neg z, Int32.add_zero]])
              | (have z : ¬ (q_i v 9 f i = 0 ∧ q_g v 0 f i = g) := (fun q => g32 q.2)
                 rw [show fC (stA f g t) (ctA f g) u i = fC (stA f g t) (ctA f g) u (i + 1) from by rw [fC, ← hv, ctA, if_neg z, Int32.add_zero]])
              | skip
            refine v_inc4 hC dX9_fillAlike_49 ((nI_succ i).symm) (by decide) (kk := ?_)
            refine v_goto hC dX9_fillAlike_52 (tgt := 5) (by decide) ?_
            refine ih (i + 1) _ (by omega) (by omega) ?_ ?_ ?_
            · rw [fU, ← hv, stA]
              first
                | (have z : ¬ (q_i v 9 f i = 0 ∧ q_g v 0 f i = g) := (fun q => h21 q.1)
                   rw [if_neg z]; exact hR)
                | (have z : ¬ (q_i v 9 f i = 0 ∧ q_g v 0 f i = g) := (fun q => g32 q.2)
                   rw [if_neg z]; exact hR)
                | (rw [if_pos ⟨h21, g32⟩]; exact CR.wA 10 f i (CR.wA 9 f i hR (cp_s h8 (by omega) 9 (by decide) (by decide)) rfl) (cp_s h8 (by omega) 10 (by decide) (by decide)) rfl)
            · first
                | exact hr
                | exact (hr.si (cA_r (cp_s h8 (s := i) (by omega) 9 (by decide) (by decide))) (by decide)).si (cA_r (cp_s h8 (s := i) (by omega) 10 (by decide) (by decide))) (by decide)
            · first | exact hx | exact hx.si.si
          · refine v_if_eq hC dX9_fillAlike_35 (tgt := 49) (by decide) (fun _ => ?_) (fun hx => absurd hx (by decide))
            first
              | (have z : ¬ (q_i v 9 f i = 0 ∧ q_g v 0 f i = g) := (fun q => h21 q.1)
                 rw [show fC (stA f g t) (ctA f g) u i = fC (stA f g t) (ctA f g) u (i + 1) from by rw [fC, ← hv, ctA, if_neg z, Int32.add_zero]])
              | (have z : ¬ (q_i v 9 f i = 0 ∧ q_g v 0 f i = g) := (fun q => g32 q.2)
                 rw [show fC (stA f g t) (ctA f g) u i = fC (stA f g t) (ctA f g) u (i + 1) from by rw [fC, ← hv, ctA, if_neg z, Int32.add_zero]])
              | skip
            refine v_inc4 hC dX9_fillAlike_49 ((nI_succ i).symm) (by decide) (kk := ?_)
            refine v_goto hC dX9_fillAlike_52 (tgt := 5) (by decide) ?_
            refine ih (i + 1) _ (by omega) (by omega) ?_ ?_ ?_
            · rw [fU, ← hv, stA]
              first
                | (have z : ¬ (q_i v 9 f i = 0 ∧ q_g v 0 f i = g) := (fun q => h21 q.1)
                   rw [if_neg z]; exact hR)
                | (have z : ¬ (q_i v 9 f i = 0 ∧ q_g v 0 f i = g) := (fun q => g32 q.2)
                   rw [if_neg z]; exact hR)
                | (rw [if_pos ⟨h21, g32⟩]; exact CR.wA 10 f i (CR.wA 9 f i hR (cp_s h8 (by omega) 9 (by decide) (by decide)) rfl) (cp_s h8 (by omega) 10 (by decide) (by decide)) rfl)
            · first
                | exact hr
                | exact (hr.si (cA_r (cp_s h8 (s := i) (by omega) 9 (by decide) (by decide))) (by decide)).si (cA_r (cp_s h8 (s := i) (by omega) 10 (by decide) (by decide))) (by decide)
            · first | exact hx | exact hx.si.si
  refine v_iconst (v := 0) hC dX9_fillAlike_0 (by decide) ?_
  refine v_ist3 hC dX9_fillAlike_1 (by decide) (kk := ?_)
  refine v_iconst (v := 0) hC dX9_fillAlike_2 (by decide) ?_
  refine v_ist4 hC dX9_fillAlike_3 (by decide) (kk := ?_)
  exact loop 13 0 M (by omega) (by omega) hR Rg.rf Fx.rf

set_option maxHeartbeats 4000000 in
set_option maxRecDepth 100000 in
theorem c_X9_replaceAlike {l : Launch} {G : Gd} {M : Me} {S f g0 : Nat} {u : Si} {g : Sg} {t : Int32} (hW : Wt M) (htF : m_t M (cA S 4 f) = 10) (hR : CR M S u) (hf : f < n_f u) (hg : SgR M g0 g) : CQ (Qi G (fun r M2 => r = fC (stB f g t) (ctB f g t) u (n_s u f) ∧ CR M2 S (fU (stB f g t) u (n_s u f)) ∧ Rg M M2 S ∧ Fx M M2)) l G yX9_replaceAlike cX9_replaceAlike 5 ((some .int)) 1 23 0 0 [.ref (cA S 4 f), .ref g0, .int t] M := by
  refine c_of ([some (.ref (cA S 4 f)), some (.ref g0), some (.int t), none, none] : Lo) RX9 "replaceAlike" (by decide) rfl rfl (Nat.le_of_ble_eq_true rfl) rfl (fun p e s m below meth c hC nw => ?_)
  have hW0 := hW
  have h8 : f < 8 := by have := hR.2.1.1; omega
  have h12 := hR.2.1.2.2.2.2 f hf
  have hg0 := hg
  have htF0 := htF
  have loop : ∀ (k i : Nat) (M1 : Me), i + k = 13 → i ≤ n_s u f → CR M1 S (fU (stB f g t) u i) → Rg M M1 S → Fx M M1 → V p l e (rmk 1 23 0 0) s m ([.ref (cA S 4 f), .ref g0, .int t] : List Value).toArray below meth c 5 G (MQ below (Qi G (fun r M2 => r = fC (stB f g t) (ctB f g t) u (n_s u f) ∧ CR M2 S (fU (stB f g t) u (n_s u f)) ∧ Rg M M2 S ∧ Fx M M2)) ([.ref (cA S 4 f), .ref g0, .int t] : List Value).toArray s 0 0 (fr_ G)) M1 0 0 5 ([some (.ref (cA S 4 f)), some (.ref g0), some (.int t), some (.int (fC (stB f g t) (ctB f g t) u i)), some (.int (nI i))] : Lo) [] := by
    intro k
    induction k with
    | zero => intro i M1 e1 e2; omega
    | succ k ih =>
      intro i M1 e1 e2 hR hr hx
      have hW := hW0.fx hx
      have kp : Kp u (fU (stB f g t) u i) := Kp.fU (stB_kp f g t) i
      obtain ⟨v, hv⟩ : ∃ v, v = fU (stB f g t) u i := ⟨_, rfl⟩
      rw [← hv] at hR kp
      have hfv : f < n_f v := by show f < q_n v 0 0; rw [kp.n]; exact hf
      have kn : n_s v f = n_s u f := kp.n 4 f
      obtain ⟨y1, y2, y3⟩ := ly_T2 hR.1 h8
      have htF : m_t M1 (cA S 4 f) = 10 := (hx.2.1 _).trans htF0
      have hg : SgR M1 g0 g := hg0.rg nw hW0 hr
      refine v_iload hC dX9_replaceAlike_5 rfl ?_
      refine v_aload_n hC dX9_replaceAlike_7 rfl rfl ?_
      refine gf_9_5 hC htF mw_1_144 dX9_replaceAlike_8 ?_
      rw [(hR.fs2 hfv).2.1, kn]
      refine v_icmp_ge hC dX9_replaceAlike_11 (tgt := 66) (by decide) (fun h11 => ?_) (fun h11 => ?_)
      · have hi := lp_ge h11
        refine v_iload_n hC dX9_replaceAlike_66 rfl rfl ?_
        refine v_iret hC dX9_replaceAlike_67 ?_
        have hie : i = n_s u f := by omega
        subst hie
        rw [hv] at hR
        exact ⟨rfl, hR, hr, hx⟩
      · have hi := lp_lt h11
        have his : i < n_s v f := by omega
        refine v_aload_n hC dX9_replaceAlike_14 rfl rfl ?_
        refine gf_9_7 hC htF (wf_251 hW htF) mw_1_152 dX9_replaceAlike_15 ?_
        refine v_iload hC dX9_replaceAlike_18 rfl ?_
        refine v_iald 24 hC (wf_251 hW htF) (by decide) (by decide) (ix_c (wz_24 hW (wf_251 hW htF)) (by omega)) dX9_replaceAlike_20 ?_
        rw [(hR.ft2 hfv his).1]
        refine v_if_eq hC dX9_replaceAlike_21 (tgt := 60) (by decide) (fun h21 => ?_) (fun h21 => ?_)
        · first
            | (have z : ¬ ((¬ q_i v 9 f i = 0 ∧ ¬ q_i v 9 f i = t) ∧ q_g v 0 f i = g) := (fun q => q.1.1 h21)
               rw [show fC (stB f g t) (ctB f g t) u i = fC (stB f g t) (ctB f g t) u (i + 1) from by rw [fC, ← hv, ctB, if_neg z, Int32.add_zero]])
            | (have z : ¬ ((¬ q_i v 9 f i = 0 ∧ ¬ q_i v 9 f i = t) ∧ q_g v 0 f i = g) := (fun q => q.1.2 h32)
               rw [show fC (stB f g t) (ctB f g t) u i = fC (stB f g t) (ctB f g t) u (i + 1) from by rw [fC, ← hv, ctB, if_neg z, Int32.add_zero]])
            | (have z : ¬ ((¬ q_i v 9 f i = 0 ∧ ¬ q_i v 9 f i = t) ∧ q_g v 0 f i = g) := (fun q => g43 q.2)
               rw [show fC (stB f g t) (ctB f g t) u i = fC (stB f g t) (ctB f g t) u (i + 1) from by rw [fC, ← hv, ctB, if_neg z, Int32.add_zero]])
            | skip
          refine v_inc4 hC dX9_replaceAlike_60 ((nI_succ i).symm) (by decide) (kk := ?_)
          refine v_goto hC dX9_replaceAlike_63 (tgt := 5) (by decide) ?_
          refine ih (i + 1) _ (by omega) (by omega) ?_ ?_ ?_
          · rw [fU, ← hv, stB]
            first
              | (have z : ¬ ((¬ q_i v 9 f i = 0 ∧ ¬ q_i v 9 f i = t) ∧ q_g v 0 f i = g) := (fun q => q.1.1 h21)
                 rw [if_neg z]; exact hR)
              | (have z : ¬ ((¬ q_i v 9 f i = 0 ∧ ¬ q_i v 9 f i = t) ∧ q_g v 0 f i = g) := (fun q => q.1.2 h32)
                 rw [if_neg z]; exact hR)
              | (have z : ¬ ((¬ q_i v 9 f i = 0 ∧ ¬ q_i v 9 f i = t) ∧ q_g v 0 f i = g) := (fun q => g43 q.2)
                 rw [if_neg z]; exact hR)
              | (rw [if_pos ⟨⟨h21, h32⟩, g43⟩]; exact CR.wA 10 f i (CR.wA 9 f i hR (cp_s h8 (by omega) 9 (by decide) (by decide)) rfl) (cp_s h8 (by omega) 10 (by decide) (by decide)) rfl)
          · first
              | exact hr
              | exact (hr.si (cA_r (cp_s h8 (s := i) (by omega) 9 (by decide) (by decide))) (by decide)).si (cA_r (cp_s h8 (s := i) (by omega) 10 (by decide) (by decide))) (by decide)
          · first | exact hx | exact hx.si.si
        · refine v_aload_n hC dX9_replaceAlike_24 rfl rfl ?_
          refine gf_9_7 hC htF (wf_251 hW htF) mw_1_152 dX9_replaceAlike_25 ?_
          refine v_iload hC dX9_replaceAlike_28 rfl ?_
          refine v_iald 24 hC (wf_251 hW htF) (by decide) (by decide) (ix_c (wz_24 hW (wf_251 hW htF)) (by omega)) dX9_replaceAlike_30 ?_
          rw [(hR.ft2 hfv his).1]
          refine v_iload_n hC dX9_replaceAlike_31 rfl rfl ?_
          refine v_icmp_eq hC dX9_replaceAlike_32 (tgt := 60) (by decide) (fun h32 => ?_) (fun h32 => ?_)
          · first
              | (have z : ¬ ((¬ q_i v 9 f i = 0 ∧ ¬ q_i v 9 f i = t) ∧ q_g v 0 f i = g) := (fun q => q.1.1 h21)
                 rw [show fC (stB f g t) (ctB f g t) u i = fC (stB f g t) (ctB f g t) u (i + 1) from by rw [fC, ← hv, ctB, if_neg z, Int32.add_zero]])
              | (have z : ¬ ((¬ q_i v 9 f i = 0 ∧ ¬ q_i v 9 f i = t) ∧ q_g v 0 f i = g) := (fun q => q.1.2 h32)
                 rw [show fC (stB f g t) (ctB f g t) u i = fC (stB f g t) (ctB f g t) u (i + 1) from by rw [fC, ← hv, ctB, if_neg z, Int32.add_zero]])
              | (have z : ¬ ((¬ q_i v 9 f i = 0 ∧ ¬ q_i v 9 f i = t) ∧ q_g v 0 f i = g) := (fun q => g43 q.2)
                 rw [show fC (stB f g t) (ctB f g t) u i = fC (stB f g t) (ctB f g t) u (i + 1) from by rw [fC, ← hv, ctB, if_neg z, Int32.add_zero]])
              | skip
            refine v_inc4 hC dX9_replaceAlike_60 ((nI_succ i).symm) (by decide) (kk := ?_)
            refine v_goto hC dX9_replaceAlike_63 (tgt := 5) (by decide) ?_
            refine ih (i + 1) _ (by omega) (by omega) ?_ ?_ ?_
            · rw [fU, ← hv, stB]
              first
                | (have z : ¬ ((¬ q_i v 9 f i = 0 ∧ ¬ q_i v 9 f i = t) ∧ q_g v 0 f i = g) := (fun q => q.1.1 h21)
                   rw [if_neg z]; exact hR)
                | (have z : ¬ ((¬ q_i v 9 f i = 0 ∧ ¬ q_i v 9 f i = t) ∧ q_g v 0 f i = g) := (fun q => q.1.2 h32)
                   rw [if_neg z]; exact hR)
                | (have z : ¬ ((¬ q_i v 9 f i = 0 ∧ ¬ q_i v 9 f i = t) ∧ q_g v 0 f i = g) := (fun q => g43 q.2)
                   rw [if_neg z]; exact hR)
                | (rw [if_pos ⟨⟨h21, h32⟩, g43⟩]; exact CR.wA 10 f i (CR.wA 9 f i hR (cp_s h8 (by omega) 9 (by decide) (by decide)) rfl) (cp_s h8 (by omega) 10 (by decide) (by decide)) rfl)
            · first
                | exact hr
                | exact (hr.si (cA_r (cp_s h8 (s := i) (by omega) 9 (by decide) (by decide))) (by decide)).si (cA_r (cp_s h8 (s := i) (by omega) 10 (by decide) (by decide))) (by decide)
            · first | exact hx | exact hx.si.si
          · refine v_aload_n hC dX9_replaceAlike_35 rfl rfl ?_
            refine gf_9_6 hC htF (wf_250 hW htF) mw_1_148 dX9_replaceAlike_36 ?_
            refine v_iload hC dX9_replaceAlike_39 rfl ?_
            refine v_aald 52 _ hC (wf_250 hW htF) (by decide) rfl (ix_c (wz_52 hW (wf_250 hW htF)) (by omega)) ((hR.fs2 hfv).2.2 i his).1 dX9_replaceAlike_41 ?_
            refine v_aload_n hC dX9_replaceAlike_42 rfl rfl ?_
            refine cVi1 hC (c_X6_isAlike hW ((hR.fs2 hfv).2.2 i his) hg) yv_X6_isAlike rfl ((hR.fs2 hfv).2.2 i his).1 mw_3_62 ⟨Nat.le_of_ble_eq_true rfl, Nat.le_of_ble_eq_true rfl⟩ ⟨Nat.le_of_ble_eq_true rfl, Nat.le_of_ble_eq_true rfl⟩ (Nat.le_of_ble_eq_true rfl) dX9_replaceAlike_43 (fun r43 M45 hq => ?_)
            obtain ⟨hm, hq2⟩ := hq
            have hm2 := hm.symm
            clear hm
            subst hm2
            obtain ⟨g43, rfl⟩ | ⟨g43, rfl⟩ := hq2
            · refine v_if_eq hC dX9_replaceAlike_46 (tgt := 60) (by decide) (fun hx => absurd hx (by decide)) (fun _ => ?_)
              refine v_aload_n hC dX9_replaceAlike_49 rfl rfl ?_
              refine v_iload hC dX9_replaceAlike_50 rfl ?_
              refine v_iload_n hC dX9_replaceAlike_52 rfl rfl ?_
              refine v_iconst (v := 4) hC dX9_replaceAlike_53 (by decide) ?_
              refine cVv3 hC (c_X9_putTarget hW htF (by omega)) yv_X9_putTarget rfl htF mw_2_118 ⟨Nat.le_of_ble_eq_true rfl, Nat.le_of_ble_eq_true rfl⟩ ⟨Nat.le_of_ble_eq_true rfl, Nat.le_of_ble_eq_true rfl⟩ (Nat.le_of_ble_eq_true rfl) dX9_replaceAlike_54 (fun M56 hq => ?_)
              subst hq
              rw [y1, y2]
              refine v_inc3 hC dX9_replaceAlike_57 (show fC (stB f g t) (ctB f g t) u i + Int32.ofInt 1 = fC (stB f g t) (ctB f g t) u (i + 1) from by rw [fC, ← hv, ctB, if_pos ⟨⟨h21, h32⟩, g43⟩]; rfl) (by decide) (kk := ?_)
              first
                | (have z : ¬ ((¬ q_i v 9 f i = 0 ∧ ¬ q_i v 9 f i = t) ∧ q_g v 0 f i = g) := (fun q => q.1.1 h21)
                   rw [show fC (stB f g t) (ctB f g t) u i = fC (stB f g t) (ctB f g t) u (i + 1) from by rw [fC, ← hv, ctB, if_neg z, Int32.add_zero]])
                | (have z : ¬ ((¬ q_i v 9 f i = 0 ∧ ¬ q_i v 9 f i = t) ∧ q_g v 0 f i = g) := (fun q => q.1.2 h32)
                   rw [show fC (stB f g t) (ctB f g t) u i = fC (stB f g t) (ctB f g t) u (i + 1) from by rw [fC, ← hv, ctB, if_neg z, Int32.add_zero]])
                | (have z : ¬ ((¬ q_i v 9 f i = 0 ∧ ¬ q_i v 9 f i = t) ∧ q_g v 0 f i = g) := (fun q => g43 q.2)
                   rw [show fC (stB f g t) (ctB f g t) u i = fC (stB f g t) (ctB f g t) u (i + 1) from by rw [fC, ← hv, ctB, if_neg z, Int32.add_zero]])
                | skip
              refine v_inc4 hC dX9_replaceAlike_60 ((nI_succ i).symm) (by decide) (kk := ?_)
              refine v_goto hC dX9_replaceAlike_63 (tgt := 5) (by decide) ?_
              refine ih (i + 1) _ (by omega) (by omega) ?_ ?_ ?_
              · rw [fU, ← hv, stB]
                first
                  | (have z : ¬ ((¬ q_i v 9 f i = 0 ∧ ¬ q_i v 9 f i = t) ∧ q_g v 0 f i = g) := (fun q => q.1.1 h21)
                     rw [if_neg z]; exact hR)
                  | (have z : ¬ ((¬ q_i v 9 f i = 0 ∧ ¬ q_i v 9 f i = t) ∧ q_g v 0 f i = g) := (fun q => q.1.2 h32)
                     rw [if_neg z]; exact hR)
                  | (have z : ¬ ((¬ q_i v 9 f i = 0 ∧ ¬ q_i v 9 f i = t) ∧ q_g v 0 f i = g) := (fun q => g43 q.2)
                     rw [if_neg z]; exact hR)
                  | (rw [if_pos ⟨⟨h21, h32⟩, g43⟩]; exact CR.wA 10 f i (CR.wA 9 f i hR (cp_s h8 (by omega) 9 (by decide) (by decide)) rfl) (cp_s h8 (by omega) 10 (by decide) (by decide)) rfl)
              · first
                  | exact hr
                  | exact (hr.si (cA_r (cp_s h8 (s := i) (by omega) 9 (by decide) (by decide))) (by decide)).si (cA_r (cp_s h8 (s := i) (by omega) 10 (by decide) (by decide))) (by decide)
              · first | exact hx | exact hx.si.si
            · refine v_if_eq hC dX9_replaceAlike_46 (tgt := 60) (by decide) (fun _ => ?_) (fun hx => absurd hx (by decide))
              first
                | (have z : ¬ ((¬ q_i v 9 f i = 0 ∧ ¬ q_i v 9 f i = t) ∧ q_g v 0 f i = g) := (fun q => q.1.1 h21)
                   rw [show fC (stB f g t) (ctB f g t) u i = fC (stB f g t) (ctB f g t) u (i + 1) from by rw [fC, ← hv, ctB, if_neg z, Int32.add_zero]])
                | (have z : ¬ ((¬ q_i v 9 f i = 0 ∧ ¬ q_i v 9 f i = t) ∧ q_g v 0 f i = g) := (fun q => q.1.2 h32)
                   rw [show fC (stB f g t) (ctB f g t) u i = fC (stB f g t) (ctB f g t) u (i + 1) from by rw [fC, ← hv, ctB, if_neg z, Int32.add_zero]])
                | (have z : ¬ ((¬ q_i v 9 f i = 0 ∧ ¬ q_i v 9 f i = t) ∧ q_g v 0 f i = g) := (fun q => g43 q.2)
                   rw [show fC (stB f g t) (ctB f g t) u i = fC (stB f g t) (ctB f g t) u (i + 1) from by rw [fC, ← hv, ctB, if_neg z, Int32.add_zero]])
                | skip
              refine v_inc4 hC dX9_replaceAlike_60 ((nI_succ i).symm) (by decide) (kk := ?_)
              refine v_goto hC dX9_replaceAlike_63 (tgt := 5) (by decide) ?_
              refine ih (i + 1) _ (by omega) (by omega) ?_ ?_ ?_
              · rw [fU, ← hv, stB]
                first
                  | (have z : ¬ ((¬ q_i v 9 f i = 0 ∧ ¬ q_i v 9 f i = t) ∧ q_g v 0 f i = g) := (fun q => q.1.1 h21)
                     rw [if_neg z]; exact hR)
                  | (have z : ¬ ((¬ q_i v 9 f i = 0 ∧ ¬ q_i v 9 f i = t) ∧ q_g v 0 f i = g) := (fun q => q.1.2 h32)
                     rw [if_neg z]; exact hR)
                  | (have z : ¬ ((¬ q_i v 9 f i = 0 ∧ ¬ q_i v 9 f i = t) ∧ q_g v 0 f i = g) := (fun q => g43 q.2)
                     rw [if_neg z]; exact hR)
                  | (rw [if_pos ⟨⟨h21, h32⟩, g43⟩]; exact CR.wA 10 f i (CR.wA 9 f i hR (cp_s h8 (by omega) 9 (by decide) (by decide)) rfl) (cp_s h8 (by omega) 10 (by decide) (by decide)) rfl)
              · first
                  | exact hr
                  | exact (hr.si (cA_r (cp_s h8 (s := i) (by omega) 9 (by decide) (by decide))) (by decide)).si (cA_r (cp_s h8 (s := i) (by omega) 10 (by decide) (by decide))) (by decide)
              · first | exact hx | exact hx.si.si
  refine v_iconst (v := 0) hC dX9_replaceAlike_0 (by decide) ?_
  refine v_ist3 hC dX9_replaceAlike_1 (by decide) (kk := ?_)
  refine v_iconst (v := 0) hC dX9_replaceAlike_2 (by decide) ?_
  refine v_ist4 hC dX9_replaceAlike_3 (by decide) (kk := ?_)
  exact loop 13 0 M (by omega) (by omega) hR Rg.rf Fx.rf
