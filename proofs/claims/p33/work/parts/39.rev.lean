def T_od (u : Si) (d : Nat) : Int32 := if q_i u 16 d 0 = 0 then 1 else 0
/-- a file is ready for review -/
def rdy (u : Si) (f : Nat) : Prop := ∀ t, t < n_s u f → ¬ q_i u 9 f t = 0 ∧ ¬ dsp u (q_g u 0 f t)
set_option maxHeartbeats 4000000 in
set_option maxRecDepth 100000 in
theorem c_X4_countOpenDisputes {l : Launch} {G : Gd} {M : Me} {S : Nat} {u : Si} (hW : Wt M) (ht : m_t M (pM M S) = 5) (hR : CR M S u) : CQ (Qi G (fun r M2 => r = sm (T_od u) (n_d u) ∧ M2 = M)) l G yX4_countOpenDisputes cX4_countOpenDisputes 3 ((some .int)) 1 20 0 0 [.ref (pM M S)] M := by
  refine c_of ([some (.ref (pM M S)), none, none] : Lo) RX4 "countOpenDisputes" (by decide) rfl rfl (Nat.le_of_ble_eq_true rfl) rfl (fun p e s m below meth c hC nw => ?_)
  have hb : n_d u ≤ 10 := hR.2.1.2.2.2.1
  have hn := hR.ne.2
  have loop : ∀ (k i : Nat), i + k = 11 → i ≤ n_d u → V p l e (rmk 1 20 0 0) s m ([.ref (pM M S)] : List Value).toArray below meth c 3 G (MQ below (Qi G (fun r M2 => r = sm (T_od u) (n_d u) ∧ M2 = M)) ([.ref (pM M S)] : List Value).toArray s 0 0 (fr_ G)) M 0 0 4 ([some (.ref (pM M S)), some (.int (sm (T_od u) i)), some (.int (nI i))] : Lo) [] := by
    intro k
    induction k with
    | zero => intro i e1 e2; omega
    | succ k ih =>
      intro i e1 e2
      refine v_iload_n hC dX4_countOpenDisputes_4 rfl rfl ?_
      refine v_aload_n hC dX4_countOpenDisputes_5 rfl rfl ?_
      refine gf_4_4 hC ht mw_2_15 dX4_countOpenDisputes_6 ?_
      rw [hn]
      refine v_icmp_ge hC dX4_countOpenDisputes_9 (tgt := 33) (by decide) (fun h9 => ?_) (fun h9 => ?_)
      · have hi := lp_ge h9
        refine v_iload_n hC dX4_countOpenDisputes_33 rfl rfl ?_
        refine v_iret hC dX4_countOpenDisputes_34 ?_
        have hie : i = n_d u := by omega
        subst hie
        exact ⟨rfl, rfl⟩
      · have hi := lp_lt h9
        refine v_aload_n hC dX4_countOpenDisputes_12 rfl rfl ?_
        refine gf_4_3 hC ht (wf_167 hW ht) mw_2_12 dX4_countOpenDisputes_13 ?_
        refine v_iload_n hC dX4_countOpenDisputes_16 rfl rfl ?_
        refine v_aald 54 _ hC (wf_167 hW ht) (by decide) rfl (ix_c (wz_54 hW (wf_167 hW ht)) (by omega)) (we_54 hW (wf_167 hW ht) (by omega)) dX4_countOpenDisputes_17 ?_
        refine cVi0 hC (c_X0_isSettled (we_54 hW (wf_167 hW ht) (by omega))) yv_X0_isSettled rfl (we_54 hW (wf_167 hW ht) (by omega)) mw_3_113 ⟨Nat.le_of_ble_eq_true rfl, Nat.le_of_ble_eq_true rfl⟩ ⟨Nat.le_of_ble_eq_true rfl, Nat.le_of_ble_eq_true rfl⟩ (Nat.le_of_ble_eq_true rfl) dX4_countOpenDisputes_18 (fun r18 M20 hq => ?_)
        obtain ⟨hm, hq2⟩ := hq
        have hm2 := hm.symm
        clear hm
        subst hm2
        obtain ⟨g18, rfl⟩ | ⟨g18, rfl⟩ := hq2
        · rw [(hR.di hi).2.2.2] at g18
          refine v_if_ne hC dX4_countOpenDisputes_21 (tgt := 27) (by decide) (fun _ => ?_) (fun hx => absurd hx (by decide))
          first | rw [show sm (T_od u) i = sm (T_od u) (i + 1) from by rw [sm_s, T_od, if_neg g18, Int32.add_zero]] | rw [show sm (T_od u) i + Int32.ofInt 1 = sm (T_od u) (i + 1) from by rw [sm_s, T_od, if_pos (Classical.not_not.mp g18)]; rfl]
          refine v_inc2 hC dX4_countOpenDisputes_27 ((nI_succ i).symm) (by decide) (kk := ?_)
          refine v_goto hC dX4_countOpenDisputes_30 (tgt := 4) (by decide) ?_
          exact ih (i + 1) (by omega) (by omega)
        · rw [(hR.di hi).2.2.2] at g18
          refine v_if_ne hC dX4_countOpenDisputes_21 (tgt := 27) (by decide) (fun hx => absurd hx (by decide)) (fun _ => ?_)
          refine v_inc1 hC dX4_countOpenDisputes_24 (rfl) (by decide) (kk := ?_)
          first | rw [show sm (T_od u) i = sm (T_od u) (i + 1) from by rw [sm_s, T_od, if_neg g18, Int32.add_zero]] | rw [show sm (T_od u) i + Int32.ofInt 1 = sm (T_od u) (i + 1) from by rw [sm_s, T_od, if_pos (Classical.not_not.mp g18)]; rfl]
          refine v_inc2 hC dX4_countOpenDisputes_27 ((nI_succ i).symm) (by decide) (kk := ?_)
          refine v_goto hC dX4_countOpenDisputes_30 (tgt := 4) (by decide) ?_
          exact ih (i + 1) (by omega) (by omega)
  refine v_iconst (v := 0) hC dX4_countOpenDisputes_0 (by decide) ?_
  refine v_ist1 hC dX4_countOpenDisputes_1 (by decide) (kk := ?_)
  refine v_iconst (v := 0) hC dX4_countOpenDisputes_2 (by decide) ?_
  refine v_ist2 hC dX4_countOpenDisputes_3 (by decide) (kk := ?_)
  exact loop 11 0 (by omega) (by omega)

set_option maxHeartbeats 4000000 in
set_option maxRecDepth 100000 in
theorem c_X7_isReadyForReview {l : Launch} {G : Gd} {M : Me} {h f : Nat} {u : Si} (hW : Wt M) (ht : m_t M h = 8) (hR : CR M h u) (hf : f < n_f u) : CQ (Qi G (fun r M2 => M2 = M ∧ (rdy u f ∧ r = 1 ∨ ¬ rdy u f ∧ r = 0))) l G yX7_isReadyForReview cX7_isReadyForReview 4 ((some .boolean)) 3 66 0 0 [.ref h, .int (nI f)] M := by
  refine c_of ([some (.ref h), some (.int (nI f)), none, none] : Lo) RX7 "isReadyForReview" (by decide) rfl rfl (Nat.le_of_ble_eq_true rfl) rfl (fun p e s m below meth c hC nw => ?_)
  have hb : n_f u ≤ 8 := hR.2.1.1
  have h12 := hR.2.1.2.2.2.2 f hf
  have hF : m_t M (pF M h f) = 10 := we_51 hW (wf_215 hW ht) (by omega)
  have loop : ∀ (k i : Nat), i + k = 13 → i ≤ n_s u f → (∀ t, t < i → ¬ q_i u 9 f t = 0 ∧ ¬ dsp u (q_g u 0 f t)) → V p l e (rmk 3 66 0 0) s m ([.ref h, .int (nI f)] : List Value).toArray below meth c 4 G (MQ below (Qi G (fun r M2 => M2 = M ∧ (rdy u f ∧ r = 1 ∨ ¬ rdy u f ∧ r = 0))) ([.ref h, .int (nI f)] : List Value).toArray s 0 0 (fr_ G)) M 0 0 9 ([some (.ref h), some (.int (nI f)), some (.ref (pF M h f)), some (.int (nI i))] : Lo) [] := by
    intro k
    induction k with
    | zero => intro i e1 e2; omega
    | succ k ih =>
      intro i e1 e2 hI
      refine v_iload_n hC dX7_isReadyForReview_9 rfl rfl ?_
      refine v_aload_n hC dX7_isReadyForReview_10 rfl rfl ?_
      refine gf_9_5 hC hF mw_1_145 dX7_isReadyForReview_11 ?_
      rw [(hR.fs hf).2.1]
      refine v_icmp_ge hC dX7_isReadyForReview_14 (tgt := 50) (by decide) (fun h14 => ?_) (fun h14 => ?_)
      · have hi := lp_ge h14
        refine v_iconst (v := 1) hC dX7_isReadyForReview_50 (by decide) ?_
        refine v_zret hC (Or.inr rfl) dX7_isReadyForReview_51 ?_
        exact ⟨rfl, Or.inl ⟨fun t ht2 => hI t (by omega), rfl⟩⟩
      · have hi := lp_lt h14
        refine v_aload_n hC dX7_isReadyForReview_17 rfl rfl ?_
        refine gf_9_7 hC hF (wf_251 hW hF) mw_1_155 dX7_isReadyForReview_18 ?_
        refine v_iload_n hC dX7_isReadyForReview_21 rfl rfl ?_
        refine v_iald 24 hC (wf_251 hW hF) (by decide) (by decide) (ix_c (wz_24 hW (wf_251 hW hF)) (by omega)) dX7_isReadyForReview_22 ?_
        rw [(hR.ft hf hi).1]
        refine v_if_eq hC dX7_isReadyForReview_23 (tgt := 42) (by decide) (fun h23 => ?_) (fun h23 => ?_)
        · refine v_iconst (v := 0) hC dX7_isReadyForReview_42 (by decide) ?_
          refine v_zret hC (Or.inl rfl) dX7_isReadyForReview_43 ?_
          refine ⟨rfl, Or.inr ⟨fun a => ?_, rfl⟩⟩
          first
            | exact (a i hi).1 h23
            | exact (a i hi).2 g36
        · refine v_aload_n hC dX7_isReadyForReview_26 rfl rfl ?_
          refine gf_7_6 hC ht (wf_218 hW ht) mw_2_40 dX7_isReadyForReview_27 ?_
          refine v_aload_n hC dX7_isReadyForReview_30 rfl rfl ?_
          refine gf_9_6 hC hF (wf_250 hW hF) mw_1_150 dX7_isReadyForReview_31 ?_
          refine v_iload_n hC dX7_isReadyForReview_34 rfl rfl ?_
          refine v_aald 52 _ hC (wf_250 hW hF) (by decide) rfl (ix_c (wz_52 hW (wf_250 hW hF)) (by omega)) ((hR.fs hf).2.2 i hi).1 dX7_isReadyForReview_35 ?_
          refine cVi1 hC (c_X4_isDisputed hW (wf_218 hW ht) hR ((hR.fs hf).2.2 i hi)) yv_X4_isDisputed rfl (wf_218 hW ht) mw_3_146 ⟨Nat.le_of_ble_eq_true rfl, Nat.le_of_ble_eq_true rfl⟩ ⟨Nat.le_of_ble_eq_true rfl, Nat.le_of_ble_eq_true rfl⟩ (Nat.le_of_ble_eq_true rfl) dX7_isReadyForReview_36 (fun r36 M38 hq => ?_)
          obtain ⟨hm, hq2⟩ := hq
          have hm2 := hm.symm
          clear hm
          subst hm2
          obtain ⟨g36, rfl⟩ | ⟨g36, rfl⟩ := hq2
          · refine v_if_eq hC dX7_isReadyForReview_39 (tgt := 44) (by decide) (fun hx => absurd hx (by decide)) (fun _ => ?_)
            refine v_iconst (v := 0) hC dX7_isReadyForReview_42 (by decide) ?_
            refine v_zret hC (Or.inl rfl) dX7_isReadyForReview_43 ?_
            refine ⟨rfl, Or.inr ⟨fun a => ?_, rfl⟩⟩
            first
              | exact (a i hi).1 h23
              | exact (a i hi).2 g36
          · refine v_if_eq hC dX7_isReadyForReview_39 (tgt := 44) (by decide) (fun _ => ?_) (fun hx => absurd hx (by decide))
            refine v_inc3 hC dX7_isReadyForReview_44 ((nI_succ i).symm) (by decide) (kk := ?_)
            refine v_goto hC dX7_isReadyForReview_47 (tgt := 9) (by decide) ?_
            exact ih (i + 1) (by omega) (by omega) (fun t ht2 => by
              by_cases q : t = i
              · subst q; exact ⟨h23, g36⟩
              · exact hI t (by omega))
  refine v_aload_n hC dX7_isReadyForReview_0 rfl rfl ?_
  refine gf_7_3 hC ht (wf_215 hW ht) mw_2_34 dX7_isReadyForReview_1 ?_
  refine v_iload_n hC dX7_isReadyForReview_4 rfl rfl ?_
  refine v_aald 51 _ hC (wf_215 hW ht) (by decide) rfl (ix_c (wz_51 hW (wf_215 hW ht)) (by omega)) hF dX7_isReadyForReview_5 ?_
  refine v_ast2 hC dX7_isReadyForReview_6 (by decide) (kk := ?_)
  refine v_iconst (v := 0) hC dX7_isReadyForReview_7 (by decide) ?_
  refine v_ist3 hC dX7_isReadyForReview_8 (by decide) (kk := ?_)
  exact loop 13 0 (by omega) (by omega) (fun t ht2 => absurd ht2 (Nat.not_lt_zero t))

def brd (b x : Int32) : Prop := (b >>> (x &&& 31)) &&& 1 = 1
/-- a person may review a file -/
def myR (u : Si) (f : Nat) (x : Int32) : Prop := ∃ p, p < n_p u ∧ q_i u 4 f 0 = 1 ∧ q_i u 5 f 0 = nI p ∧ ¬ x = nI p ∧ ¬ brd (q_i u 2 p 0) x ∧ ¬ q_i u 3 p 0 = x
set_option maxHeartbeats 4000000 in
set_option maxRecDepth 100000 in
theorem c_X5_isBarredFrom {l : Launch} {G : Gd} {M : Me} {h : Nat} {x b : Int32} (ht : m_t M h = 6) (hb : m_i M 181 h 0 = b) : CQ (Qi G (fun r M2 => M2 = M ∧ (brd b x ∧ r = 1 ∨ ¬ brd b x ∧ r = 0))) l G yX5_isBarredFrom cX5_isBarredFrom 2 ((some .boolean)) 0 0 0 0 [.ref h, .int x] M := by
  refine c_of ([some (.ref h), some (.int x)] : Lo) RX5 "isBarredFrom" (by decide) rfl rfl (Nat.le_of_ble_eq_true rfl) rfl (fun p e s m below meth c hC nw => ?_)
  refine v_aload_n hC dX5_isBarredFrom_0 rfl rfl ?_
  refine gf_5_1 hC ht mw_1_105 dX5_isBarredFrom_1 ?_
  rw [hb]
  refine v_iload_n hC dX5_isBarredFrom_4 rfl rfl ?_
  refine v_ishr hC dX5_isBarredFrom_5 ?_
  refine v_iconst (v := 1) hC dX5_isBarredFrom_6 (by decide) ?_
  refine v_iand hC dX5_isBarredFrom_7 ?_
  refine v_iconst (v := 1) hC dX5_isBarredFrom_8 (by decide) ?_
  refine v_icmp_ne hC dX5_isBarredFrom_9 (tgt := 16) (by decide) (fun h9 => ?_) (fun h9 => ?_)
  · refine v_iconst (v := 0) hC dX5_isBarredFrom_16 (by decide) ?_
    refine v_zret hC (Or.inl rfl) dX5_isBarredFrom_17 ?_
    exact ⟨rfl, Or.inr ⟨h9, rfl⟩⟩
  · refine v_iconst (v := 1) hC dX5_isBarredFrom_12 (by decide) ?_
    refine v_goto hC dX5_isBarredFrom_13 (tgt := 17) (by decide) ?_
    refine v_zret hC (Or.inr rfl) dX5_isBarredFrom_17 ?_
    exact ⟨rfl, Or.inl ⟨h9, rfl⟩⟩

set_option maxHeartbeats 4000000 in
set_option maxRecDepth 100000 in
theorem c_X7_mayReview {l : Launch} {G : Gd} {M : Me} {h f : Nat} {u : Si} {x : Int32} (hW : Wt M) (ht : m_t M h = 8) (hR : CR M h u) (hf : f < n_f u) : CQ (Qi G (fun r M2 => M2 = M ∧ (myR u f x ∧ r = 1 ∨ ¬ myR u f x ∧ r = 0))) l G yX7_mayReview cX7_mayReview 4 ((some .boolean)) 1 21 0 0 [.ref h, .int (nI f), .int x] M := by
  refine c_of ([some (.ref h), some (.int (nI f)), some (.int x), none] : Lo) RX7 "mayReview" (by decide) rfl rfl (Nat.le_of_ble_eq_true rfl) rfl (fun p e s m below meth c hC nw => ?_)
  have hb : n_f u ≤ 8 := hR.2.1.1
  have hb6 := hR.2.1.2.1
  refine v_aload_n hC dX7_mayReview_0 rfl rfl ?_
  refine gf_7_3 hC ht (wf_215 hW ht) mw_2_34 dX7_mayReview_1 ?_
  refine v_iload_n hC dX7_mayReview_4 rfl rfl ?_
  refine v_aald 51 _ hC (wf_215 hW ht) (by decide) rfl (ix_c (wz_51 hW (wf_215 hW ht)) (by omega)) (we_51 hW (wf_215 hW ht) (by omega)) dX7_mayReview_5 ?_
  refine gf_9_1 hC (we_51 hW (wf_215 hW ht) (by omega)) mw_1_135 dX7_mayReview_6 ?_
  rw [(hR.f4 hf).2.1]
  refine v_ist3 hC dX7_mayReview_9 (by decide) (kk := ?_)
  refine v_aload_n hC dX7_mayReview_10 rfl rfl ?_
  refine gf_7_3 hC ht (wf_215 hW ht) mw_2_34 dX7_mayReview_11 ?_
  refine v_iload_n hC dX7_mayReview_14 rfl rfl ?_
  refine v_aald 51 _ hC (wf_215 hW ht) (by decide) rfl (ix_c (wz_51 hW (wf_215 hW ht)) (by omega)) (we_51 hW (wf_215 hW ht) (by omega)) dX7_mayReview_15 ?_
  refine gf_9_0 hC (we_51 hW (wf_215 hW ht) (by omega)) mw_1_132 dX7_mayReview_16 ?_
  rw [(hR.f4 hf).1]
  refine v_iconst (v := 1) hC dX7_mayReview_19 (by decide) ?_
  refine v_icmp_ne hC dX7_mayReview_20 (tgt := 66) (by decide) (fun h20 => ?_) (fun h20 => ?_)
  · refine v_iconst (v := 0) hC dX7_mayReview_66 (by decide) ?_
    refine v_zret hC (Or.inl rfl) dX7_mayReview_67 ?_
    refine ⟨rfl, Or.inr ⟨fun ⟨p3, a1, a2, a3, a4, a5, a6⟩ => ?_, rfl⟩⟩
    first
      | exact h20 a2
      | exact g25 ⟨p3, a1, a3⟩
      | (have w := (nI_eq (by omega) (by omega)).mp (ep.symm.trans a3); subst w; first | exact a4 h33 | exact a5 g43 | exact a6 h59)
  · refine v_aload_n hC dX7_mayReview_23 rfl rfl ?_
    refine v_iload_n hC dX7_mayReview_24 rfl rfl ?_
    refine cVi1 hC (c_X7_hasPerson ht hR.2.2.2.1.2.1 hb6) yv_X7_hasPerson rfl ht mw_3_140 ⟨Nat.le_of_ble_eq_true rfl, Nat.le_of_ble_eq_true rfl⟩ ⟨Nat.le_of_ble_eq_true rfl, Nat.le_of_ble_eq_true rfl⟩ (Nat.le_of_ble_eq_true rfl) dX7_mayReview_25 (fun r25 M27 hq => ?_)
    obtain ⟨hm, hq2⟩ := hq
    have hm2 := hm.symm
    clear hm
    subst hm2
    obtain ⟨g25, rfl⟩ | ⟨g25, rfl⟩ := hq2
    · refine v_if_eq hC dX7_mayReview_28 (tgt := 66) (by decide) (fun hx => absurd hx (by decide)) (fun _ => ?_)
      obtain ⟨p2, hp, ep⟩ := g25
      rw [ep]
      refine v_iload_n hC dX7_mayReview_31 rfl rfl ?_
      refine v_iload_n hC dX7_mayReview_32 rfl rfl ?_
      refine v_icmp_eq hC dX7_mayReview_33 (tgt := 66) (by decide) (fun h33 => ?_) (fun h33 => ?_)
      · refine v_iconst (v := 0) hC dX7_mayReview_66 (by decide) ?_
        refine v_zret hC (Or.inl rfl) dX7_mayReview_67 ?_
        refine ⟨rfl, Or.inr ⟨fun ⟨p3, a1, a2, a3, a4, a5, a6⟩ => ?_, rfl⟩⟩
        first
          | exact h20 a2
          | exact g25 ⟨p3, a1, a3⟩
          | (have w := (nI_eq (by omega) (by omega)).mp (ep.symm.trans a3); subst w; first | exact a4 h33 | exact a5 g43 | exact a6 h59)
      · refine v_aload_n hC dX7_mayReview_36 rfl rfl ?_
        refine gf_7_1 hC ht (wf_213 hW ht) mw_2_30 dX7_mayReview_37 ?_
        refine v_iload_n hC dX7_mayReview_40 rfl rfl ?_
        refine v_aald 50 _ hC (wf_213 hW ht) (by decide) rfl (ix_c (wz_50 hW (wf_213 hW ht)) (by omega)) (we_50 hW (wf_213 hW ht) (by omega)) dX7_mayReview_41 ?_
        refine v_iload_n hC dX7_mayReview_42 rfl rfl ?_
        refine cVi1 hC (c_X5_isBarredFrom (we_50 hW (wf_213 hW ht) (by omega)) (hR.pe hp).2.1) yv_X5_isBarredFrom rfl (we_50 hW (wf_213 hW ht) (by omega)) mw_3_141 ⟨Nat.le_of_ble_eq_true rfl, Nat.le_of_ble_eq_true rfl⟩ ⟨Nat.le_of_ble_eq_true rfl, Nat.le_of_ble_eq_true rfl⟩ (Nat.le_of_ble_eq_true rfl) dX7_mayReview_43 (fun r43 M45 hq => ?_)
        obtain ⟨hm, hq2⟩ := hq
        have hm2 := hm.symm
        clear hm
        subst hm2
        obtain ⟨g43, rfl⟩ | ⟨g43, rfl⟩ := hq2
        · refine v_if_ne hC dX7_mayReview_46 (tgt := 66) (by decide) (fun _ => ?_) (fun hx => absurd hx (by decide))
          refine v_iconst (v := 0) hC dX7_mayReview_66 (by decide) ?_
          refine v_zret hC (Or.inl rfl) dX7_mayReview_67 ?_
          refine ⟨rfl, Or.inr ⟨fun ⟨p3, a1, a2, a3, a4, a5, a6⟩ => ?_, rfl⟩⟩
          first
            | exact h20 a2
            | exact g25 ⟨p3, a1, a3⟩
            | (have w := (nI_eq (by omega) (by omega)).mp (ep.symm.trans a3); subst w; first | exact a4 h33 | exact a5 g43 | exact a6 h59)
        · refine v_if_ne hC dX7_mayReview_46 (tgt := 66) (by decide) (fun hx => absurd hx (by decide)) (fun _ => ?_)
          refine v_aload_n hC dX7_mayReview_49 rfl rfl ?_
          refine gf_7_1 hC ht (wf_213 hW ht) mw_2_30 dX7_mayReview_50 ?_
          refine v_iload_n hC dX7_mayReview_53 rfl rfl ?_
          refine v_aald 50 _ hC (wf_213 hW ht) (by decide) rfl (ix_c (wz_50 hW (wf_213 hW ht)) (by omega)) (we_50 hW (wf_213 hW ht) (by omega)) dX7_mayReview_54 ?_
          refine gf_5_2 hC (we_50 hW (wf_213 hW ht) (by omega)) mw_1_108 dX7_mayReview_55 ?_
          rw [(hR.pe hp).2.2]
          refine v_iload_n hC dX7_mayReview_58 rfl rfl ?_
          refine v_icmp_eq hC dX7_mayReview_59 (tgt := 66) (by decide) (fun h59 => ?_) (fun h59 => ?_)
          · refine v_iconst (v := 0) hC dX7_mayReview_66 (by decide) ?_
            refine v_zret hC (Or.inl rfl) dX7_mayReview_67 ?_
            refine ⟨rfl, Or.inr ⟨fun ⟨p3, a1, a2, a3, a4, a5, a6⟩ => ?_, rfl⟩⟩
            first
              | exact h20 a2
              | exact g25 ⟨p3, a1, a3⟩
              | (have w := (nI_eq (by omega) (by omega)).mp (ep.symm.trans a3); subst w; first | exact a4 h33 | exact a5 g43 | exact a6 h59)
          · refine v_iconst (v := 1) hC dX7_mayReview_62 (by decide) ?_
            refine v_goto hC dX7_mayReview_63 (tgt := 67) (by decide) ?_
            refine v_zret hC (Or.inr rfl) dX7_mayReview_67 ?_
            exact ⟨rfl, Or.inl ⟨⟨p2, hp, h20, ep, h33, g43, h59⟩, rfl⟩⟩
    · refine v_if_eq hC dX7_mayReview_28 (tgt := 66) (by decide) (fun _ => ?_) (fun hx => absurd hx (by decide))
      refine v_iconst (v := 0) hC dX7_mayReview_66 (by decide) ?_
      refine v_zret hC (Or.inl rfl) dX7_mayReview_67 ?_
      refine ⟨rfl, Or.inr ⟨fun ⟨p3, a1, a2, a3, a4, a5, a6⟩ => ?_, rfl⟩⟩
      first
        | exact h20 a2
        | exact g25 ⟨p3, a1, a3⟩
        | (have w := (nI_eq (by omega) (by omega)).mp (ep.symm.trans a3); subst w; first | exact a4 h33 | exact a5 g43 | exact a6 h59)
