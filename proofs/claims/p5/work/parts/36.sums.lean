/-- a file is in hand -/
abbrev iH (u : Si) (f : Nat) : Prop := q_i u 4 f 0 = 0 ∨ q_i u 4 f 0 = 1 ∨ q_i u 4 f 0 = 2
/-- a file's words; its segments in a way; its cost; its segments alike to one -/
def w_f (u : Si) (f : Nat) : Int32 := sm (f_wc (q_g u 0 f)) (n_s u f)
def y_f (u : Si) (x : Int32) (f : Nat) : Int32 := sm (fun i => if q_i u 10 f i = x then 1 else 0) (n_s u f)
def k_f (u : Si) (f : Nat) : Int32 := if q_i u 4 f 0 = 3 then q_i u 7 f 0 + 2 * w_f u f else if q_i u 4 f 0 = 1 ∨ q_i u 4 f 0 = 2 then q_i u 7 f 0 else 0
def a_f (u : Si) (g : Sg) (f : Nat) : Int32 := sm (f_lk (q_g u 0 f) g) (n_s u f)
theorem CR.wy {M : Me} {S f : Nat} {u : Si} {x : Int32} (h : CR M S u) (hf : f < n_f u) : sm (f_wy M (pF M S f) x) (n_s u f) = y_f u x f := sm_congr fun i hi => by
  unfold f_wy
  rw [(h.ft hf hi).2]
def T_ih (u : Si) (f : Nat) : Int32 := if iH u f then 1 else 0
def T_wi (u : Si) (f : Nat) : Int32 := if iH u f then w_f u f else 0
def T_wd (u : Si) (f : Nat) : Int32 := if q_i u 4 f 0 = 3 then w_f u f else 0
def T_nt (u : Si) (f : Nat) : Int32 := if iH u f then y_f u 0 f else 0
def T_ct (u : Si) (x : Int32) (f : Nat) : Int32 := if (q_i u 4 f 0 = 1 ∨ q_i u 4 f 0 = 2) ∧ q_i u 5 f 0 = x then 1 else 0
def T_cr (u : Si) (x : Int32) (f : Nat) : Int32 := if q_i u 4 f 0 = 2 ∧ q_i u 6 f 0 = x then 1 else 0
def T_wt (u : Si) (x : Int32) (f : Nat) : Int32 := if q_i u 4 f 0 = 3 ∧ q_i u 5 f 0 = x then w_f u f else 0
def T_wr (u : Si) (x : Int32) (f : Nat) : Int32 := if q_i u 4 f 0 = 3 ∧ q_i u 6 f 0 = x then w_f u f else 0
def T_pd (u : Si) (f : Nat) : Int32 := if q_i u 4 f 0 = 3 then k_f u f else 0
def T_al (u : Si) (g : Sg) (f : Nat) : Int32 := if iH u f then a_f u g f else 0
set_option maxHeartbeats 4000000 in
set_option maxRecDepth 100000 in
theorem c_X7_wordsInHand {l : Launch} {G : Gd} {M : Me} {h : Nat} {u : Si} (hW : Wt M) (ht : m_t M h = 8) (hR : CR M h u) : CQ (Qi G (fun r M2 => r = sm (T_wi u) (n_f u) ∧ M2 = M)) l G yX7_wordsInHand cX7_wordsInHand 3 ((some .int)) 1 22 0 0 [.ref h] M := by
  refine c_of ([some (.ref h), none, none] : Lo) RX7 "wordsInHand" (by decide) rfl rfl (Nat.le_of_ble_eq_true rfl) rfl (fun p e s m below meth c hC nw => ?_)
  have hb : n_f u ≤ 8 := hR.2.1.1
  have hn : m_i M 216 h 0 = nI (n_f u) := hR.2.2.2.1.1
  have loop : ∀ (k i : Nat), i + k = 9 → i ≤ n_f u → V p l e (rmk 1 22 0 0) s m ([.ref h] : List Value).toArray below meth c 3 G (MQ below (Qi G (fun r M2 => r = sm (T_wi u) (n_f u) ∧ M2 = M)) ([.ref h] : List Value).toArray s 0 0 (fr_ G)) M 0 0 4 ([some (.ref h), some (.int (sm (T_wi u) i)), some (.int (nI i))] : Lo) [] := by
    intro k
    induction k with
    | zero => intro i e1 e2; omega
    | succ k ih =>
      intro i e1 e2
      refine v_iload_n hC dX7_wordsInHand_4 rfl rfl ?_
      refine v_aload_n hC dX7_wordsInHand_5 rfl rfl ?_
      refine gf_7_4 hC ht mw_2_36 dX7_wordsInHand_6 ?_
      rw [hn]
      refine v_icmp_ge hC dX7_wordsInHand_9 (tgt := 42) (by decide) (fun h9 => ?_) (fun h9 => ?_)
      · have hi := lp_ge h9
        refine v_iload_n hC dX7_wordsInHand_42 rfl rfl ?_
        refine v_iret hC dX7_wordsInHand_43 ?_
        have hie : i = n_f u := by omega
        subst hie
        exact ⟨rfl, rfl⟩
      · have hi := lp_lt h9
        refine v_aload_n hC dX7_wordsInHand_12 rfl rfl ?_
        refine gf_7_3 hC ht (wf_215 hW ht) mw_2_34 dX7_wordsInHand_13 ?_
        refine v_iload_n hC dX7_wordsInHand_16 rfl rfl ?_
        refine v_aald 51 _ hC (wf_215 hW ht) (by decide) rfl (ix_c (wz_51 hW (wf_215 hW ht)) (by omega)) (we_51 hW (wf_215 hW ht) (by omega)) dX7_wordsInHand_17 ?_
        refine cVi0 hC (c_X9_isInHand (we_51 hW (wf_215 hW ht) (by omega))) yv_X9_isInHand rfl (we_51 hW (wf_215 hW ht) (by omega)) mw_3_54 ⟨Nat.le_of_ble_eq_true rfl, Nat.le_of_ble_eq_true rfl⟩ ⟨Nat.le_of_ble_eq_true rfl, Nat.le_of_ble_eq_true rfl⟩ (Nat.le_of_ble_eq_true rfl) dX7_wordsInHand_18 (fun r18 M20 hq => ?_)
        obtain ⟨hm, hq2⟩ := hq
        have hm2 := hm.symm
        clear hm
        subst hm2
        obtain ⟨g18, rfl⟩ | ⟨g18, rfl⟩ := hq2
        · rw [(hR.f4 hi).1] at g18
          refine v_if_eq hC dX7_wordsInHand_21 (tgt := 36) (by decide) (fun hx => absurd hx (by decide)) (fun _ => ?_)
          refine v_iload_n hC dX7_wordsInHand_24 rfl rfl ?_
          refine v_aload_n hC dX7_wordsInHand_25 rfl rfl ?_
          refine gf_7_3 hC ht (wf_215 hW ht) mw_2_34 dX7_wordsInHand_26 ?_
          refine v_iload_n hC dX7_wordsInHand_29 rfl rfl ?_
          refine v_aald 51 _ hC (wf_215 hW ht) (by decide) rfl (ix_c (wz_51 hW (wf_215 hW ht)) (by omega)) (we_51 hW (wf_215 hW ht) (by omega)) dX7_wordsInHand_30 ?_
          refine cVi0 hC (c_X9_countWords hW (we_51 hW (wf_215 hW ht) (by omega)) (hR.fs hi)) yv_X9_countWords rfl (we_51 hW (wf_215 hW ht) (by omega)) mw_3_234 ⟨Nat.le_of_ble_eq_true rfl, Nat.le_of_ble_eq_true rfl⟩ ⟨Nat.le_of_ble_eq_true rfl, Nat.le_of_ble_eq_true rfl⟩ (Nat.le_of_ble_eq_true rfl) dX7_wordsInHand_31 (fun r31 M33 hq => ?_)
          obtain ⟨rfl, hm⟩ := hq
          have hm2 := hm.symm
          clear hm
          subst hm2
          refine v_iadd hC dX7_wordsInHand_34 ?_
          refine v_ist1 hC dX7_wordsInHand_35 (by decide) (kk := ?_)
          first | rw [show sm (T_wi u) i = sm (T_wi u) (i + 1) from by rw [sm_s, T_wi, if_neg g18, Int32.add_zero]] | rw [show sm (T_wi u) i + sm (f_wc (q_g u 0 i)) (n_s u i) = sm (T_wi u) (i + 1) from by rw [sm_s, T_wi, if_pos g18]; rfl]
          refine v_inc2 hC dX7_wordsInHand_36 ((nI_succ i).symm) (by decide) (kk := ?_)
          refine v_goto hC dX7_wordsInHand_39 (tgt := 4) (by decide) ?_
          exact ih (i + 1) (by omega) (by omega)
        · rw [(hR.f4 hi).1] at g18
          refine v_if_eq hC dX7_wordsInHand_21 (tgt := 36) (by decide) (fun _ => ?_) (fun hx => absurd hx (by decide))
          first | rw [show sm (T_wi u) i = sm (T_wi u) (i + 1) from by rw [sm_s, T_wi, if_neg g18, Int32.add_zero]] | rw [show sm (T_wi u) i + sm (f_wc (q_g u 0 i)) (n_s u i) = sm (T_wi u) (i + 1) from by rw [sm_s, T_wi, if_pos g18]; rfl]
          refine v_inc2 hC dX7_wordsInHand_36 ((nI_succ i).symm) (by decide) (kk := ?_)
          refine v_goto hC dX7_wordsInHand_39 (tgt := 4) (by decide) ?_
          exact ih (i + 1) (by omega) (by omega)
  refine v_iconst (v := 0) hC dX7_wordsInHand_0 (by decide) ?_
  refine v_ist1 hC dX7_wordsInHand_1 (by decide) (kk := ?_)
  refine v_iconst (v := 0) hC dX7_wordsInHand_2 (by decide) ?_
  refine v_ist2 hC dX7_wordsInHand_3 (by decide) (kk := ?_)
  exact loop 9 0 (by omega) (by omega)

set_option maxHeartbeats 4000000 in
set_option maxRecDepth 100000 in
theorem c_X7_wordsDelivered {l : Launch} {G : Gd} {M : Me} {h : Nat} {u : Si} (hW : Wt M) (ht : m_t M h = 8) (hR : CR M h u) : CQ (Qi G (fun r M2 => r = sm (T_wd u) (n_f u) ∧ M2 = M)) l G yX7_wordsDelivered cX7_wordsDelivered 3 ((some .int)) 1 22 0 0 [.ref h] M := by
  refine c_of ([some (.ref h), none, none] : Lo) RX7 "wordsDelivered" (by decide) rfl rfl (Nat.le_of_ble_eq_true rfl) rfl (fun p e s m below meth c hC nw => ?_)
  have hb : n_f u ≤ 8 := hR.2.1.1
  have hn : m_i M 216 h 0 = nI (n_f u) := hR.2.2.2.1.1
  have loop : ∀ (k i : Nat), i + k = 9 → i ≤ n_f u → V p l e (rmk 1 22 0 0) s m ([.ref h] : List Value).toArray below meth c 3 G (MQ below (Qi G (fun r M2 => r = sm (T_wd u) (n_f u) ∧ M2 = M)) ([.ref h] : List Value).toArray s 0 0 (fr_ G)) M 0 0 4 ([some (.ref h), some (.int (sm (T_wd u) i)), some (.int (nI i))] : Lo) [] := by
    intro k
    induction k with
    | zero => intro i e1 e2; omega
    | succ k ih =>
      intro i e1 e2
      refine v_iload_n hC dX7_wordsDelivered_4 rfl rfl ?_
      refine v_aload_n hC dX7_wordsDelivered_5 rfl rfl ?_
      refine gf_7_4 hC ht mw_2_36 dX7_wordsDelivered_6 ?_
      rw [hn]
      refine v_icmp_ge hC dX7_wordsDelivered_9 (tgt := 43) (by decide) (fun h9 => ?_) (fun h9 => ?_)
      · have hi := lp_ge h9
        refine v_iload_n hC dX7_wordsDelivered_43 rfl rfl ?_
        refine v_iret hC dX7_wordsDelivered_44 ?_
        have hie : i = n_f u := by omega
        subst hie
        exact ⟨rfl, rfl⟩
      · have hi := lp_lt h9
        refine v_aload_n hC dX7_wordsDelivered_12 rfl rfl ?_
        refine gf_7_3 hC ht (wf_215 hW ht) mw_2_34 dX7_wordsDelivered_13 ?_
        refine v_iload_n hC dX7_wordsDelivered_16 rfl rfl ?_
        refine v_aald 51 _ hC (wf_215 hW ht) (by decide) rfl (ix_c (wz_51 hW (wf_215 hW ht)) (by omega)) (we_51 hW (wf_215 hW ht) (by omega)) dX7_wordsDelivered_17 ?_
        refine gf_9_0 hC (we_51 hW (wf_215 hW ht) (by omega)) mw_1_132 dX7_wordsDelivered_18 ?_
        rw [(hR.f4 hi).1]
        refine v_iconst (v := 3) hC dX7_wordsDelivered_21 (by decide) ?_
        refine v_icmp_ne hC dX7_wordsDelivered_22 (tgt := 37) (by decide) (fun h22 => ?_) (fun h22 => ?_)
        · first | rw [show sm (T_wd u) i = sm (T_wd u) (i + 1) from by rw [sm_s, T_wd, if_neg h22, Int32.add_zero]] | rw [show sm (T_wd u) i + sm (f_wc (q_g u 0 i)) (n_s u i) = sm (T_wd u) (i + 1) from by rw [sm_s, T_wd, if_pos h22]; rfl]
          refine v_inc2 hC dX7_wordsDelivered_37 ((nI_succ i).symm) (by decide) (kk := ?_)
          refine v_goto hC dX7_wordsDelivered_40 (tgt := 4) (by decide) ?_
          exact ih (i + 1) (by omega) (by omega)
        · refine v_iload_n hC dX7_wordsDelivered_25 rfl rfl ?_
          refine v_aload_n hC dX7_wordsDelivered_26 rfl rfl ?_
          refine gf_7_3 hC ht (wf_215 hW ht) mw_2_34 dX7_wordsDelivered_27 ?_
          refine v_iload_n hC dX7_wordsDelivered_30 rfl rfl ?_
          refine v_aald 51 _ hC (wf_215 hW ht) (by decide) rfl (ix_c (wz_51 hW (wf_215 hW ht)) (by omega)) (we_51 hW (wf_215 hW ht) (by omega)) dX7_wordsDelivered_31 ?_
          refine cVi0 hC (c_X9_countWords hW (we_51 hW (wf_215 hW ht) (by omega)) (hR.fs hi)) yv_X9_countWords rfl (we_51 hW (wf_215 hW ht) (by omega)) mw_3_234 ⟨Nat.le_of_ble_eq_true rfl, Nat.le_of_ble_eq_true rfl⟩ ⟨Nat.le_of_ble_eq_true rfl, Nat.le_of_ble_eq_true rfl⟩ (Nat.le_of_ble_eq_true rfl) dX7_wordsDelivered_32 (fun r32 M34 hq => ?_)
          obtain ⟨rfl, hm⟩ := hq
          have hm2 := hm.symm
          clear hm
          subst hm2
          refine v_iadd hC dX7_wordsDelivered_35 ?_
          refine v_ist1 hC dX7_wordsDelivered_36 (by decide) (kk := ?_)
          first | rw [show sm (T_wd u) i = sm (T_wd u) (i + 1) from by rw [sm_s, T_wd, if_neg h22, Int32.add_zero]] | rw [show sm (T_wd u) i + sm (f_wc (q_g u 0 i)) (n_s u i) = sm (T_wd u) (i + 1) from by rw [sm_s, T_wd, if_pos h22]; rfl]
          refine v_inc2 hC dX7_wordsDelivered_37 ((nI_succ i).symm) (by decide) (kk := ?_)
          refine v_goto hC dX7_wordsDelivered_40 (tgt := 4) (by decide) ?_
          exact ih (i + 1) (by omega) (by omega)
  refine v_iconst (v := 0) hC dX7_wordsDelivered_0 (by decide) ?_
  refine v_ist1 hC dX7_wordsDelivered_1 (by decide) (kk := ?_)
  refine v_iconst (v := 0) hC dX7_wordsDelivered_2 (by decide) ?_
  refine v_ist2 hC dX7_wordsDelivered_3 (by decide) (kk := ?_)
  exact loop 9 0 (by omega) (by omega)

set_option maxHeartbeats 4000000 in
set_option maxRecDepth 100000 in
theorem c_X7_countInHandWithoutTarget {l : Launch} {G : Gd} {M : Me} {h : Nat} {u : Si} (hW : Wt M) (ht : m_t M h = 8) (hR : CR M h u) : CQ (Qi G (fun r M2 => r = sm (T_nt u) (n_f u) ∧ M2 = M)) l G yX7_countInHandWithoutTarget cX7_countInHandWithoutTarget 3 ((some .int)) 2 43 0 0 [.ref h] M := by
  refine c_of ([some (.ref h), none, none] : Lo) RX7 "countInHandWithoutTarget" (by decide) rfl rfl (Nat.le_of_ble_eq_true rfl) rfl (fun p e s m below meth c hC nw => ?_)
  have hb : n_f u ≤ 8 := hR.2.1.1
  have hn : m_i M 216 h 0 = nI (n_f u) := hR.2.2.2.1.1
  have loop : ∀ (k i : Nat), i + k = 9 → i ≤ n_f u → V p l e (rmk 2 43 0 0) s m ([.ref h] : List Value).toArray below meth c 3 G (MQ below (Qi G (fun r M2 => r = sm (T_nt u) (n_f u) ∧ M2 = M)) ([.ref h] : List Value).toArray s 0 0 (fr_ G)) M 0 0 4 ([some (.ref h), some (.int (sm (T_nt u) i)), some (.int (nI i))] : Lo) [] := by
    intro k
    induction k with
    | zero => intro i e1 e2; omega
    | succ k ih =>
      intro i e1 e2
      refine v_iload_n hC dX7_countInHandWithoutTarget_4 rfl rfl ?_
      refine v_aload_n hC dX7_countInHandWithoutTarget_5 rfl rfl ?_
      refine gf_7_4 hC ht mw_2_36 dX7_countInHandWithoutTarget_6 ?_
      rw [hn]
      refine v_icmp_ge hC dX7_countInHandWithoutTarget_9 (tgt := 42) (by decide) (fun h9 => ?_) (fun h9 => ?_)
      · have hi := lp_ge h9
        refine v_iload_n hC dX7_countInHandWithoutTarget_42 rfl rfl ?_
        refine v_iret hC dX7_countInHandWithoutTarget_43 ?_
        have hie : i = n_f u := by omega
        subst hie
        exact ⟨rfl, rfl⟩
      · have hi := lp_lt h9
        refine v_aload_n hC dX7_countInHandWithoutTarget_12 rfl rfl ?_
        refine gf_7_3 hC ht (wf_215 hW ht) mw_2_34 dX7_countInHandWithoutTarget_13 ?_
        refine v_iload_n hC dX7_countInHandWithoutTarget_16 rfl rfl ?_
        refine v_aald 51 _ hC (wf_215 hW ht) (by decide) rfl (ix_c (wz_51 hW (wf_215 hW ht)) (by omega)) (we_51 hW (wf_215 hW ht) (by omega)) dX7_countInHandWithoutTarget_17 ?_
        refine cVi0 hC (c_X9_isInHand (we_51 hW (wf_215 hW ht) (by omega))) yv_X9_isInHand rfl (we_51 hW (wf_215 hW ht) (by omega)) mw_3_54 ⟨Nat.le_of_ble_eq_true rfl, Nat.le_of_ble_eq_true rfl⟩ ⟨Nat.le_of_ble_eq_true rfl, Nat.le_of_ble_eq_true rfl⟩ (Nat.le_of_ble_eq_true rfl) dX7_countInHandWithoutTarget_18 (fun r18 M20 hq => ?_)
        obtain ⟨hm, hq2⟩ := hq
        have hm2 := hm.symm
        clear hm
        subst hm2
        obtain ⟨g18, rfl⟩ | ⟨g18, rfl⟩ := hq2
        · rw [(hR.f4 hi).1] at g18
          refine v_if_eq hC dX7_countInHandWithoutTarget_21 (tgt := 36) (by decide) (fun hx => absurd hx (by decide)) (fun _ => ?_)
          refine v_iload_n hC dX7_countInHandWithoutTarget_24 rfl rfl ?_
          refine v_aload_n hC dX7_countInHandWithoutTarget_25 rfl rfl ?_
          refine gf_7_3 hC ht (wf_215 hW ht) mw_2_34 dX7_countInHandWithoutTarget_26 ?_
          refine v_iload_n hC dX7_countInHandWithoutTarget_29 rfl rfl ?_
          refine v_aald 51 _ hC (wf_215 hW ht) (by decide) rfl (ix_c (wz_51 hW (wf_215 hW ht)) (by omega)) (we_51 hW (wf_215 hW ht) (by omega)) dX7_countInHandWithoutTarget_30 ?_
          refine cVi0 hC (c_X9_countWithoutTarget hW (we_51 hW (wf_215 hW ht) (by omega)) (hR.fs hi)) yv_X9_countWithoutTarget rfl (we_51 hW (wf_215 hW ht) (by omega)) mw_4_102 ⟨Nat.le_of_ble_eq_true rfl, Nat.le_of_ble_eq_true rfl⟩ ⟨Nat.le_of_ble_eq_true rfl, Nat.le_of_ble_eq_true rfl⟩ (Nat.le_of_ble_eq_true rfl) dX7_countInHandWithoutTarget_31 (fun r31 M33 hq => ?_)
          obtain ⟨rfl, hm⟩ := hq
          have hm2 := hm.symm
          clear hm
          subst hm2
          refine v_iadd hC dX7_countInHandWithoutTarget_34 ?_
          refine v_ist1 hC dX7_countInHandWithoutTarget_35 (by decide) (kk := ?_)
          first | rw [show sm (T_nt u) i = sm (T_nt u) (i + 1) from by rw [sm_s, T_nt, if_neg g18, Int32.add_zero]] | rw [show sm (T_nt u) i + sm (f_wy M (pF M h i) 0) (n_s u i) = sm (T_nt u) (i + 1) from by rw [sm_s, T_nt, if_pos g18]; rw [hR.wy hi]]
          refine v_inc2 hC dX7_countInHandWithoutTarget_36 ((nI_succ i).symm) (by decide) (kk := ?_)
          refine v_goto hC dX7_countInHandWithoutTarget_39 (tgt := 4) (by decide) ?_
          exact ih (i + 1) (by omega) (by omega)
        · rw [(hR.f4 hi).1] at g18
          refine v_if_eq hC dX7_countInHandWithoutTarget_21 (tgt := 36) (by decide) (fun _ => ?_) (fun hx => absurd hx (by decide))
          first | rw [show sm (T_nt u) i = sm (T_nt u) (i + 1) from by rw [sm_s, T_nt, if_neg g18, Int32.add_zero]] | rw [show sm (T_nt u) i + sm (f_wy M (pF M h i) 0) (n_s u i) = sm (T_nt u) (i + 1) from by rw [sm_s, T_nt, if_pos g18]; rw [hR.wy hi]]
          refine v_inc2 hC dX7_countInHandWithoutTarget_36 ((nI_succ i).symm) (by decide) (kk := ?_)
          refine v_goto hC dX7_countInHandWithoutTarget_39 (tgt := 4) (by decide) ?_
          exact ih (i + 1) (by omega) (by omega)
  refine v_iconst (v := 0) hC dX7_countInHandWithoutTarget_0 (by decide) ?_
  refine v_ist1 hC dX7_countInHandWithoutTarget_1 (by decide) (kk := ?_)
  refine v_iconst (v := 0) hC dX7_countInHandWithoutTarget_2 (by decide) ?_
  refine v_ist2 hC dX7_countInHandWithoutTarget_3 (by decide) (kk := ?_)
  exact loop 9 0 (by omega) (by omega)

set_option maxHeartbeats 4000000 in
set_option maxRecDepth 100000 in
theorem c_X7_wordsTranslated {l : Launch} {G : Gd} {M : Me} {h : Nat} {u : Si} {x : Int32} (hW : Wt M) (ht : m_t M h = 8) (hR : CR M h u) : CQ (Qi G (fun r M2 => r = sm (T_wt u x) (n_f u) ∧ M2 = M)) l G yX7_wordsTranslated cX7_wordsTranslated 4 ((some .int)) 1 22 0 0 [.ref h, .int x] M := by
  refine c_of ([some (.ref h), some (.int x), none, none] : Lo) RX7 "wordsTranslated" (by decide) rfl rfl (Nat.le_of_ble_eq_true rfl) rfl (fun p e s m below meth c hC nw => ?_)
  have hb : n_f u ≤ 8 := hR.2.1.1
  have hn : m_i M 216 h 0 = nI (n_f u) := hR.2.2.2.1.1
  have loop : ∀ (k i : Nat), i + k = 9 → i ≤ n_f u → V p l e (rmk 1 22 0 0) s m ([.ref h, .int x] : List Value).toArray below meth c 4 G (MQ below (Qi G (fun r M2 => r = sm (T_wt u x) (n_f u) ∧ M2 = M)) ([.ref h, .int x] : List Value).toArray s 0 0 (fr_ G)) M 0 0 4 ([some (.ref h), some (.int x), some (.int (sm (T_wt u x) i)), some (.int (nI i))] : Lo) [] := by
    intro k
    induction k with
    | zero => intro i e1 e2; omega
    | succ k ih =>
      intro i e1 e2
      refine v_iload_n hC dX7_wordsTranslated_4 rfl rfl ?_
      refine v_aload_n hC dX7_wordsTranslated_5 rfl rfl ?_
      refine gf_7_4 hC ht mw_2_36 dX7_wordsTranslated_6 ?_
      rw [hn]
      refine v_icmp_ge hC dX7_wordsTranslated_9 (tgt := 56) (by decide) (fun h9 => ?_) (fun h9 => ?_)
      · have hi := lp_ge h9
        refine v_iload_n hC dX7_wordsTranslated_56 rfl rfl ?_
        refine v_iret hC dX7_wordsTranslated_57 ?_
        have hie : i = n_f u := by omega
        subst hie
        exact ⟨rfl, rfl⟩
      · have hi := lp_lt h9
        refine v_aload_n hC dX7_wordsTranslated_12 rfl rfl ?_
        refine gf_7_3 hC ht (wf_215 hW ht) mw_2_34 dX7_wordsTranslated_13 ?_
        refine v_iload_n hC dX7_wordsTranslated_16 rfl rfl ?_
        refine v_aald 51 _ hC (wf_215 hW ht) (by decide) rfl (ix_c (wz_51 hW (wf_215 hW ht)) (by omega)) (we_51 hW (wf_215 hW ht) (by omega)) dX7_wordsTranslated_17 ?_
        refine gf_9_0 hC (we_51 hW (wf_215 hW ht) (by omega)) mw_1_132 dX7_wordsTranslated_18 ?_
        rw [(hR.f4 hi).1]
        refine v_iconst (v := 3) hC dX7_wordsTranslated_21 (by decide) ?_
        refine v_icmp_ne hC dX7_wordsTranslated_22 (tgt := 50) (by decide) (fun h22 => ?_) (fun h22 => ?_)
        · first | rw [show sm (T_wt u x) i = sm (T_wt u x) (i + 1) from by rw [sm_s, T_wt, if_neg (fun q => h22 q.1), Int32.add_zero]] | rw [show sm (T_wt u x) i = sm (T_wt u x) (i + 1) from by rw [sm_s, T_wt, if_neg (fun q => g32 q.2), Int32.add_zero]] | rw [show sm (T_wt u x) i + sm (f_wc (q_g u 0 i)) (n_s u i) = sm (T_wt u x) (i + 1) from by rw [sm_s, T_wt, if_pos ⟨h22, g32⟩]; rfl]
          refine v_inc3 hC dX7_wordsTranslated_50 ((nI_succ i).symm) (by decide) (kk := ?_)
          refine v_goto hC dX7_wordsTranslated_53 (tgt := 4) (by decide) ?_
          exact ih (i + 1) (by omega) (by omega)
        · refine v_aload_n hC dX7_wordsTranslated_25 rfl rfl ?_
          refine gf_7_3 hC ht (wf_215 hW ht) mw_2_34 dX7_wordsTranslated_26 ?_
          refine v_iload_n hC dX7_wordsTranslated_29 rfl rfl ?_
          refine v_aald 51 _ hC (wf_215 hW ht) (by decide) rfl (ix_c (wz_51 hW (wf_215 hW ht)) (by omega)) (we_51 hW (wf_215 hW ht) (by omega)) dX7_wordsTranslated_30 ?_
          refine v_iload_n hC dX7_wordsTranslated_31 rfl rfl ?_
          refine cVi1 hC (c_X9_isTranslatedBy (we_51 hW (wf_215 hW ht) (by omega))) yv_X9_isTranslatedBy rfl (we_51 hW (wf_215 hW ht) (by omega)) mw_3_218 ⟨Nat.le_of_ble_eq_true rfl, Nat.le_of_ble_eq_true rfl⟩ ⟨Nat.le_of_ble_eq_true rfl, Nat.le_of_ble_eq_true rfl⟩ (Nat.le_of_ble_eq_true rfl) dX7_wordsTranslated_32 (fun r32 M34 hq => ?_)
          obtain ⟨hm, hq2⟩ := hq
          have hm2 := hm.symm
          clear hm
          subst hm2
          obtain ⟨g32, rfl⟩ | ⟨g32, rfl⟩ := hq2
          · rw [(hR.f4 hi).2.1] at g32
            refine v_if_eq hC dX7_wordsTranslated_35 (tgt := 50) (by decide) (fun hx => absurd hx (by decide)) (fun _ => ?_)
            refine v_iload_n hC dX7_wordsTranslated_38 rfl rfl ?_
            refine v_aload_n hC dX7_wordsTranslated_39 rfl rfl ?_
            refine gf_7_3 hC ht (wf_215 hW ht) mw_2_34 dX7_wordsTranslated_40 ?_
            refine v_iload_n hC dX7_wordsTranslated_43 rfl rfl ?_
            refine v_aald 51 _ hC (wf_215 hW ht) (by decide) rfl (ix_c (wz_51 hW (wf_215 hW ht)) (by omega)) (we_51 hW (wf_215 hW ht) (by omega)) dX7_wordsTranslated_44 ?_
            refine cVi0 hC (c_X9_countWords hW (we_51 hW (wf_215 hW ht) (by omega)) (hR.fs hi)) yv_X9_countWords rfl (we_51 hW (wf_215 hW ht) (by omega)) mw_3_234 ⟨Nat.le_of_ble_eq_true rfl, Nat.le_of_ble_eq_true rfl⟩ ⟨Nat.le_of_ble_eq_true rfl, Nat.le_of_ble_eq_true rfl⟩ (Nat.le_of_ble_eq_true rfl) dX7_wordsTranslated_45 (fun r45 M47 hq => ?_)
            obtain ⟨rfl, hm⟩ := hq
            have hm2 := hm.symm
            clear hm
            subst hm2
            refine v_iadd hC dX7_wordsTranslated_48 ?_
            refine v_ist2 hC dX7_wordsTranslated_49 (by decide) (kk := ?_)
            first | rw [show sm (T_wt u x) i = sm (T_wt u x) (i + 1) from by rw [sm_s, T_wt, if_neg (fun q => h22 q.1), Int32.add_zero]] | rw [show sm (T_wt u x) i = sm (T_wt u x) (i + 1) from by rw [sm_s, T_wt, if_neg (fun q => g32 q.2), Int32.add_zero]] | rw [show sm (T_wt u x) i + sm (f_wc (q_g u 0 i)) (n_s u i) = sm (T_wt u x) (i + 1) from by rw [sm_s, T_wt, if_pos ⟨h22, g32⟩]; rfl]
            refine v_inc3 hC dX7_wordsTranslated_50 ((nI_succ i).symm) (by decide) (kk := ?_)
            refine v_goto hC dX7_wordsTranslated_53 (tgt := 4) (by decide) ?_
            exact ih (i + 1) (by omega) (by omega)
          · rw [(hR.f4 hi).2.1] at g32
            refine v_if_eq hC dX7_wordsTranslated_35 (tgt := 50) (by decide) (fun _ => ?_) (fun hx => absurd hx (by decide))
            first | rw [show sm (T_wt u x) i = sm (T_wt u x) (i + 1) from by rw [sm_s, T_wt, if_neg (fun q => h22 q.1), Int32.add_zero]] | rw [show sm (T_wt u x) i = sm (T_wt u x) (i + 1) from by rw [sm_s, T_wt, if_neg (fun q => g32 q.2), Int32.add_zero]] | rw [show sm (T_wt u x) i + sm (f_wc (q_g u 0 i)) (n_s u i) = sm (T_wt u x) (i + 1) from by rw [sm_s, T_wt, if_pos ⟨h22, g32⟩]; rfl]
            refine v_inc3 hC dX7_wordsTranslated_50 ((nI_succ i).symm) (by decide) (kk := ?_)
            refine v_goto hC dX7_wordsTranslated_53 (tgt := 4) (by decide) ?_
            exact ih (i + 1) (by omega) (by omega)
  refine v_iconst (v := 0) hC dX7_wordsTranslated_0 (by decide) ?_
  refine v_ist2 hC dX7_wordsTranslated_1 (by decide) (kk := ?_)
  refine v_iconst (v := 0) hC dX7_wordsTranslated_2 (by decide) ?_
  refine v_ist3 hC dX7_wordsTranslated_3 (by decide) (kk := ?_)
  exact loop 9 0 (by omega) (by omega)

set_option maxHeartbeats 4000000 in
set_option maxRecDepth 100000 in
theorem c_X7_wordsReviewed {l : Launch} {G : Gd} {M : Me} {h : Nat} {u : Si} {x : Int32} (hW : Wt M) (ht : m_t M h = 8) (hR : CR M h u) : CQ (Qi G (fun r M2 => r = sm (T_wr u x) (n_f u) ∧ M2 = M)) l G yX7_wordsReviewed cX7_wordsReviewed 4 ((some .int)) 1 22 0 0 [.ref h, .int x] M := by
  refine c_of ([some (.ref h), some (.int x), none, none] : Lo) RX7 "wordsReviewed" (by decide) rfl rfl (Nat.le_of_ble_eq_true rfl) rfl (fun p e s m below meth c hC nw => ?_)
  have hb : n_f u ≤ 8 := hR.2.1.1
  have hn : m_i M 216 h 0 = nI (n_f u) := hR.2.2.2.1.1
  have loop : ∀ (k i : Nat), i + k = 9 → i ≤ n_f u → V p l e (rmk 1 22 0 0) s m ([.ref h, .int x] : List Value).toArray below meth c 4 G (MQ below (Qi G (fun r M2 => r = sm (T_wr u x) (n_f u) ∧ M2 = M)) ([.ref h, .int x] : List Value).toArray s 0 0 (fr_ G)) M 0 0 4 ([some (.ref h), some (.int x), some (.int (sm (T_wr u x) i)), some (.int (nI i))] : Lo) [] := by
    intro k
    induction k with
    | zero => intro i e1 e2; omega
    | succ k ih =>
      intro i e1 e2
      refine v_iload_n hC dX7_wordsReviewed_4 rfl rfl ?_
      refine v_aload_n hC dX7_wordsReviewed_5 rfl rfl ?_
      refine gf_7_4 hC ht mw_2_36 dX7_wordsReviewed_6 ?_
      rw [hn]
      refine v_icmp_ge hC dX7_wordsReviewed_9 (tgt := 56) (by decide) (fun h9 => ?_) (fun h9 => ?_)
      · have hi := lp_ge h9
        refine v_iload_n hC dX7_wordsReviewed_56 rfl rfl ?_
        refine v_iret hC dX7_wordsReviewed_57 ?_
        have hie : i = n_f u := by omega
        subst hie
        exact ⟨rfl, rfl⟩
      · have hi := lp_lt h9
        refine v_aload_n hC dX7_wordsReviewed_12 rfl rfl ?_
        refine gf_7_3 hC ht (wf_215 hW ht) mw_2_34 dX7_wordsReviewed_13 ?_
        refine v_iload_n hC dX7_wordsReviewed_16 rfl rfl ?_
        refine v_aald 51 _ hC (wf_215 hW ht) (by decide) rfl (ix_c (wz_51 hW (wf_215 hW ht)) (by omega)) (we_51 hW (wf_215 hW ht) (by omega)) dX7_wordsReviewed_17 ?_
        refine gf_9_0 hC (we_51 hW (wf_215 hW ht) (by omega)) mw_1_132 dX7_wordsReviewed_18 ?_
        rw [(hR.f4 hi).1]
        refine v_iconst (v := 3) hC dX7_wordsReviewed_21 (by decide) ?_
        refine v_icmp_ne hC dX7_wordsReviewed_22 (tgt := 50) (by decide) (fun h22 => ?_) (fun h22 => ?_)
        · first | rw [show sm (T_wr u x) i = sm (T_wr u x) (i + 1) from by rw [sm_s, T_wr, if_neg (fun q => h22 q.1), Int32.add_zero]] | rw [show sm (T_wr u x) i = sm (T_wr u x) (i + 1) from by rw [sm_s, T_wr, if_neg (fun q => g32 q.2), Int32.add_zero]] | rw [show sm (T_wr u x) i + sm (f_wc (q_g u 0 i)) (n_s u i) = sm (T_wr u x) (i + 1) from by rw [sm_s, T_wr, if_pos ⟨h22, g32⟩]; rfl]
          refine v_inc3 hC dX7_wordsReviewed_50 ((nI_succ i).symm) (by decide) (kk := ?_)
          refine v_goto hC dX7_wordsReviewed_53 (tgt := 4) (by decide) ?_
          exact ih (i + 1) (by omega) (by omega)
        · refine v_aload_n hC dX7_wordsReviewed_25 rfl rfl ?_
          refine gf_7_3 hC ht (wf_215 hW ht) mw_2_34 dX7_wordsReviewed_26 ?_
          refine v_iload_n hC dX7_wordsReviewed_29 rfl rfl ?_
          refine v_aald 51 _ hC (wf_215 hW ht) (by decide) rfl (ix_c (wz_51 hW (wf_215 hW ht)) (by omega)) (we_51 hW (wf_215 hW ht) (by omega)) dX7_wordsReviewed_30 ?_
          refine v_iload_n hC dX7_wordsReviewed_31 rfl rfl ?_
          refine cVi1 hC (c_X9_isReviewedBy (we_51 hW (wf_215 hW ht) (by omega))) yv_X9_isReviewedBy rfl (we_51 hW (wf_215 hW ht) (by omega)) mw_3_226 ⟨Nat.le_of_ble_eq_true rfl, Nat.le_of_ble_eq_true rfl⟩ ⟨Nat.le_of_ble_eq_true rfl, Nat.le_of_ble_eq_true rfl⟩ (Nat.le_of_ble_eq_true rfl) dX7_wordsReviewed_32 (fun r32 M34 hq => ?_)
          obtain ⟨hm, hq2⟩ := hq
          have hm2 := hm.symm
          clear hm
          subst hm2
          obtain ⟨g32, rfl⟩ | ⟨g32, rfl⟩ := hq2
          · rw [(hR.f4 hi).2.2.1] at g32
            refine v_if_eq hC dX7_wordsReviewed_35 (tgt := 50) (by decide) (fun hx => absurd hx (by decide)) (fun _ => ?_)
            refine v_iload_n hC dX7_wordsReviewed_38 rfl rfl ?_
            refine v_aload_n hC dX7_wordsReviewed_39 rfl rfl ?_
            refine gf_7_3 hC ht (wf_215 hW ht) mw_2_34 dX7_wordsReviewed_40 ?_
            refine v_iload_n hC dX7_wordsReviewed_43 rfl rfl ?_
            refine v_aald 51 _ hC (wf_215 hW ht) (by decide) rfl (ix_c (wz_51 hW (wf_215 hW ht)) (by omega)) (we_51 hW (wf_215 hW ht) (by omega)) dX7_wordsReviewed_44 ?_
            refine cVi0 hC (c_X9_countWords hW (we_51 hW (wf_215 hW ht) (by omega)) (hR.fs hi)) yv_X9_countWords rfl (we_51 hW (wf_215 hW ht) (by omega)) mw_3_234 ⟨Nat.le_of_ble_eq_true rfl, Nat.le_of_ble_eq_true rfl⟩ ⟨Nat.le_of_ble_eq_true rfl, Nat.le_of_ble_eq_true rfl⟩ (Nat.le_of_ble_eq_true rfl) dX7_wordsReviewed_45 (fun r45 M47 hq => ?_)
            obtain ⟨rfl, hm⟩ := hq
            have hm2 := hm.symm
            clear hm
            subst hm2
            refine v_iadd hC dX7_wordsReviewed_48 ?_
            refine v_ist2 hC dX7_wordsReviewed_49 (by decide) (kk := ?_)
            first | rw [show sm (T_wr u x) i = sm (T_wr u x) (i + 1) from by rw [sm_s, T_wr, if_neg (fun q => h22 q.1), Int32.add_zero]] | rw [show sm (T_wr u x) i = sm (T_wr u x) (i + 1) from by rw [sm_s, T_wr, if_neg (fun q => g32 q.2), Int32.add_zero]] | rw [show sm (T_wr u x) i + sm (f_wc (q_g u 0 i)) (n_s u i) = sm (T_wr u x) (i + 1) from by rw [sm_s, T_wr, if_pos ⟨h22, g32⟩]; rfl]
            refine v_inc3 hC dX7_wordsReviewed_50 ((nI_succ i).symm) (by decide) (kk := ?_)
            refine v_goto hC dX7_wordsReviewed_53 (tgt := 4) (by decide) ?_
            exact ih (i + 1) (by omega) (by omega)
          · rw [(hR.f4 hi).2.2.1] at g32
            refine v_if_eq hC dX7_wordsReviewed_35 (tgt := 50) (by decide) (fun _ => ?_) (fun hx => absurd hx (by decide))
            first | rw [show sm (T_wr u x) i = sm (T_wr u x) (i + 1) from by rw [sm_s, T_wr, if_neg (fun q => h22 q.1), Int32.add_zero]] | rw [show sm (T_wr u x) i = sm (T_wr u x) (i + 1) from by rw [sm_s, T_wr, if_neg (fun q => g32 q.2), Int32.add_zero]] | rw [show sm (T_wr u x) i + sm (f_wc (q_g u 0 i)) (n_s u i) = sm (T_wr u x) (i + 1) from by rw [sm_s, T_wr, if_pos ⟨h22, g32⟩]; rfl]
            refine v_inc3 hC dX7_wordsReviewed_50 ((nI_succ i).symm) (by decide) (kk := ?_)
            refine v_goto hC dX7_wordsReviewed_53 (tgt := 4) (by decide) ?_
            exact ih (i + 1) (by omega) (by omega)
  refine v_iconst (v := 0) hC dX7_wordsReviewed_0 (by decide) ?_
  refine v_ist2 hC dX7_wordsReviewed_1 (by decide) (kk := ?_)
  refine v_iconst (v := 0) hC dX7_wordsReviewed_2 (by decide) ?_
  refine v_ist3 hC dX7_wordsReviewed_3 (by decide) (kk := ?_)
  exact loop 9 0 (by omega) (by omega)

set_option maxHeartbeats 4000000 in
set_option maxRecDepth 100000 in
theorem c_X7_countAlikeInHand {l : Launch} {G : Gd} {M : Me} {h : Nat} {u : Si} {g0 : Nat} {g : Sg} (hW : Wt M) (ht : m_t M h = 8) (hR : CR M h u) (hg : SgR M g0 g) : CQ (Qi G (fun r M2 => r = sm (T_al u g) (n_f u) ∧ M2 = M)) l G yX7_countAlikeInHand cX7_countAlikeInHand 4 ((some .int)) 2 45 0 0 [.ref h, .ref g0] M := by
  refine c_of ([some (.ref h), some (.ref g0), none, none] : Lo) RX7 "countAlikeInHand" (by decide) rfl rfl (Nat.le_of_ble_eq_true rfl) rfl (fun p e s m below meth c hC nw => ?_)
  have hb : n_f u ≤ 8 := hR.2.1.1
  have hn : m_i M 216 h 0 = nI (n_f u) := hR.2.2.2.1.1
  have loop : ∀ (k i : Nat), i + k = 9 → i ≤ n_f u → V p l e (rmk 2 45 0 0) s m ([.ref h, .ref g0] : List Value).toArray below meth c 4 G (MQ below (Qi G (fun r M2 => r = sm (T_al u g) (n_f u) ∧ M2 = M)) ([.ref h, .ref g0] : List Value).toArray s 0 0 (fr_ G)) M 0 0 4 ([some (.ref h), some (.ref g0), some (.int (sm (T_al u g) i)), some (.int (nI i))] : Lo) [] := by
    intro k
    induction k with
    | zero => intro i e1 e2; omega
    | succ k ih =>
      intro i e1 e2
      refine v_iload_n hC dX7_countAlikeInHand_4 rfl rfl ?_
      refine v_aload_n hC dX7_countAlikeInHand_5 rfl rfl ?_
      refine gf_7_4 hC ht mw_2_36 dX7_countAlikeInHand_6 ?_
      rw [hn]
      refine v_icmp_ge hC dX7_countAlikeInHand_9 (tgt := 43) (by decide) (fun h9 => ?_) (fun h9 => ?_)
      · have hi := lp_ge h9
        refine v_iload_n hC dX7_countAlikeInHand_43 rfl rfl ?_
        refine v_iret hC dX7_countAlikeInHand_44 ?_
        have hie : i = n_f u := by omega
        subst hie
        exact ⟨rfl, rfl⟩
      · have hi := lp_lt h9
        refine v_aload_n hC dX7_countAlikeInHand_12 rfl rfl ?_
        refine gf_7_3 hC ht (wf_215 hW ht) mw_2_34 dX7_countAlikeInHand_13 ?_
        refine v_iload_n hC dX7_countAlikeInHand_16 rfl rfl ?_
        refine v_aald 51 _ hC (wf_215 hW ht) (by decide) rfl (ix_c (wz_51 hW (wf_215 hW ht)) (by omega)) (we_51 hW (wf_215 hW ht) (by omega)) dX7_countAlikeInHand_17 ?_
        refine cVi0 hC (c_X9_isInHand (we_51 hW (wf_215 hW ht) (by omega))) yv_X9_isInHand rfl (we_51 hW (wf_215 hW ht) (by omega)) mw_3_54 ⟨Nat.le_of_ble_eq_true rfl, Nat.le_of_ble_eq_true rfl⟩ ⟨Nat.le_of_ble_eq_true rfl, Nat.le_of_ble_eq_true rfl⟩ (Nat.le_of_ble_eq_true rfl) dX7_countAlikeInHand_18 (fun r18 M20 hq => ?_)
        obtain ⟨hm, hq2⟩ := hq
        have hm2 := hm.symm
        clear hm
        subst hm2
        obtain ⟨g18, rfl⟩ | ⟨g18, rfl⟩ := hq2
        · rw [(hR.f4 hi).1] at g18
          refine v_if_eq hC dX7_countAlikeInHand_21 (tgt := 37) (by decide) (fun hx => absurd hx (by decide)) (fun _ => ?_)
          refine v_iload_n hC dX7_countAlikeInHand_24 rfl rfl ?_
          refine v_aload_n hC dX7_countAlikeInHand_25 rfl rfl ?_
          refine gf_7_3 hC ht (wf_215 hW ht) mw_2_34 dX7_countAlikeInHand_26 ?_
          refine v_iload_n hC dX7_countAlikeInHand_29 rfl rfl ?_
          refine v_aald 51 _ hC (wf_215 hW ht) (by decide) rfl (ix_c (wz_51 hW (wf_215 hW ht)) (by omega)) (we_51 hW (wf_215 hW ht) (by omega)) dX7_countAlikeInHand_30 ?_
          refine v_aload_n hC dX7_countAlikeInHand_31 rfl rfl ?_
          refine cVi1 hC (c_X9_countAlike hW (we_51 hW (wf_215 hW ht) (by omega)) (hR.fs hi) hg) yv_X9_countAlike rfl (we_51 hW (wf_215 hW ht) (by omega)) mw_4_61 ⟨Nat.le_of_ble_eq_true rfl, Nat.le_of_ble_eq_true rfl⟩ ⟨Nat.le_of_ble_eq_true rfl, Nat.le_of_ble_eq_true rfl⟩ (Nat.le_of_ble_eq_true rfl) dX7_countAlikeInHand_32 (fun r32 M34 hq => ?_)
          obtain ⟨rfl, hm⟩ := hq
          have hm2 := hm.symm
          clear hm
          subst hm2
          refine v_iadd hC dX7_countAlikeInHand_35 ?_
          refine v_ist2 hC dX7_countAlikeInHand_36 (by decide) (kk := ?_)
          first | rw [show sm (T_al u g) i = sm (T_al u g) (i + 1) from by rw [sm_s, T_al, if_neg g18, Int32.add_zero]] | rw [show sm (T_al u g) i + sm (f_lk (q_g u 0 i) g) (n_s u i) = sm (T_al u g) (i + 1) from by rw [sm_s, T_al, if_pos g18]; rfl]
          refine v_inc3 hC dX7_countAlikeInHand_37 ((nI_succ i).symm) (by decide) (kk := ?_)
          refine v_goto hC dX7_countAlikeInHand_40 (tgt := 4) (by decide) ?_
          exact ih (i + 1) (by omega) (by omega)
        · rw [(hR.f4 hi).1] at g18
          refine v_if_eq hC dX7_countAlikeInHand_21 (tgt := 37) (by decide) (fun _ => ?_) (fun hx => absurd hx (by decide))
          first | rw [show sm (T_al u g) i = sm (T_al u g) (i + 1) from by rw [sm_s, T_al, if_neg g18, Int32.add_zero]] | rw [show sm (T_al u g) i + sm (f_lk (q_g u 0 i) g) (n_s u i) = sm (T_al u g) (i + 1) from by rw [sm_s, T_al, if_pos g18]; rfl]
          refine v_inc3 hC dX7_countAlikeInHand_37 ((nI_succ i).symm) (by decide) (kk := ?_)
          refine v_goto hC dX7_countAlikeInHand_40 (tgt := 4) (by decide) ?_
          exact ih (i + 1) (by omega) (by omega)
  refine v_iconst (v := 0) hC dX7_countAlikeInHand_0 (by decide) ?_
  refine v_ist2 hC dX7_countAlikeInHand_1 (by decide) (kk := ?_)
  refine v_iconst (v := 0) hC dX7_countAlikeInHand_2 (by decide) ?_
  refine v_ist3 hC dX7_countAlikeInHand_3 (by decide) (kk := ?_)
  exact loop 9 0 (by omega) (by omega)
