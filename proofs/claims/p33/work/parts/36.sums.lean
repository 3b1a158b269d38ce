theorem v_drop {p : Program} {l : Launch} {e : Env} {R : Room} {s : State} {m : MethodId} {args : Array Value} {below : List Frame} {meth : Method} {c : Code} {nL : Nat} {G : Gd} {Q : State → Prop} {M : Me} {cells slots pc : Nat} {L : Lo} {st : List Value} (i : Nat) (kk : V p l e R s m args below meth c nL G Q M cells slots pc (L.set i none) st) : V p l e R s m args below meth c nL G Q M cells slots pc L st := fun H locs ls hR hq hl => kk H locs ls hR hq ⟨hl.1, hl.2.1, fun q h => by
  obtain ⟨k, e1, e2⟩ := lq_of h
  have e3 : L[k]? = some (some q.2) := by
    rw [List.getElem?_set] at e2
    split at e2
    · split at e2 <;> cases e2
    · exact e2
  have m1 := lq_mem (i := 0) e3
  rw [← e1] at m1
  exact hl.2.2 _ m1⟩
/-- a file is in hand -/
abbrev iH (u : Si) (f : Nat) : Prop := q_i u 4 f 0 = 0 ∨ q_i u 4 f 0 = 1 ∨ q_i u 4 f 0 = 2
/-- a file's words; its segments in a way; its cost; its segments alike to one -/
def w_f (u : Si) (f : Nat) : Int32 := sm (f_wc (q_g u 0 f)) (n_s u f)
def y_f (u : Si) (x : Int32) (f : Nat) : Int32 := sm (fun i => if q_i u 10 f i = x then 1 else 0) (n_s u f)
def k_f (u : Si) (f : Nat) : Int32 := if q_i u 4 f 0 = 3 then q_i u 7 f 0 + 2 * w_f u f else if q_i u 4 f 0 = 1 ∨ q_i u 4 f 0 = 2 then q_i u 7 f 0 else 0
def a_f (u : Si) (g : Sg) (f : Nat) : Int32 := sm (f_lk (q_g u 0 f) g) (n_s u f)
theorem CR.wy {M : Me} {S f : Nat} {u : Si} {x : Int32} (h : CR M S u) (hf : f < n_f u) : sm (f_wy M (pF M S f) x) (n_s u f) = y_f u x f := sm_congr fun i hi => by
  unfold f_wy
  rw [(h.ft hf hi).2]
def T_ih (u : Si) (f : Nat) : Int32 := if iH u f then 1 else 0
def T_wi (u : Si) (f : Nat) : Int32 := if iH u f then w_f u f else 0
def T_wd (u : Si) (f : Nat) : Int32 := if q_i u 4 f 0 = 3 then w_f u f else 0
def T_nt (u : Si) (f : Nat) : Int32 := if iH u f then y_f u 0 f else 0
def T_ct (u : Si) (x : Int32) (f : Nat) : Int32 := if (q_i u 4 f 0 = 1 ∨ q_i u 4 f 0 = 2) ∧ q_i u 5 f 0 = x then 1 else 0
def T_cr (u : Si) (x : Int32) (f : Nat) : Int32 := if q_i u 4 f 0 = 2 ∧ q_i u 6 f 0 = x then 1 else 0
def T_wt (u : Si) (x : Int32) (f : Nat) : Int32 := if q_i u 4 f 0 = 3 ∧ q_i u 5 f 0 = x then w_f u f else 0
def T_wr (u : Si) (x : Int32) (f : Nat) : Int32 := if q_i u 4 f 0 = 3 ∧ q_i u 6 f 0 = x then w_f u f else 0
def T_pd (u : Si) (f : Nat) : Int32 := if q_i u 4 f 0 = 3 then k_f u f else 0
def T_al (u : Si) (g : Sg) (f : Nat) : Int32 := if iH u f then a_f u g f else 0
set_option maxHeartbeats 4000000 in
set_option maxRecDepth 100000 in
theorem c_X7_wordsInHand {l : Launch} {G : Gd} {M : Me} {h : Nat} {u : Si} (hW : Wt M) (ht : m_t M h = 8) (hR : CR M h u) : CQ (Qi G (fun r M2 => r = sm (T_wi u) (n_f u) ∧ M2 = M)) l G yX7_wordsInHand cX7_wordsInHand 3 ((some .int)) 1 22 0 0 [.ref h] M := by
  refine c_of ([some (.ref h), none, none] : Lo) RX7 "wordsInHand" (by decide) rfl rfl (Nat.le_of_ble_eq_true rfl) rfl (fun p e s m below meth c hC nw => ?_)
  have hb : n_f u ≤ 8 := hR.2.1.1
  have hn : m_i M 216 h 0 = nI (n_f u) := hR.2.2.2.1.1
  have loop : ∀ (k i : Nat), i + k = 9 → i ≤ n_f u → V p l e (rmk 1 22 0 0) s m ([.ref h] : List Value).toArray below meth c 3 G (MQ below (Qi G (fun r M2 => r = sm (T_wi u) (n_f u) ∧ M2 = M)) ([.ref h] : List Value).toArray s 0 0 (fr_ G)) M 0 0 4 ([some (.ref h), some (.int (sm (T_wi u) i)), some (.int (nI i))] : Lo) [] := by
    intro k
    induction k with
    | zero => intro i e1 e2; omega
    | succ k ih =>
      intro i e1 e2
      refine v_iload_n hC dX7_wordsInHand_4 rfl rfl ?_
      refine v_aload_n hC dX7_wordsInHand_5 rfl rfl ?_
      refine gf_7_4 hC ht mw_2_36 dX7_wordsInHand_6 ?_
      rw [hn]
      refine v_icmp_ge hC dX7_wordsInHand_9 (tgt := 42) (by decide) (fun h9 => ?_) (fun h9 => ?_)
      · have hi := lp_ge h9
        refine v_iload_n hC dX7_wordsInHand_42 rfl rfl ?_
        refine v_iret hC dX7_wordsInHand_43 ?_
        have hie : i = n_f u := by omega
        subst hie
        exact ⟨rfl, rfl⟩
      · have hi := lp_lt h9
        refine v_aload_n hC dX7_wordsInHand_12 rfl rfl ?_
        refine gf_7_3 hC ht (wf_215 hW ht) mw_2_34 dX7_wordsInHand_13 ?_
        refine v_iload_n hC dX7_wordsInHand_16 rfl rfl ?_
        refine v_aald 51 _ hC (wf_215 hW ht) (by decide) rfl (ix_c (wz_51 hW (wf_215 hW ht)) (by omega)) (we_51 hW (wf_215 hW ht) (by omega)) dX7_wordsInHand_17 ?_
        refine cVi0 hC (c_X9_isInHand (we_51 hW (wf_215 hW ht) (by omega))) yv_X9_isInHand rfl (we_51 hW (wf_215 hW ht) (by omega)) mw_3_54 ⟨Nat.le_of_ble_eq_true rfl, Nat.le_of_ble_eq_true rfl⟩ ⟨Nat.le_of_ble_eq_true rfl, Nat.le_of_ble_eq_true rfl⟩ (Nat.le_of_ble_eq_true rfl) dX7_wordsInHand_18 (fun r18 M20 hq => ?_)
        obtain ⟨hm, hq2⟩ := hq
        have hm2 := hm.symm
        clear hm
        subst hm2
        obtain ⟨g18, rfl⟩ | ⟨g18, rfl⟩ := hq2
        · rw [(hR.f4 hi).1] at g18
          refine v_if_eq hC dX7_wordsInHand_21 (tgt := 36) (by decide) (fun hx => absurd hx (by decide)) (fun _ => ?_)
          refine v_iload_n hC dX7_wordsInHand_24 rfl rfl ?_
          refine v_aload_n hC dX7_wordsInHand_25 rfl rfl ?_
          refine gf_7_3 hC ht (wf_215 hW ht) mw_2_34 dX7_wordsInHand_26 ?_
          refine v_iload_n hC dX7_wordsInHand_29 rfl rfl ?_
          refine v_aald 51 _ hC (wf_215 hW ht) (by decide) rfl (ix_c (wz_51 hW (wf_215 hW ht)) (by omega)) (we_51 hW (wf_215 hW ht) (by omega)) dX7_wordsInHand_30 ?_
          refine cVi0 hC (c_X9_countWords hW (we_51 hW (wf_215 hW ht) (by omega)) (hR.fs hi)) yv_X9_countWords rfl (we_51 hW (wf_215 hW ht) (by omega)) mw_3_234 ⟨Nat.le_of_ble_eq_true rfl, Nat.le_of_ble_eq_true rfl⟩ ⟨Nat.le_of_ble_eq_true rfl, Nat.le_of_ble_eq_true rfl⟩ (Nat.le_of_ble_eq_true rfl) dX7_wordsInHand_31 (fun r31 M33 hq => ?_)
          obtain ⟨rfl, hm⟩ := hq
          have hm2 := hm.symm
          clear hm
          subst hm2
          refine v_iadd hC dX7_wordsInHand_34 ?_
          refine v_ist1 hC dX7_wordsInHand_35 (by decide) (kk := ?_)
          first | rw [show sm (T_wi u) i = sm (T_wi u) (i + 1) from by rw [sm_s, T_wi, if_neg g18, Int32.add_zero]] | rw [show sm (T_wi u) i + sm (f_wc (q_g u 0 i)) (n_s u i) = sm (T_wi u) (i + 1) from by rw [sm_s, T_wi, if_pos g18]; rfl]
          refine v_inc2 hC dX7_wordsInHand_36 ((nI_succ i).symm) (by decide) (kk := ?_)
          refine v_goto hC dX7_wordsInHand_39 (tgt := 4) (by decide) ?_
          exact ih (i + 1) (by omega) (by omega)
        · rw [(hR.f4 hi).1] at g18
          refine v_if_eq hC dX7_wordsInHand_21 (tgt := 36) (by decide) (fun _ => ?_) (fun hx => absurd hx (by decide))
          first | rw [show sm (T_wi u) i = sm (T_wi u) (i + 1) from by rw [sm_s, T_wi, if_neg g18, Int32.add_zero]] | rw [show sm (T_wi u) i + sm (f_wc (q_g u 0 i)) (n_s u i) = sm (T_wi u) (i + 1) from by rw [sm_s, T_wi, if_pos g18]; rfl]
          refine v_inc2 hC dX7_wordsInHand_36 ((nI_succ i).symm) (by decide) (kk := ?_)
          refine v_goto hC dX7_wordsInHand_39 (tgt := 4) (by decide) ?_
          exact ih (i + 1) (by omega) (by omega)
  refine v_iconst (v := 0) hC dX7_wordsInHand_0 (by decide) ?_
  refine v_ist1 hC dX7_wordsInHand_1 (by decide) (kk := ?_)
  refine v_iconst (v := 0) hC dX7_wordsInHand_2 (by decide) ?_
  refine v_ist2 hC dX7_wordsInHand_3 (by decide) (kk := ?_)
  exact loop 9 0 (by omega) (by omega)

set_option maxHeartbeats 4000000 in
set_option maxRecDepth 100000 in
theorem c_X7_wordsDelivered {l : Launch} {G : Gd} {M : Me} {h : Nat} {u : Si} (hW : Wt M) (ht : m_t M h = 8) (hR : CR M h u) : CQ (Qi G (fun r M2 => r = sm (T_wd u) (n_f u) ∧ M2 = M)) l G yX7_wordsDelivered cX7_wordsDelivered 3 ((some .int)) 1 22 0 0 [.ref h] M := by
  refine c_of ([some (.ref h), none, none] : Lo) RX7 "wordsDelivered" (by decide) rfl rfl (Nat.le_of_ble_eq_true rfl) rfl (fun p e s m below meth c hC nw => ?_)
  have hb : n_f u ≤ 8 := hR.2.1.1
  have hn : m_i M 216 h 0 = nI (n_f u) := hR.2.2.2.1.1
  have loop : ∀ (k i : Nat), i + k = 9 → i ≤ n_f u → V p l e (rmk 1 22 0 0) s m ([.ref h] : List Value).toArray below meth c 3 G (MQ below (Qi G (fun r M2 => r = sm (T_wd u) (n_f u) ∧ M2 = M)) ([.ref h] : List Value).toArray s 0 0 (fr_ G)) M 0 0 4 ([some (.ref h), some (.int (sm (T_wd u) i)), some (.int (nI i))] : Lo) [] := by
    intro k
    induction k with
    | zero => intro i e1 e2; omega
    | succ k ih =>
      intro i e1 e2
      refine v_iload_n hC dX7_wordsDelivered_4 rfl rfl ?_
      refine v_aload_n hC dX7_wordsDelivered_5 rfl rfl ?_
      refine gf_7_4 hC ht mw_2_36 dX7_wordsDelivered_6 ?_
      rw [hn]
      refine v_icmp_ge hC dX7_wordsDelivered_9 (tgt := 43) (by decide) (fun h9 => ?_) (fun h9 => ?_)
      · have hi := lp_ge h9
        refine v_iload_n hC dX7_wordsDelivered_43 rfl rfl ?_
        refine v_iret hC dX7_wordsDelivered_44 ?_
        have hie : i = n_f u := by omega
        subst hie
        exact ⟨rfl, rfl⟩
      · have hi := lp_lt h9
        refine v_aload_n hC dX7_wordsDelivered_12 rfl rfl ?_
        refine gf_7_3 hC ht (wf_215 hW ht) mw_2_34 dX7_wordsDelivered_13 ?_
        refine v_iload_n hC dX7_wordsDelivered_16 rfl rfl ?_
        refine v_aald 51 _ hC (wf_215 hW ht) (by decide) rfl (ix_c (wz_51 hW (wf_215 hW ht)) (by omega)) (we_51 hW (wf_215 hW ht) (by omega)) dX7_wordsDelivered_17 ?_
        refine gf_9_0 hC (we_51 hW (wf_215 hW ht) (by omega)) mw_1_132 dX7_wordsDelivered_18 ?_
        rw [(hR.f4 hi).1]
        refine v_iconst (v := 3) hC dX7_wordsDelivered_21 (by decide) ?_
        refine v_icmp_ne hC dX7_wordsDelivered_22 (tgt := 37) (by decide) (fun h22 => ?_) (fun h22 => ?_)
        · first | rw [show sm (T_wd u) i = sm (T_wd u) (i + 1) from by rw [sm_s, T_wd, if_neg h22, Int32.add_zero]] | rw [show sm (T_wd u) i + sm (f_wc (q_g u 0 i)) (n_s u i) = sm (T_wd u) (i + 1) from by rw [sm_s, T_wd, if_pos h22]; rfl]
          refine v_inc2 hC dX7_wordsDelivered_37 ((nI_succ i).symm) (by decide) (kk := ?_)
          refine v_goto hC dX7_wordsDelivered_40 (tgt := 4) (by decide) ?_
          exact ih (i + 1) (by omega) (by omega)
        · refine v_iload_n hC dX7_wordsDelivered_25 rfl rfl ?_
          refine v_aload_n hC dX7_wordsDelivered_26 rfl rfl ?_
          refine gf_7_3 hC ht (wf_215 hW ht) mw_2_34 dX7_wordsDelivered_27 ?_
          refine v_iload_n hC dX7_wordsDelivered_30 rfl rfl ?_
          refine v_aald 51 _ hC (wf_215 hW ht) (by decide) rfl (ix_c (wz_51 hW (wf_215 hW ht)) (by omega)) (we_51 hW (wf_215 hW ht) (by omega)) dX7_wordsDelivered_31 ?_
          refine cVi0 hC (c_X9_countWords hW (we_51 hW (wf_215 hW ht) (by omega)) (hR.fs hi)) yv_X9_countWords rfl (we_51 hW (wf_215 hW ht) (by omega)) mw_3_234 ⟨Nat.le_of_ble_eq_true rfl, Nat.le_of_ble_eq_true rfl⟩ ⟨Nat.le_of_ble_eq_true rfl, Nat.le_of_ble_eq_true rfl⟩ (Nat.le_of_ble_eq_true rfl) dX7_wordsDelivered_32 (fun r32 M34 hq => ?_)
          obtain ⟨rfl, hm⟩ := hq
          have hm2 := hm.symm
          clear hm
          subst hm2
          refine v_iadd hC dX7_wordsDelivered_35 ?_
          refine v_ist1 hC dX7_wordsDelivered_36 (by decide) (kk := ?_)
          first | rw [show sm (T_wd u) i = sm (T_wd u) (i + 1) from by rw [sm_s, T_wd, if_neg h22, Int32.add_zero]] | rw [show sm (T_wd u) i + sm (f_wc (q_g u 0 i)) (n_s u i) = sm (T_wd u) (i + 1) from by rw [sm_s, T_wd, if_pos h22]; rfl]
          refine v_inc2 hC dX7_wordsDelivered_37 ((nI_succ i).symm) (by decide) (kk := ?_)
          refine v_goto hC dX7_wordsDelivered_40 (tgt := 4) (by decide) ?_
          exact ih (i + 1) (by omega) (by omega)
  refine v_iconst (v := 0) hC dX7_wordsDelivered_0 (by decide) ?_
  refine v_ist1 hC dX7_wordsDelivered_1 (by decide) (kk := ?_)
  refine v_iconst (v := 0) hC dX7_wordsDelivered_2 (by decide) ?_
  refine v_ist2 hC dX7_wordsDelivered_3 (by decide) (kk := ?_)
  exact loop 9 0 (by omega) (by omega)

set_option maxHeartbeats 4000000 in
set_option maxRecDepth 100000 in
theorem c_X7_countInHandWithoutTarget {l : Launch} {G : Gd} {M : Me} {h : Nat} {u : Si} (hW : Wt M) (ht : m_t M h = 8) (hR : CR M h u) : CQ (Qi G (fun r M2 => r = sm (T_nt u) (n_f u) ∧ M2 = M)) l G yX7_countInHandWithoutTarget cX7_countInHandWithoutTarget 3 ((some .int)) 2 43 0 0 [.ref h] M := by
  refine c_of ([some (.ref h), none, none] : Lo) RX7 "countInHandWithoutTarget" (by decide) rfl rfl (Nat.le_of_ble_eq_true rfl) rfl (fun p e s m below meth c hC nw => ?_)
  have hb : n_f u ≤ 8 := hR.2.1.1
  have hn : m_i M 216 h 0 = nI (n_f u) := hR.2.2.2.1.1
  have loop : ∀ (k i : Nat), i + k = 9 → i ≤ n_f u → V p l e (rmk 2 43 0 0) s m ([.ref h] : List Value).toArray below meth c 3 G (MQ below (Qi G (fun r M2 => r = sm (T_nt u) (n_f u) ∧ M2 = M)) ([.ref h] : List Value).toArray s 0 0 (fr_ G)) M 0 0 4 ([some (.ref h), some (.int (sm (T_nt u) i)), some (.int (nI i))] : Lo) [] := by
    intro k
    induction k with
    | zero => intro i e1 e2; omega
    | succ k ih =>
      intro i e1 e2
      refine v_iload_n hC dX7_countInHandWithoutTarget_4 rfl rfl ?_
      refine v_aload_n hC dX7_countInHandWithoutTarget_5 rfl rfl ?_
      refine gf_7_4 hC ht mw_2_36 dX7_countInHandWithoutTarget_6 ?_
      rw [hn]
      refine v_icmp_ge hC dX7_countInHandWithoutTarget_9 (tgt := 42) (by decide) (fun h9 => ?_) (fun h9 => ?_)
      · have hi := lp_ge h9
        refine v_iload_n hC dX7_countInHandWithoutTarget_42 rfl rfl ?_
        refine v_iret hC dX7_countInHandWithoutTarget_43 ?_
        have hie : i = n_f u := by omega
        subst hie
        exact ⟨rfl, rfl⟩
      · have hi := lp_lt h9
        refine v_aload_n hC dX7_countInHandWithoutTarget_12 rfl rfl ?_
        refine gf_7_3 hC ht (wf_215 hW ht) mw_2_34 dX7_countInHandWithoutTarget_13 ?_
        refine v_iload_n hC dX7_countInHandWithoutTarget_16 rfl rfl ?_
        refine v_aald 51 _ hC (wf_215 hW ht) (by decide) rfl (ix_c (wz_51 hW (wf_215 hW ht)) (by omega)) (we_51 hW (wf_215 hW ht) (by omega)) dX7_countInHandWithoutTarget_17 ?_
        refine cVi0 hC (c_X9_isInHand (we_51 hW (wf_215 hW ht) (by omega))) yv_X9_isInHand rfl (we_51 hW (wf_215 hW ht) (by omega)) mw_3_54 ⟨Nat.le_of_ble_eq_true rfl, Nat.le_of_ble_eq_true rfl⟩ ⟨Nat.le_of_ble_eq_true rfl, Nat.le_of_ble_eq_true rfl⟩ (Nat.le_of_ble_eq_true rfl) dX7_countInHandWithoutTarget_18 (fun r18 M20 hq => ?_)
        obtain ⟨hm, hq2⟩ := hq
        have hm2 := hm.symm
        clear hm
        subst hm2
        obtain ⟨g18, rfl⟩ | ⟨g18, rfl⟩ := hq2
        · rw [(hR.f4 hi).1] at g18
          refine v_if_eq hC dX7_countInHandWithoutTarget_21 (tgt := 36) (by decide) (fun hx => absurd hx (by decide)) (fun _ => ?_)
          refine v_iload_n hC dX7_countInHandWithoutTarget_24 rfl rfl ?_
          refine v_aload_n hC dX7_countInHandWithoutTarget_25 rfl rfl ?_
          refine gf_7_3 hC ht (wf_215 hW ht) mw_2_34 dX7_countInHandWithoutTarget_26 ?_
          refine v_iload_n hC dX7_countInHandWithoutTarget_29 rfl rfl ?_
          refine v_aald 51 _ hC (wf_215 hW ht) (by decide) rfl (ix_c (wz_51 hW (wf_215 hW ht)) (by omega)) (we_51 hW (wf_215 hW ht) (by omega)) dX7_countInHandWithoutTarget_30 ?_
          refine cVi0 hC (c_X9_countWithoutTarget hW (we_51 hW (wf_215 hW ht) (by omega)) (hR.fs hi)) yv_X9_countWithoutTarget rfl (we_51 hW (wf_215 hW ht) (by omega)) mw_4_102 ⟨Nat.le_of_ble_eq_true rfl, Nat.le_of_ble_eq_true rfl⟩ ⟨Nat.le_of_ble_eq_true rfl, Nat.le_of_ble_eq_true rfl⟩ (Nat.le_of_ble_eq_true rfl) dX7_countInHandWithoutTarget_31 (fun r31 M33 hq => ?_)
          obtain ⟨rfl, hm⟩ := hq
          have hm2 := hm.symm
          clear hm
          subst hm2
          refine v_iadd hC dX7_countInHandWithoutTarget_34 ?_
          refine v_ist1 hC dX7_countInHandWithoutTarget_35 (by decide) (kk := ?_)
          first | rw [show sm (T_nt u) i = sm (T_nt u) (i + 1) from by rw [sm_s, T_nt, if_neg g18, Int32.add_zero]] | rw [show sm (T_nt u) i + sm (f_wy M (pF M h i) 0) (n_s u i) = sm (T_nt u) (i + 1) from by rw [sm_s, T_nt, if_pos g18]; rw [hR.wy hi]]
          refine v_inc2 hC dX7_countInHandWithoutTarget_36 ((nI_succ i).symm) (by decide) (kk := ?_)
          refine v_goto hC dX7_countInHandWithoutTarget_39 (tgt := 4) (by decide) ?_
          exact ih (i + 1) (by omega) (by omega)
        · rw [(hR.f4 hi).1] at g18
          refine v_if_eq hC dX7_countInHandWithoutTarget_21 (tgt := 36) (by decide) (fun _ => ?_) (fun hx => absurd hx (by decide))
          first | rw [show sm (T_nt u) i = sm (T_nt u) (i + 1) from by rw [sm_s, T_nt, if_neg g18, Int32.add_zero]] | rw [show sm (T_nt u) i + sm (f_wy M (pF M h i) 0) (n_s u i) = sm (T_nt u) (i + 1) from by rw [sm_s, T_nt, if_pos g18]; rw [hR.wy hi]]
          refine v_inc2 hC dX7_countInHandWithoutTarget_36 ((nI_succ i).symm) (by decide) (kk := ?_)
          refine v_goto hC dX7_countInHandWithoutTarget_39 (tgt := 4) (by decide) ?_
          exact ih (i + 1) (by omega) (by omega)
  refine v_iconst (v := 0) hC dX7_countInHandWithoutTarget_0 (by decide) ?_
  refine v_ist1 hC dX7_countInHandWithoutTarget_1 (by decide) (kk := ?_)
  refine v_iconst (v := 0) hC dX7_countInHandWithoutTarget_2 (by decide) ?_
  refine v_ist2 hC dX7_countInHandWithoutTarget_3 (by decide) (kk := ?_)
  exact loop 9 0 (by omega) (by omega)

set_option maxHeartbeats 4000000 in
set_option maxRecDepth 100000 in
theorem c_X7_wordsTranslated {l : Launch} {G : Gd} {M : Me} {h : Nat} {u : Si} {x : Int32} (hW : Wt M) (ht : m_t M h = 8) (hR : CR M h u) : CQ (Qi G (fun r M2 => r = sm (T_wt u x) (n_f u) ∧ M2 = M)) l G yX7_wordsTranslated cX7_wordsTranslated 4 ((some .int)) 1 22 0 0 [.ref h, .int x] M := by
  refine c_of ([some (.ref h), some (.int x), none, none] : Lo) RX7 "wordsTranslated" (by decide) rfl rfl (Nat.le_of_ble_eq_true rfl) rfl (fun p e s m below meth c hC nw => ?_)
  have hb : n_f u ≤ 8 := hR.2.1.1
  have hn : m_i M 216 h 0 = nI (n_f u) := hR.2.2.2.1.1
  have loop : ∀ (k i : Nat), i + k = 9 → i ≤ n_f u → V p l e (rmk 1 22 0 0) s m ([.ref h, .int x] : List Value).toArray below meth c 4 G (MQ below (Qi G (fun r M2 => r = sm (T_wt u x) (n_f u) ∧ M2 = M)) ([.ref h, .int x] : List Value).toArray s 0 0 (fr_ G)) M 0 0 4 ([some (.ref h), some (.int x), some (.int (sm (T_wt u x) i)), some (.int (nI i))] : Lo) [] := by
    intro k
    induction k with
    | zero => intro i e1 e2; omega
    | succ k ih =>
      intro i e1 e2
      refine v_iload_n hC dX7_wordsTranslated_4 rfl rfl ?_
      refine v_aload_n hC dX7_wordsTranslated_5 rfl rfl ?_
      refine gf_7_4 hC ht mw_2_36 dX7_wordsTranslated_6 ?_
      rw [hn]
      refine v_icmp_ge hC dX7_wordsTranslated_9 (tgt := 56) (by decide) (fun h9 => ?_) (fun h9 => ?_)
      · have hi := lp_ge h9
        refine v_iload_n hC dX7_wordsTranslated_56 rfl rfl ?_
        refine v_iret hC dX7_wordsTranslated_57 ?_
        have hie : i = n_f u := by omega
        subst hie
        exact ⟨rfl, rfl⟩
      · have hi := lp_lt h9
        refine v_aload_n hC dX7_wordsTranslated_12 rfl rfl ?_
        refine gf_7_3 hC ht (wf_215 hW ht) mw_2_34 dX7_wordsTranslated_13 ?_
        refine v_iload_n hC dX7_wordsTranslated_16 rfl rfl ?_
        refine v_aald 51 _ hC (wf_215 hW ht) (by decide) rfl (ix_c (wz_51 hW (wf_215 hW ht)) (by omega)) (we_51 hW (wf_215 hW ht) (by omega)) dX7_wordsTranslated_17 ?_
        refine gf_9_0 hC (we_51 hW (wf_215 hW ht) (by omega)) mw_1_132 dX7_wordsTranslated_18 ?_
        rw [(hR.f4 hi).1]
        refine v_iconst (v := 3) hC dX7_wordsTranslated_21 (by decide) ?_
        refine v_icmp_ne hC dX7_wordsTranslated_22 (tgt := 50) (by decide) (fun h22 => ?_) (fun h22 => ?_)
        · first | rw [show sm (T_wt u x) i = sm (T_wt u x) (i + 1) from by rw [sm_s, T_wt, if_neg (fun q => h22 q.1), Int32.add_zero]] | rw [show sm (T_wt u x) i = sm (T_wt u x) (i + 1) from by rw [sm_s, T_wt, if_neg (fun q => g32 q.2), Int32.add_zero]] | rw [show sm (T_wt u x) i + sm (f_wc (q_g u 0 i)) (n_s u i) = sm (T_wt u x) (i + 1) from by rw [sm_s, T_wt, if_pos ⟨h22, g32⟩]; rfl]
          refine v_inc3 hC dX7_wordsTranslated_50 ((nI_succ i).symm) (by decide) (kk := ?_)
          refine v_goto hC dX7_wordsTranslated_53 (tgt := 4) (by decide) ?_
          exact ih (i + 1) (by omega) (by omega)
        · refine v_aload_n hC dX7_wordsTranslated_25 rfl rfl ?_
          refine gf_7_3 hC ht (wf_215 hW ht) mw_2_34 dX7_wordsTranslated_26 ?_
          refine v_iload_n hC dX7_wordsTranslated_29 rfl rfl ?_
          refine v_aald 51 _ hC (wf_215 hW ht) (by decide) rfl (ix_c (wz_51 hW (wf_215 hW ht)) (by omega)) (we_51 hW (wf_215 hW ht) (by omega)) dX7_wordsTranslated_30 ?_
          refine v_iload_n hC dX7_wordsTranslated_31 rfl rfl ?_
          refine cVi1 hC (c_X9_isTranslatedBy (we_51 hW (wf_215 hW ht) (by omega))) yv_X9_isTranslatedBy rfl (we_51 hW (wf_215 hW ht) (by omega)) mw_3_218 ⟨Nat.le_of_ble_eq_true rfl, Nat.le_of_ble_eq_true rfl⟩ ⟨Nat.le_of_ble_eq_true rfl, Nat.le_of_ble_eq_true rfl⟩ (Nat.le_of_ble_eq_true rfl) dX7_wordsTranslated_32 (fun r32 M34 hq => ?_)
          obtain ⟨hm, hq2⟩ := hq
          have hm2 := hm.symm
          clear hm
          subst hm2
          obtain ⟨g32, rfl⟩ | ⟨g32, rfl⟩ := hq2
          · rw [(hR.f4 hi).2.1] at g32
            refine v_if_eq hC dX7_wordsTranslated_35 (tgt := 50) (by decide) (fun hx => absurd hx (by decide)) (fun _ => ?_)
            refine v_iload_n hC dX7_wordsTranslated_38 rfl rfl ?_
            refine v_aload_n hC dX7_wordsTranslated_39 rfl rfl ?_
            refine gf_7_3 hC ht (wf_215 hW ht) mw_2_34 dX7_wordsTranslated_40 ?_
            refine v_iload_n hC dX7_wordsTranslated_43 rfl rfl ?_
            refine v_aald 51 _ hC (wf_215 hW ht) (by decide) rfl (ix_c (wz_51 hW (wf_215 hW ht)) (by omega)) (we_51 hW (wf_215 hW ht) (by omega)) dX7_wordsTranslated_44 ?_
            refine cVi0 hC (c_X9_countWords hW (we_51 hW (wf_215 hW ht) (by omega)) (hR.fs hi)) yv_X9_countWords rfl (we_51 hW (wf_215 hW ht) (by omega)) mw_3_234 ⟨Nat.le_of_ble_eq_true rfl, Nat.le_of_ble_eq_true rfl⟩ ⟨Nat.le_of_ble_eq_true rfl, Nat.le_of_ble_eq_true rfl⟩ (Nat.le_of_ble_eq_true rfl) dX7_wordsTranslated_45 (fun r45 M47 hq => ?_)
            obtain ⟨rfl, hm⟩ := hq
            have hm2 := hm.symm
            clear hm
            subst hm2
            refine v_iadd hC dX7_wordsTranslated_48 ?_
            refine v_ist2 hC dX7_wordsTranslated_49 (by decide) (kk := ?_)
            first | rw [show sm (T_wt u x) i = sm (T_wt u x) (i + 1) from by rw [sm_s, T_wt, if_neg (fun q => h22 q.1), Int32.add_zero]] | rw [show sm (T_wt u x) i = sm (T_wt u x) (i + 1) from by rw [sm_s, T_wt, if_neg (fun q => g32 q.2), Int32.add_zero]] | rw [show sm (T_wt u x) i + sm (f_wc (q_g u 0 i)) (n_s u i) = sm (T_wt u x) (i + 1) from by rw [sm_s, T_wt, if_pos ⟨h22, g32⟩]; rfl]
            refine v_inc3 hC dX7_wordsTranslated_50 ((nI_succ i).symm) (by decide) (kk := ?_)
            refine v_goto hC dX7_wordsTranslated_53 (tgt := 4) (by decide) ?_
            exact ih (i + 1) (by omega) (by omega)
          · rw [(hR.f4 hi).2.1] at g32
            refine v_if_eq hC dX7_wordsTranslated_35 (tgt := 50) (by decide) (fun _ => ?_) (fun hx => absurd hx (by decide))
            first | rw [show sm (T_wt u x) i = sm (T_wt u x) (i + 1) from by rw [sm_s, T_wt, if_neg (fun q => h22 q.1), Int32.add_zero]] | rw [show sm (T_wt u x) i = sm (T_wt u x) (i + 1) from by rw [sm_s, T_wt, if_neg (fun q => g32 q.2), Int32.add_zero]] | rw [show sm (T_wt u x) i + sm (f_wc (q_g u 0 i)) (n_s u i) = sm (T_wt u x) (i + 1) from by rw [sm_s, T_wt, if_pos ⟨h22, g32⟩]; rfl]
            refine v_inc3 hC dX7_wordsTranslated_50 ((nI_succ i).symm) (by decide) (kk := ?_)
            refine v_goto hC dX7_wordsTranslated_53 (tgt := 4) (by decide) ?_
            exact ih (i + 1) (by omega) (by omega)
  refine v_iconst (v := 0) hC dX7_wordsTranslated_0 (by decide) ?_
  refine v_ist2 hC dX7_wordsTranslated_1 (by decide) (kk := ?_)
  refine v_iconst (v := 0) hC dX7_wordsTranslated_2 (by decide) ?_
  refine v_ist3 hC dX7_wordsTranslated_3 (by decide) (kk := ?_)
  exact loop 9 0 (by omega) (by omega)

set_option maxHeartbeats 4000000 in
set_option maxRecDepth 100000 in
theorem c_X7_wordsReviewed {l : Launch} {G : Gd} {M : Me} {h : Nat} {u : Si} {x : Int32} (hW : Wt M) (ht : m_t M h = 8) (hR : CR M h u) : CQ (Qi G (fun r M2 => r = sm (T_wr u x) (n_f u) ∧ M2 = M)) l G yX7_wordsReviewed cX7_wordsReviewed 4 ((some .int)) 1 22 0 0 [.ref h, .int x] M := by
  refine c_of ([some (.ref h), some (.int x), none, none] : Lo) RX7 "wordsReviewed" (by decide) rfl rfl (Nat.le_of_ble_eq_true rfl) rfl (fun p e s m below meth c hC nw => ?_)
  have hb : n_f u ≤ 8 := hR.2.1.1
  have hn : m_i M 216 h 0 = nI (n_f u) := hR.2.2.2.1.1
  have loop : ∀ (k i : Nat), i + k = 9 → i ≤ n_f u → V p l e (rmk 1 22 0 0) s m ([.ref h, .int x] : List Value).toArray below meth c 4 G (MQ below (Qi G (fun r M2 => r = sm (T_wr u x) (n_f u) ∧ M2 = M)) ([.ref h, .int x] : List Value).toArray s 0 0 (fr_ G)) M 0 0 4 ([some (.ref h), some (.int x), some (.int (sm (T_wr u x) i)), some (.int (nI i))] : Lo) [] := by
    intro k
    induction k with
    | zero => intro i e1 e2; omega
    | succ k ih =>
      intro i e1 e2
      refine v_iload_n hC dX7_wordsReviewed_4 rfl rfl ?_
      refine v_aload_n hC dX7_wordsReviewed_5 rfl rfl ?_
      refine gf_7_4 hC ht mw_2_36 dX7_wordsReviewed_6 ?_
      rw [hn]
      refine v_icmp_ge hC dX7_wordsReviewed_9 (tgt := 56) (by decide) (fun h9 => ?_) (fun h9 => ?_)
      · have hi := lp_ge h9
        refine v_iload_n hC dX7_wordsReviewed_56 rfl rfl ?_
        refine v_iret hC dX7_wordsReviewed_57 ?_
        have hie : i = n_f u := by omega
        subst hie
        exact ⟨rfl, rfl⟩
      · have hi := lp_lt h9
        refine v_aload_n hC dX7_wordsReviewed_12 rfl rfl ?_
        refine gf_7_3 hC ht (wf_215 hW ht) mw_2_34 dX7_wordsReviewed_13 ?_
        refine v_iload_n hC dX7_wordsReviewed_16 rfl rfl ?_
        refine v_aald 51 _ hC (wf_215 hW ht) (by decide) rfl (ix_c (wz_51 hW (wf_215 hW ht)) (by omega)) (we_51 hW (wf_215 hW ht) (by omega)) dX7_wordsReviewed_17 ?_
        refine gf_9_0 hC (we_51 hW (wf_215 hW ht) (by omega)) mw_1_132 dX7_wordsReviewed_18 ?_
        rw [(hR.f4 hi).1]
        refine v_iconst (v := 3) hC dX7_wordsReviewed_21 (by decide) ?_
        refine v_icmp_ne hC dX7_wordsReviewed_22 (tgt := 50) (by decide) (fun h22 => ?_) (fun h22 => ?_)
        · first | rw [show sm (T_wr u x) i = sm (T_wr u x) (i + 1) from by rw [sm_s, T_wr, if_neg (fun q => h22 q.1), Int32.add_zero]] | rw [show sm (T_wr u x) i = sm (T_wr u x) (i + 1) from by rw [sm_s, T_wr, if_neg (fun q => g32 q.2), Int32.add_zero]] | rw [show sm (T_wr u x) i + sm (f_wc (q_g u 0 i)) (n_s u i) = sm (T_wr u x) (i + 1) from by rw [sm_s, T_wr, if_pos ⟨h22, g32⟩]; rfl]
          refine v_inc3 hC dX7_wordsReviewed_50 ((nI_succ i).symm) (by decide) (kk := ?_)
          refine v_goto hC dX7_wordsReviewed_53 (tgt := 4) (by decide) ?_
          exact ih (i + 1) (by omega) (by omega)
        · refine v_aload_n hC dX7_wordsReviewed_25 rfl rfl ?_
          refine gf_7_3 hC ht (wf_215 hW ht) mw_2_34 dX7_wordsReviewed_26 ?_
          refine v_iload_n hC dX7_wordsReviewed_29 rfl rfl ?_
          refine v_aald 51 _ hC (wf_215 hW ht) (by decide) rfl (ix_c (wz_51 hW (wf_215 hW ht)) (by omega)) (we_51 hW (wf_215 hW ht) (by omega)) dX7_wordsReviewed_30 ?_
          refine v_iload_n hC dX7_wordsReviewed_31 rfl rfl ?_
          refine cVi1 hC (c_X9_isReviewedBy (we_51 hW (wf_215 hW ht) (by omega))) yv_X9_isReviewedBy rfl (we_51 hW (wf_215 hW ht) (by omega)) mw_3_226 ⟨Nat.le_of_ble_eq_true rfl, Nat.le_of_ble_eq_true rfl⟩ ⟨Nat.le_of_ble_eq_true rfl, Nat.le_of_ble_eq_true rfl⟩ (Nat.le_of_ble_eq_true rfl) dX7_wordsReviewed_32 (fun r32 M34 hq => ?_)
          obtain ⟨hm, hq2⟩ := hq
          have hm2 := hm.symm
          clear hm
          subst hm2
          obtain ⟨g32, rfl⟩ | ⟨g32, rfl⟩ := hq2
          · rw [(hR.f4 hi).2.2.1] at g32
            refine v_if_eq hC dX7_wordsReviewed_35 (tgt := 50) (by decide) (fun hx => absurd hx (by decide)) (fun _ => ?_)
            refine v_iload_n hC dX7_wordsReviewed_38 rfl rfl ?_
            refine v_aload_n hC dX7_wordsReviewed_39 rfl rfl ?_
            refine gf_7_3 hC ht (wf_215 hW ht) mw_2_34 dX7_wordsReviewed_40 ?_
            refine v_iload_n hC dX7_wordsReviewed_43 rfl rfl ?_
            refine v_aald 51 _ hC (wf_215 hW ht) (by decide) rfl (ix_c (wz_51 hW (wf_215 hW ht)) (by omega)) (we_51 hW (wf_215 hW ht) (by omega)) dX7_wordsReviewed_44 ?_
            refine cVi0 hC (c_X9_countWords hW (we_51 hW (wf_215 hW ht) (by omega)) (hR.fs hi)) yv_X9_countWords rfl (we_51 hW (wf_215 hW ht) (by omega)) mw_3_234 ⟨Nat.le_of_ble_eq_true rfl, Nat.le_of_ble_eq_true rfl⟩ ⟨Nat.le_of_ble_eq_true rfl, Nat.le_of_ble_eq_true rfl⟩ (Nat.le_of_ble_eq_true rfl) dX7_wordsReviewed_45 (fun r45 M47 hq => ?_)
            obtain ⟨rfl, hm⟩ := hq
            have hm2 := hm.symm
            clear hm
            subst hm2
            refine v_iadd hC dX7_wordsReviewed_48 ?_
            refine v_ist2 hC dX7_wordsReviewed_49 (by decide) (kk := ?_)
            first | rw [show sm (T_wr u x) i = sm (T_wr u x) (i + 1) from by rw [sm_s, T_wr, if_neg (fun q => h22 q.1), Int32.add_zero]] | rw [show sm (T_wr u x) i = sm (T_wr u x) (i + 1) from by rw [sm_s, T_wr, if_neg (fun q => g32 q.2), Int32.add_zero]] | rw [show sm (T_wr u x) i + sm (f_wc (q_g u 0 i)) (n_s u i) = sm (T_wr u x) (i + 1) from by rw [sm_s, T_wr, if_pos ⟨h22, g32⟩]; rfl]
            refine v_inc3 hC dX7_wordsReviewed_50 ((nI_succ i).symm) (by decide) (kk := ?_)
            refine v_goto hC dX7_wordsReviewed_53 (tgt := 4) (by decide) ?_
            exact ih (i + 1) (by omega) (by omega)
          · rw [(hR.f4 hi).2.2.1] at g32
            refine v_if_eq hC dX7_wordsReviewed_35 (tgt := 50) (by decide) (fun _ => ?_) (fun hx => absurd hx (by decide))
            first | rw [show sm (T_wr u x) i = sm (T_wr u x) (i + 1) from by rw [sm_s, T_wr, if_neg (fun q => h22 q.1), Int32.add_zero]] | rw [show sm (T_wr u x) i = sm (T_wr u x) (i + 1) from by rw [sm_s, T_wr, if_neg (fun q => g32 q.2), Int32.add_zero]] | rw [show sm (T_wr u x) i + sm (f_wc (q_g u 0 i)) (n_s u i) = sm (T_wr u x) (i + 1) from by rw [sm_s, T_wr, if_pos ⟨h22, g32⟩]; rfl]
            refine v_inc3 hC dX7_wordsReviewed_50 ((nI_succ i).symm) (by decide) (kk := ?_)
            refine v_goto hC dX7_wordsReviewed_53 (tgt := 4) (by decide) ?_
            exact ih (i + 1) (by omega) (by omega)
  refine v_iconst (v := 0) hC dX7_wordsReviewed_0 (by decide) ?_
  refine v_ist2 hC dX7_wordsReviewed_1 (by decide) (kk := ?_)
  refine v_iconst (v := 0) hC dX7_wordsReviewed_2 (by decide) ?_
  refine v_ist3 hC dX7_wordsReviewed_3 (by decide) (kk := ?_)
  exact loop 9 0 (by omega) (by omega)

set_option maxHeartbeats 4000000 in
set_option maxRecDepth 100000 in
theorem c_X7_countAlikeInHand {l : Launch} {G : Gd} {M : Me} {h : Nat} {u : Si} {g0 : Nat} {g : Sg} (hW : Wt M) (ht : m_t M h = 8) (hR : CR M h u) (hg : SgR M g0 g) : CQ (Qi G (fun r M2 => r = sm (T_al u g) (n_f u) ∧ M2 = M)) l G yX7_countAlikeInHand cX7_countAlikeInHand 4 ((some .int)) 2 45 0 0 [.ref h, .ref g0] M := by
  refine c_of ([some (.ref h), some (.ref g0), none, none] : Lo) RX7 "countAlikeInHand" (by decide) rfl rfl (Nat.le_of_ble_eq_true rfl) rfl (fun p e s m below meth c hC nw => ?_)
  have hb : n_f u ≤ 8 := hR.2.1.1
  have hn : m_i M 216 h 0 = nI (n_f u) := hR.2.2.2.1.1
  have loop : ∀ (k i : Nat), i + k = 9 → i ≤ n_f u → V p l e (rmk 2 45 0 0) s m ([.ref h, .ref g0] : List Value).toArray below meth c 4 G (MQ below (Qi G (fun r M2 => r = sm (T_al u g) (n_f u) ∧ M2 = M)) ([.ref h, .ref g0] : List Value).toArray s 0 0 (fr_ G)) M 0 0 4 ([some (.ref h), some (.ref g0), some (.int (sm (T_al u g) i)), some (.int (nI i))] : Lo) [] := by
    intro k
    induction k with
    | zero => intro i e1 e2; omega
    | succ k ih =>
      intro i e1 e2
      refine v_iload_n hC dX7_countAlikeInHand_4 rfl rfl ?_
      refine v_aload_n hC dX7_countAlikeInHand_5 rfl rfl ?_
      refine gf_7_4 hC ht mw_2_36 dX7_countAlikeInHand_6 ?_
      rw [hn]
      refine v_icmp_ge hC dX7_countAlikeInHand_9 (tgt := 43) (by decide) (fun h9 => ?_) (fun h9 => ?_)
      · have hi := lp_ge h9
        refine v_iload_n hC dX7_countAlikeInHand_43 rfl rfl ?_
        refine v_iret hC dX7_countAlikeInHand_44 ?_
        have hie : i = n_f u := by omega
        subst hie
        exact ⟨rfl, rfl⟩
      · have hi := lp_lt h9
        refine v_aload_n hC dX7_countAlikeInHand_12 rfl rfl ?_
        refine gf_7_3 hC ht (wf_215 hW ht) mw_2_34 dX7_countAlikeInHand_13 ?_
        refine v_iload_n hC dX7_countAlikeInHand_16 rfl rfl ?_
        refine v_aald 51 _ hC (wf_215 hW ht) (by decide) rfl (ix_c (wz_51 hW (wf_215 hW ht)) (by omega)) (we_51 hW (wf_215 hW ht) (by omega)) dX7_countAlikeInHand_17 ?_
        refine cVi0 hC (c_X9_isInHand (we_51 hW (wf_215 hW ht) (by omega))) yv_X9_isInHand rfl (we_51 hW (wf_215 hW ht) (by omega)) mw_3_54 ⟨Nat.le_of_ble_eq_true rfl, Nat.le_of_ble_eq_true rfl⟩ ⟨Nat.le_of_ble_eq_true rfl, Nat.le_of_ble_eq_true rfl⟩ (Nat.le_of_ble_eq_true rfl) dX7_countAlikeInHand_18 (fun r18 M20 hq => ?_)
        obtain ⟨hm, hq2⟩ := hq
        have hm2 := hm.symm
        clear hm
        subst hm2
        obtain ⟨g18, rfl⟩ | ⟨g18, rfl⟩ := hq2
        · rw [(hR.f4 hi).1] at g18
          refine v_if_eq hC dX7_countAlikeInHand_21 (tgt := 37) (by decide) (fun hx => absurd hx (by decide)) (fun _ => ?_)
          refine v_iload_n hC dX7_countAlikeInHand_24 rfl rfl ?_
          refine v_aload_n hC dX7_countAlikeInHand_25 rfl rfl ?_
          refine gf_7_3 hC ht (wf_215 hW ht) mw_2_34 dX7_countAlikeInHand_26 ?_
          refine v_iload_n hC dX7_countAlikeInHand_29 rfl rfl ?_
          refine v_aald 51 _ hC (wf_215 hW ht) (by decide) rfl (ix_c (wz_51 hW (wf_215 hW ht)) (by omega)) (we_51 hW (wf_215 hW ht) (by omega)) dX7_countAlikeInHand_30 ?_
          refine v_aload_n hC dX7_countAlikeInHand_31 rfl rfl ?_
          refine cVi1 hC (c_X9_countAlike hW (we_51 hW (wf_215 hW ht) (by omega)) (hR.fs hi) hg) yv_X9_countAlike rfl (we_51 hW (wf_215 hW ht) (by omega)) mw_4_61 ⟨Nat.le_of_ble_eq_true rfl, Nat.le_of_ble_eq_true rfl⟩ ⟨Nat.le_of_ble_eq_true rfl, Nat.le_of_ble_eq_true rfl⟩ (Nat.le_of_ble_eq_true rfl) dX7_countAlikeInHand_32 (fun r32 M34 hq => ?_)
          obtain ⟨rfl, hm⟩ := hq
          have hm2 := hm.symm
          clear hm
          subst hm2
          refine v_iadd hC dX7_countAlikeInHand_35 ?_
          refine v_ist2 hC dX7_countAlikeInHand_36 (by decide) (kk := ?_)
          first | rw [show sm (T_al u g) i = sm (T_al u g) (i + 1) from by rw [sm_s, T_al, if_neg g18, Int32.add_zero]] | rw [show sm (T_al u g) i + sm (f_lk (q_g u 0 i) g) (n_s u i) = sm (T_al u g) (i + 1) from by rw [sm_s, T_al, if_pos g18]; rfl]
          refine v_inc3 hC dX7_countAlikeInHand_37 ((nI_succ i).symm) (by decide) (kk := ?_)
          refine v_goto hC dX7_countAlikeInHand_40 (tgt := 4) (by decide) ?_
          exact ih (i + 1) (by omega) (by omega)
        · rw [(hR.f4 hi).1] at g18
          refine v_if_eq hC dX7_countAlikeInHand_21 (tgt := 37) (by decide) (fun _ => ?_) (fun hx => absurd hx (by decide))
          first | rw [show sm (T_al u g) i = sm (T_al u g) (i + 1) from by rw [sm_s, T_al, if_neg g18, Int32.add_zero]] | rw [show sm (T_al u g) i + sm (f_lk (q_g u 0 i) g) (n_s u i) = sm (T_al u g) (i + 1) from by rw [sm_s, T_al, if_pos g18]; rfl]
          refine v_inc3 hC dX7_countAlikeInHand_37 ((nI_succ i).symm) (by decide) (kk := ?_)
          refine v_goto hC dX7_countAlikeInHand_40 (tgt := 4) (by decide) ?_
          exact ih (i + 1) (by omega) (by omega)
  refine v_iconst (v := 0) hC dX7_countAlikeInHand_0 (by decide) ?_
  refine v_ist2 hC dX7_countAlikeInHand_1 (by decide) (kk := ?_)
  refine v_iconst (v := 0) hC dX7_countAlikeInHand_2 (by decide) ?_
  refine v_ist3 hC dX7_countAlikeInHand_3 (by decide) (kk := ?_)
  exact loop 9 0 (by omega) (by omega)

set_option maxHeartbeats 4000000 in
set_option maxRecDepth 100000 in
theorem c_X7_countInHand {l : Launch} {G : Gd} {M : Me} {h : Nat} {u : Si} (hW : Wt M) (ht : m_t M h = 8) (hR : CR M h u) : CQ (Qi G (fun r M2 => r = sm (T_ih u) (n_f u) ∧ M2 = M)) l G yX7_countInHand cX7_countInHand 3 ((some .int)) 1 20 0 0 [.ref h] M := by
  refine c_of ([some (.ref h), none, none] : Lo) RX7 "countInHand" (by decide) rfl rfl (Nat.le_of_ble_eq_true rfl) rfl (fun p e s m below meth c hC nw => ?_)
  have hb : n_f u ≤ 8 := hR.2.1.1
  have hn : m_i M 216 h 0 = nI (n_f u) := hR.2.2.2.1.1
  have loop : ∀ (k i : Nat), i + k = 9 → i ≤ n_f u → V p l e (rmk 1 20 0 0) s m ([.ref h] : List Value).toArray below meth c 3 G (MQ below (Qi G (fun r M2 => r = sm (T_ih u) (n_f u) ∧ M2 = M)) ([.ref h] : List Value).toArray s 0 0 (fr_ G)) M 0 0 4 ([some (.ref h), some (.int (sm (T_ih u) i)), some (.int (nI i))] : Lo) [] := by
    intro k
    induction k with
    | zero => intro i e1 e2; omega
    | succ k ih =>
      intro i e1 e2
      refine v_iload_n hC dX7_countInHand_4 rfl rfl ?_
      refine v_aload_n hC dX7_countInHand_5 rfl rfl ?_
      refine gf_7_4 hC ht mw_2_36 dX7_countInHand_6 ?_
      rw [hn]
      refine v_icmp_ge hC dX7_countInHand_9 (tgt := 33) (by decide) (fun h9 => ?_) (fun h9 => ?_)
      · have hi := lp_ge h9
        refine v_iload_n hC dX7_countInHand_33 rfl rfl ?_
        refine v_iret hC dX7_countInHand_34 ?_
        have hie : i = n_f u := by omega
        subst hie
        exact ⟨rfl, rfl⟩
      · have hi := lp_lt h9
        refine v_aload_n hC dX7_countInHand_12 rfl rfl ?_
        refine gf_7_3 hC ht (wf_215 hW ht) mw_2_34 dX7_countInHand_13 ?_
        refine v_iload_n hC dX7_countInHand_16 rfl rfl ?_
        refine v_aald 51 _ hC (wf_215 hW ht) (by decide) rfl (ix_c (wz_51 hW (wf_215 hW ht)) (by omega)) (we_51 hW (wf_215 hW ht) (by omega)) dX7_countInHand_17 ?_
        refine cVi0 hC (c_X9_isInHand (we_51 hW (wf_215 hW ht) (by omega))) yv_X9_isInHand rfl (we_51 hW (wf_215 hW ht) (by omega)) mw_3_54 ⟨Nat.le_of_ble_eq_true rfl, Nat.le_of_ble_eq_true rfl⟩ ⟨Nat.le_of_ble_eq_true rfl, Nat.le_of_ble_eq_true rfl⟩ (Nat.le_of_ble_eq_true rfl) dX7_countInHand_18 (fun r18 M20 hq => ?_)
        obtain ⟨hm, hq2⟩ := hq
        have hm2 := hm.symm
        clear hm
        subst hm2
        obtain ⟨g18, rfl⟩ | ⟨g18, rfl⟩ := hq2
        · rw [(hR.f4 hi).1] at g18
          refine v_if_eq hC dX7_countInHand_21 (tgt := 27) (by decide) (fun hx => absurd hx (by decide)) (fun _ => ?_)
          refine v_inc1 hC dX7_countInHand_24 (rfl) (by decide) (kk := ?_)
          first | rw [show sm (T_ih u) i = sm (T_ih u) (i + 1) from by rw [sm_s, T_ih, if_neg g18, Int32.add_zero]] | rw [show sm (T_ih u) i + Int32.ofInt 1 = sm (T_ih u) (i + 1) from by rw [sm_s, T_ih, if_pos g18]; rfl]
          refine v_inc2 hC dX7_countInHand_27 ((nI_succ i).symm) (by decide) (kk := ?_)
          refine v_goto hC dX7_countInHand_30 (tgt := 4) (by decide) ?_
          exact ih (i + 1) (by omega) (by omega)
        · rw [(hR.f4 hi).1] at g18
          refine v_if_eq hC dX7_countInHand_21 (tgt := 27) (by decide) (fun _ => ?_) (fun hx => absurd hx (by decide))
          first | rw [show sm (T_ih u) i = sm (T_ih u) (i + 1) from by rw [sm_s, T_ih, if_neg g18, Int32.add_zero]] | rw [show sm (T_ih u) i + Int32.ofInt 1 = sm (T_ih u) (i + 1) from by rw [sm_s, T_ih, if_pos g18]; rfl]
          refine v_inc2 hC dX7_countInHand_27 ((nI_succ i).symm) (by decide) (kk := ?_)
          refine v_goto hC dX7_countInHand_30 (tgt := 4) (by decide) ?_
          exact ih (i + 1) (by omega) (by omega)
  refine v_iconst (v := 0) hC dX7_countInHand_0 (by decide) ?_
  refine v_ist1 hC dX7_countInHand_1 (by decide) (kk := ?_)
  refine v_iconst (v := 0) hC dX7_countInHand_2 (by decide) ?_
  refine v_ist2 hC dX7_countInHand_3 (by decide) (kk := ?_)
  exact loop 9 0 (by omega) (by omega)

set_option maxHeartbeats 4000000 in
set_option maxRecDepth 100000 in
theorem c_X7_countTranslating {l : Launch} {G : Gd} {M : Me} {h : Nat} {u : Si} {x : Int32} (hW : Wt M) (ht : m_t M h = 8) (hR : CR M h u) : CQ (Qi G (fun r M2 => r = sm (T_ct u x) (n_f u) ∧ M2 = M)) l G yX7_countTranslating cX7_countTranslating 5 ((some .int)) 1 21 0 0 [.ref h, .int x] M := by
  refine c_of ([some (.ref h), some (.int x), none, none, none] : Lo) RX7 "countTranslating" (by decide) rfl rfl (Nat.le_of_ble_eq_true rfl) rfl (fun p e s m below meth c hC nw => ?_)
  have hb : n_f u ≤ 8 := hR.2.1.1
  have hn : m_i M 216 h 0 = nI (n_f u) := hR.2.2.2.1.1
  have loop : ∀ (k i : Nat), i + k = 9 → i ≤ n_f u → V p l e (rmk 1 21 0 0) s m ([.ref h, .int x] : List Value).toArray below meth c 5 G (MQ below (Qi G (fun r M2 => r = sm (T_ct u x) (n_f u) ∧ M2 = M)) ([.ref h, .int x] : List Value).toArray s 0 0 (fr_ G)) M 0 0 4 ([some (.ref h), some (.int x), some (.int (sm (T_ct u x) i)), some (.int (nI i)), none] : Lo) [] := by
    intro k
    induction k with
    | zero => intro i e1 e2; omega
    | succ k ih =>
      intro i e1 e2
      refine v_iload_n hC dX7_countTranslating_4 rfl rfl ?_
      refine v_aload_n hC dX7_countTranslating_5 rfl rfl ?_
      refine gf_7_4 hC ht mw_2_36 dX7_countTranslating_6 ?_
      rw [hn]
      refine v_icmp_ge hC dX7_countTranslating_9 (tgt := 72) (by decide) (fun h9 => ?_) (fun h9 => ?_)
      · have hi := lp_ge h9
        refine v_iload_n hC dX7_countTranslating_72 rfl rfl ?_
        refine v_iret hC dX7_countTranslating_73 ?_
        have hie : i = n_f u := by omega
        subst hie
        exact ⟨rfl, rfl⟩
      · have hi := lp_lt h9
        refine v_aload_n hC dX7_countTranslating_12 rfl rfl ?_
        refine gf_7_3 hC ht (wf_215 hW ht) mw_2_34 dX7_countTranslating_13 ?_
        refine v_iload_n hC dX7_countTranslating_16 rfl rfl ?_
        refine v_aald 51 _ hC (wf_215 hW ht) (by decide) rfl (ix_c (wz_51 hW (wf_215 hW ht)) (by omega)) (we_51 hW (wf_215 hW ht) (by omega)) dX7_countTranslating_17 ?_
        refine gf_9_0 hC (we_51 hW (wf_215 hW ht) (by omega)) mw_1_132 dX7_countTranslating_18 ?_
        rw [(hR.f4 hi).1]
        refine v_iconst (v := 1) hC dX7_countTranslating_21 (by decide) ?_
        refine v_icmp_eq hC dX7_countTranslating_22 (tgt := 38) (by decide) (fun h22 => ?_) (fun h22 => ?_)
        · refine v_iconst (v := 1) hC dX7_countTranslating_38 (by decide) ?_
          refine v_goto hC dX7_countTranslating_39 (tgt := 43) (by decide) ?_
          refine v_ist4 hC dX7_countTranslating_43 (by decide) (kk := ?_)
          refine v_iload hC dX7_countTranslating_45 rfl ?_
          refine v_if_eq hC dX7_countTranslating_47 (tgt := 66) (by decide) (fun hx => absurd hx (by decide)) (fun _ => ?_)
          refine v_aload_n hC dX7_countTranslating_50 rfl rfl ?_
          refine gf_7_3 hC ht (wf_215 hW ht) mw_2_34 dX7_countTranslating_51 ?_
          refine v_iload_n hC dX7_countTranslating_54 rfl rfl ?_
          refine v_aald 51 _ hC (wf_215 hW ht) (by decide) rfl (ix_c (wz_51 hW (wf_215 hW ht)) (by omega)) (we_51 hW (wf_215 hW ht) (by omega)) dX7_countTranslating_55 ?_
          refine v_iload_n hC dX7_countTranslating_56 rfl rfl ?_
          refine cVi1 hC (c_X9_isTranslatedBy (we_51 hW (wf_215 hW ht) (by omega))) yv_X9_isTranslatedBy rfl (we_51 hW (wf_215 hW ht) (by omega)) mw_3_218 ⟨Nat.le_of_ble_eq_true rfl, Nat.le_of_ble_eq_true rfl⟩ ⟨Nat.le_of_ble_eq_true rfl, Nat.le_of_ble_eq_true rfl⟩ (Nat.le_of_ble_eq_true rfl) dX7_countTranslating_57 (fun r57 M59 hq => ?_)
          obtain ⟨hm, hq2⟩ := hq
          have hm2 := hm.symm
          clear hm
          subst hm2
          obtain ⟨g57, rfl⟩ | ⟨g57, rfl⟩ := hq2
          · rw [(hR.f4 hi).2.1] at g57
            refine v_if_eq hC dX7_countTranslating_60 (tgt := 66) (by decide) (fun hx => absurd hx (by decide)) (fun _ => ?_)
            refine v_inc2 hC dX7_countTranslating_63 (rfl) (by decide) (kk := ?_)
            first | rw [show sm (T_ct u x) i = sm (T_ct u x) (i + 1) from by rw [sm_s, T_ct, if_neg (fun q => no2 h22 h35 q.1), Int32.add_zero]] | rw [show sm (T_ct u x) i = sm (T_ct u x) (i + 1) from by rw [sm_s, T_ct, if_neg (fun q => g57 q.2), Int32.add_zero]] | rw [show sm (T_ct u x) i + Int32.ofInt 1 = sm (T_ct u x) (i + 1) from by rw [sm_s, T_ct, if_pos ⟨by first | exact Or.inl h22 | exact Or.inr h35, g57⟩]; rfl]
            refine v_inc3 hC dX7_countTranslating_66 ((nI_succ i).symm) (by decide) (kk := ?_)
            refine v_goto hC dX7_countTranslating_69 (tgt := 4) (by decide) ?_
            refine v_drop 4 ?_
            exact ih (i + 1) (by omega) (by omega)
          · rw [(hR.f4 hi).2.1] at g57
            refine v_if_eq hC dX7_countTranslating_60 (tgt := 66) (by decide) (fun _ => ?_) (fun hx => absurd hx (by decide))
            first | rw [show sm (T_ct u x) i = sm (T_ct u x) (i + 1) from by rw [sm_s, T_ct, if_neg (fun q => no2 h22 h35 q.1), Int32.add_zero]] | rw [show sm (T_ct u x) i = sm (T_ct u x) (i + 1) from by rw [sm_s, T_ct, if_neg (fun q => g57 q.2), Int32.add_zero]] | rw [show sm (T_ct u x) i + Int32.ofInt 1 = sm (T_ct u x) (i + 1) from by rw [sm_s, T_ct, if_pos ⟨by first | exact Or.inl h22 | exact Or.inr h35, g57⟩]; rfl]
            refine v_inc3 hC dX7_countTranslating_66 ((nI_succ i).symm) (by decide) (kk := ?_)
            refine v_goto hC dX7_countTranslating_69 (tgt := 4) (by decide) ?_
            refine v_drop 4 ?_
            exact ih (i + 1) (by omega) (by omega)
        · refine v_aload_n hC dX7_countTranslating_25 rfl rfl ?_
          refine gf_7_3 hC ht (wf_215 hW ht) mw_2_34 dX7_countTranslating_26 ?_
          refine v_iload_n hC dX7_countTranslating_29 rfl rfl ?_
          refine v_aald 51 _ hC (wf_215 hW ht) (by decide) rfl (ix_c (wz_51 hW (wf_215 hW ht)) (by omega)) (we_51 hW (wf_215 hW ht) (by omega)) dX7_countTranslating_30 ?_
          refine gf_9_0 hC (we_51 hW (wf_215 hW ht) (by omega)) mw_1_132 dX7_countTranslating_31 ?_
          rw [(hR.f4 hi).1]
          refine v_iconst (v := 2) hC dX7_countTranslating_34 (by decide) ?_
          refine v_icmp_ne hC dX7_countTranslating_35 (tgt := 42) (by decide) (fun h35 => ?_) (fun h35 => ?_)
          · refine v_iconst (v := 0) hC dX7_countTranslating_42 (by decide) ?_
            refine v_ist4 hC dX7_countTranslating_43 (by decide) (kk := ?_)
            refine v_iload hC dX7_countTranslating_45 rfl ?_
            refine v_if_eq hC dX7_countTranslating_47 (tgt := 66) (by decide) (fun _ => ?_) (fun hx => absurd hx (by decide))
            first | rw [show sm (T_ct u x) i = sm (T_ct u x) (i + 1) from by rw [sm_s, T_ct, if_neg (fun q => no2 h22 h35 q.1), Int32.add_zero]] | rw [show sm (T_ct u x) i = sm (T_ct u x) (i + 1) from by rw [sm_s, T_ct, if_neg (fun q => g57 q.2), Int32.add_zero]] | rw [show sm (T_ct u x) i + Int32.ofInt 1 = sm (T_ct u x) (i + 1) from by rw [sm_s, T_ct, if_pos ⟨by first | exact Or.inl h22 | exact Or.inr h35, g57⟩]; rfl]
            refine v_inc3 hC dX7_countTranslating_66 ((nI_succ i).symm) (by decide) (kk := ?_)
            refine v_goto hC dX7_countTranslating_69 (tgt := 4) (by decide) ?_
            refine v_drop 4 ?_
            exact ih (i + 1) (by omega) (by omega)
          · refine v_iconst (v := 1) hC dX7_countTranslating_38 (by decide) ?_
            refine v_goto hC dX7_countTranslating_39 (tgt := 43) (by decide) ?_
            refine v_ist4 hC dX7_countTranslating_43 (by decide) (kk := ?_)
            refine v_iload hC dX7_countTranslating_45 rfl ?_
            refine v_if_eq hC dX7_countTranslating_47 (tgt := 66) (by decide) (fun hx => absurd hx (by decide)) (fun _ => ?_)
            refine v_aload_n hC dX7_countTranslating_50 rfl rfl ?_
            refine gf_7_3 hC ht (wf_215 hW ht) mw_2_34 dX7_countTranslating_51 ?_
            refine v_iload_n hC dX7_countTranslating_54 rfl rfl ?_
            refine v_aald 51 _ hC (wf_215 hW ht) (by decide) rfl (ix_c (wz_51 hW (wf_215 hW ht)) (by omega)) (we_51 hW (wf_215 hW ht) (by omega)) dX7_countTranslating_55 ?_
            refine v_iload_n hC dX7_countTranslating_56 rfl rfl ?_
            refine cVi1 hC (c_X9_isTranslatedBy (we_51 hW (wf_215 hW ht) (by omega))) yv_X9_isTranslatedBy rfl (we_51 hW (wf_215 hW ht) (by omega)) mw_3_218 ⟨Nat.le_of_ble_eq_true rfl, Nat.le_of_ble_eq_true rfl⟩ ⟨Nat.le_of_ble_eq_true rfl, Nat.le_of_ble_eq_true rfl⟩ (Nat.le_of_ble_eq_true rfl) dX7_countTranslating_57 (fun r57 M59 hq => ?_)
            obtain ⟨hm, hq2⟩ := hq
            have hm2 := hm.symm
            clear hm
            subst hm2
            obtain ⟨g57, rfl⟩ | ⟨g57, rfl⟩ := hq2
            · rw [(hR.f4 hi).2.1] at g57
              refine v_if_eq hC dX7_countTranslating_60 (tgt := 66) (by decide) (fun hx => absurd hx (by decide)) (fun _ => ?_)
              refine v_inc2 hC dX7_countTranslating_63 (rfl) (by decide) (kk := ?_)
              first | rw [show sm (T_ct u x) i = sm (T_ct u x) (i + 1) from by rw [sm_s, T_ct, if_neg (fun q => no2 h22 h35 q.1), Int32.add_zero]] | rw [show sm (T_ct u x) i = sm (T_ct u x) (i + 1) from by rw [sm_s, T_ct, if_neg (fun q => g57 q.2), Int32.add_zero]] | rw [show sm (T_ct u x) i + Int32.ofInt 1 = sm (T_ct u x) (i + 1) from by rw [sm_s, T_ct, if_pos ⟨by first | exact Or.inl h22 | exact Or.inr h35, g57⟩]; rfl]
              refine v_inc3 hC dX7_countTranslating_66 ((nI_succ i).symm) (by decide) (kk := ?_)
              refine v_goto hC dX7_countTranslating_69 (tgt := 4) (by decide) ?_
              refine v_drop 4 ?_
              exact ih (i + 1) (by omega) (by omega)
            · rw [(hR.f4 hi).2.1] at g57
              refine v_if_eq hC dX7_countTranslating_60 (tgt := 66) (by decide) (fun _ => ?_) (fun hx => absurd hx (by decide))
              first | rw [show sm (T_ct u x) i = sm (T_ct u x) (i + 1) from by rw [sm_s, T_ct, if_neg (fun q => no2 h22 h35 q.1), Int32.add_zero]] | rw [show sm (T_ct u x) i = sm (T_ct u x) (i + 1) from by rw [sm_s, T_ct, if_neg (fun q => g57 q.2), Int32.add_zero]] | rw [show sm (T_ct u x) i + Int32.ofInt 1 = sm (T_ct u x) (i + 1) from by rw [sm_s, T_ct, if_pos ⟨by first | exact Or.inl h22 | exact Or.inr h35, g57⟩]; rfl]
              refine v_inc3 hC dX7_countTranslating_66 ((nI_succ i).symm) (by decide) (kk := ?_)
              refine v_goto hC dX7_countTranslating_69 (tgt := 4) (by decide) ?_
              refine v_drop 4 ?_
              exact ih (i + 1) (by omega) (by omega)
  refine v_iconst (v := 0) hC dX7_countTranslating_0 (by decide) ?_
  refine v_ist2 hC dX7_countTranslating_1 (by decide) (kk := ?_)
  refine v_iconst (v := 0) hC dX7_countTranslating_2 (by decide) ?_
  refine v_ist3 hC dX7_countTranslating_3 (by decide) (kk := ?_)
  exact loop 9 0 (by omega) (by omega)

set_option maxHeartbeats 4000000 in
set_option maxRecDepth 100000 in
theorem c_X7_countReviewing {l : Launch} {G : Gd} {M : Me} {h : Nat} {u : Si} {x : Int32} (hW : Wt M) (ht : m_t M h = 8) (hR : CR M h u) : CQ (Qi G (fun r M2 => r = sm (T_cr u x) (n_f u) ∧ M2 = M)) l G yX7_countReviewing cX7_countReviewing 4 ((some .int)) 1 21 0 0 [.ref h, .int x] M := by
  refine c_of ([some (.ref h), some (.int x), none, none] : Lo) RX7 "countReviewing" (by decide) rfl rfl (Nat.le_of_ble_eq_true rfl) rfl (fun p e s m below meth c hC nw => ?_)
  have hb : n_f u ≤ 8 := hR.2.1.1
  have hn : m_i M 216 h 0 = nI (n_f u) := hR.2.2.2.1.1
  have loop : ∀ (k i : Nat), i + k = 9 → i ≤ n_f u → V p l e (rmk 1 21 0 0) s m ([.ref h, .int x] : List Value).toArray below meth c 4 G (MQ below (Qi G (fun r M2 => r = sm (T_cr u x) (n_f u) ∧ M2 = M)) ([.ref h, .int x] : List Value).toArray s 0 0 (fr_ G)) M 0 0 4 ([some (.ref h), some (.int x), some (.int (sm (T_cr u x) i)), some (.int (nI i))] : Lo) [] := by
    intro k
    induction k with
    | zero => intro i e1 e2; omega
    | succ k ih =>
      intro i e1 e2
      refine v_iload_n hC dX7_countReviewing_4 rfl rfl ?_
      refine v_aload_n hC dX7_countReviewing_5 rfl rfl ?_
      refine gf_7_4 hC ht mw_2_36 dX7_countReviewing_6 ?_
      rw [hn]
      refine v_icmp_ge hC dX7_countReviewing_9 (tgt := 47) (by decide) (fun h9 => ?_) (fun h9 => ?_)
      · have hi := lp_ge h9
        refine v_iload_n hC dX7_countReviewing_47 rfl rfl ?_
        refine v_iret hC dX7_countReviewing_48 ?_
        have hie : i = n_f u := by omega
        subst hie
        exact ⟨rfl, rfl⟩
      · have hi := lp_lt h9
        refine v_aload_n hC dX7_countReviewing_12 rfl rfl ?_
        refine gf_7_3 hC ht (wf_215 hW ht) mw_2_34 dX7_countReviewing_13 ?_
        refine v_iload_n hC dX7_countReviewing_16 rfl rfl ?_
        refine v_aald 51 _ hC (wf_215 hW ht) (by decide) rfl (ix_c (wz_51 hW (wf_215 hW ht)) (by omega)) (we_51 hW (wf_215 hW ht) (by omega)) dX7_countReviewing_17 ?_
        refine gf_9_0 hC (we_51 hW (wf_215 hW ht) (by omega)) mw_1_132 dX7_countReviewing_18 ?_
        rw [(hR.f4 hi).1]
        refine v_iconst (v := 2) hC dX7_countReviewing_21 (by decide) ?_
        refine v_icmp_ne hC dX7_countReviewing_22 (tgt := 41) (by decide) (fun h22 => ?_) (fun h22 => ?_)
        · first | rw [show sm (T_cr u x) i = sm (T_cr u x) (i + 1) from by rw [sm_s, T_cr, if_neg (fun q => h22 q.1), Int32.add_zero]] | rw [show sm (T_cr u x) i = sm (T_cr u x) (i + 1) from by rw [sm_s, T_cr, if_neg (fun q => g32 q.2), Int32.add_zero]] | rw [show sm (T_cr u x) i + Int32.ofInt 1 = sm (T_cr u x) (i + 1) from by rw [sm_s, T_cr, if_pos ⟨h22, g32⟩]; rfl]
          refine v_inc3 hC dX7_countReviewing_41 ((nI_succ i).symm) (by decide) (kk := ?_)
          refine v_goto hC dX7_countReviewing_44 (tgt := 4) (by decide) ?_
          exact ih (i + 1) (by omega) (by omega)
        · refine v_aload_n hC dX7_countReviewing_25 rfl rfl ?_
          refine gf_7_3 hC ht (wf_215 hW ht) mw_2_34 dX7_countReviewing_26 ?_
          refine v_iload_n hC dX7_countReviewing_29 rfl rfl ?_
          refine v_aald 51 _ hC (wf_215 hW ht) (by decide) rfl (ix_c (wz_51 hW (wf_215 hW ht)) (by omega)) (we_51 hW (wf_215 hW ht) (by omega)) dX7_countReviewing_30 ?_
          refine v_iload_n hC dX7_countReviewing_31 rfl rfl ?_
          refine cVi1 hC (c_X9_isReviewedBy (we_51 hW (wf_215 hW ht) (by omega))) yv_X9_isReviewedBy rfl (we_51 hW (wf_215 hW ht) (by omega)) mw_3_226 ⟨Nat.le_of_ble_eq_true rfl, Nat.le_of_ble_eq_true rfl⟩ ⟨Nat.le_of_ble_eq_true rfl, Nat.le_of_ble_eq_true rfl⟩ (Nat.le_of_ble_eq_true rfl) dX7_countReviewing_32 (fun r32 M34 hq => ?_)
          obtain ⟨hm, hq2⟩ := hq
          have hm2 := hm.symm
          clear hm
          subst hm2
          obtain ⟨g32, rfl⟩ | ⟨g32, rfl⟩ := hq2
          · rw [(hR.f4 hi).2.2.1] at g32
            refine v_if_eq hC dX7_countReviewing_35 (tgt := 41) (by decide) (fun hx => absurd hx (by decide)) (fun _ => ?_)
            refine v_inc2 hC dX7_countReviewing_38 (rfl) (by decide) (kk := ?_)
            first | rw [show sm (T_cr u x) i = sm (T_cr u x) (i + 1) from by rw [sm_s, T_cr, if_neg (fun q => h22 q.1), Int32.add_zero]] | rw [show sm (T_cr u x) i = sm (T_cr u x) (i + 1) from by rw [sm_s, T_cr, if_neg (fun q => g32 q.2), Int32.add_zero]] | rw [show sm (T_cr u x) i + Int32.ofInt 1 = sm (T_cr u x) (i + 1) from by rw [sm_s, T_cr, if_pos ⟨h22, g32⟩]; rfl]
            refine v_inc3 hC dX7_countReviewing_41 ((nI_succ i).symm) (by decide) (kk := ?_)
            refine v_goto hC dX7_countReviewing_44 (tgt := 4) (by decide) ?_
            exact ih (i + 1) (by omega) (by omega)
          · rw [(hR.f4 hi).2.2.1] at g32
            refine v_if_eq hC dX7_countReviewing_35 (tgt := 41) (by decide) (fun _ => ?_) (fun hx => absurd hx (by decide))
            first | rw [show sm (T_cr u x) i = sm (T_cr u x) (i + 1) from by rw [sm_s, T_cr, if_neg (fun q => h22 q.1), Int32.add_zero]] | rw [show sm (T_cr u x) i = sm (T_cr u x) (i + 1) from by rw [sm_s, T_cr, if_neg (fun q => g32 q.2), Int32.add_zero]] | rw [show sm (T_cr u x) i + Int32.ofInt 1 = sm (T_cr u x) (i + 1) from by rw [sm_s, T_cr, if_pos ⟨h22, g32⟩]; rfl]
            refine v_inc3 hC dX7_countReviewing_41 ((nI_succ i).symm) (by decide) (kk := ?_)
            refine v_goto hC dX7_countReviewing_44 (tgt := 4) (by decide) ?_
            exact ih (i + 1) (by omega) (by omega)
  refine v_iconst (v := 0) hC dX7_countReviewing_0 (by decide) ?_
  refine v_ist2 hC dX7_countReviewing_1 (by decide) (kk := ?_)
  refine v_iconst (v := 0) hC dX7_countReviewing_2 (by decide) ?_
  refine v_ist3 hC dX7_countReviewing_3 (by decide) (kk := ?_)
  exact loop 9 0 (by omega) (by omega)

set_option maxHeartbeats 4000000 in
set_option maxRecDepth 100000 in
theorem c_X7_countInWay {l : Launch} {G : Gd} {M : Me} {h : Nat} {u : Si} {x : Int32} (hW : Wt M) (ht : m_t M h = 8) (hR : CR M h u) : CQ (Qi G (fun r M2 => r = sm (y_f u x) (n_f u) ∧ M2 = M)) l G yX7_countInWay cX7_countInWay 4 ((some .int)) 1 23 0 0 [.ref h, .int x] M := by
  refine c_of ([some (.ref h), some (.int x), none, none] : Lo) RX7 "countInWay" (by decide) rfl rfl (Nat.le_of_ble_eq_true rfl) rfl (fun p e s m below meth c hC nw => ?_)
  have hb : n_f u ≤ 8 := hR.2.1.1
  have hn : m_i M 216 h 0 = nI (n_f u) := hR.2.2.2.1.1
  have loop : ∀ (k i : Nat), i + k = 9 → i ≤ n_f u → V p l e (rmk 1 23 0 0) s m ([.ref h, .int x] : List Value).toArray below meth c 4 G (MQ below (Qi G (fun r M2 => r = sm (y_f u x) (n_f u) ∧ M2 = M)) ([.ref h, .int x] : List Value).toArray s 0 0 (fr_ G)) M 0 0 4 ([some (.ref h), some (.int x), some (.int (sm (y_f u x) i)), some (.int (nI i))] : Lo) [] := by
    intro k
    induction k with
    | zero => intro i e1 e2; omega
    | succ k ih =>
      intro i e1 e2
      refine v_iload_n hC dX7_countInWay_4 rfl rfl ?_
      refine v_aload_n hC dX7_countInWay_5 rfl rfl ?_
      refine gf_7_4 hC ht mw_2_36 dX7_countInWay_6 ?_
      rw [hn]
      refine v_icmp_ge hC dX7_countInWay_9 (tgt := 31) (by decide) (fun h9 => ?_) (fun h9 => ?_)
      · have hi := lp_ge h9
        refine v_iload_n hC dX7_countInWay_31 rfl rfl ?_
        refine v_iret hC dX7_countInWay_32 ?_
        have hie : i = n_f u := by omega
        subst hie
        exact ⟨rfl, rfl⟩
      · have hi := lp_lt h9
        refine v_iload_n hC dX7_countInWay_12 rfl rfl ?_
        refine v_aload_n hC dX7_countInWay_13 rfl rfl ?_
        refine gf_7_3 hC ht (wf_215 hW ht) mw_2_34 dX7_countInWay_14 ?_
        refine v_iload_n hC dX7_countInWay_17 rfl rfl ?_
        refine v_aald 51 _ hC (wf_215 hW ht) (by decide) rfl (ix_c (wz_51 hW (wf_215 hW ht)) (by omega)) (we_51 hW (wf_215 hW ht) (by omega)) dX7_countInWay_18 ?_
        refine v_iload_n hC dX7_countInWay_19 rfl rfl ?_
        refine cVi1 hC (c_X9_countInWay hW (we_51 hW (wf_215 hW ht) (by omega)) (hR.fs hi)) yv_X9_countInWay rfl (we_51 hW (wf_215 hW ht) (by omega)) mw_4_107 ⟨Nat.le_of_ble_eq_true rfl, Nat.le_of_ble_eq_true rfl⟩ ⟨Nat.le_of_ble_eq_true rfl, Nat.le_of_ble_eq_true rfl⟩ (Nat.le_of_ble_eq_true rfl) dX7_countInWay_20 (fun r20 M22 hq => ?_)
        obtain ⟨rfl, hm⟩ := hq
        have hm2 := hm.symm
        clear hm
        subst hm2
        refine v_iadd hC dX7_countInWay_23 ?_
        refine v_ist2 hC dX7_countInWay_24 (by decide) (kk := ?_)
        first | rw [show sm (y_f u x) i + sm (f_wy M (pF M h i) x) (n_s u i) = sm (y_f u x) (i + 1) from by rw [sm_s, y_f]; rw [hR.wy hi]; rfl]
        refine v_inc3 hC dX7_countInWay_25 ((nI_succ i).symm) (by decide) (kk := ?_)
        refine v_goto hC dX7_countInWay_28 (tgt := 4) (by decide) ?_
        exact ih (i + 1) (by omega) (by omega)
  refine v_iconst (v := 0) hC dX7_countInWay_0 (by decide) ?_
  refine v_ist2 hC dX7_countInWay_1 (by decide) (kk := ?_)
  refine v_iconst (v := 0) hC dX7_countInWay_2 (by decide) ?_
  refine v_ist3 hC dX7_countInWay_3 (by decide) (kk := ?_)
  exact loop 9 0 (by omega) (by omega)

set_option maxHeartbeats 4000000 in
set_option maxRecDepth 100000 in
theorem c_X7_paidInAll {l : Launch} {G : Gd} {M : Me} {h : Nat} {u : Si} (hW : Wt M) (ht : m_t M h = 8) (hR : CR M h u) : CQ (Qi G (fun r M2 => r = sm (T_pd u) (n_f u) ∧ M2 = M)) l G yX7_paidInAll cX7_paidInAll 3 ((some .int)) 3 62 0 0 [.ref h] M := by
  refine c_of ([some (.ref h), none, none] : Lo) RX7 "paidInAll" (by decide) rfl rfl (Nat.le_of_ble_eq_true rfl) rfl (fun p e s m below meth c hC nw => ?_)
  have hb : n_f u ≤ 8 := hR.2.1.1
  have hn : m_i M 216 h 0 = nI (n_f u) := hR.2.2.2.1.1
  have loop : ∀ (k i : Nat), i + k = 9 → i ≤ n_f u → V p l e (rmk 3 62 0 0) s m ([.ref h] : List Value).toArray below meth c 3 G (MQ below (Qi G (fun r M2 => r = sm (T_pd u) (n_f u) ∧ M2 = M)) ([.ref h] : List Value).toArray s 0 0 (fr_ G)) M 0 0 4 ([some (.ref h), some (.int (sm (T_pd u) i)), some (.int (nI i))] : Lo) [] := by
    intro k
    induction k with
    | zero => intro i e1 e2; omega
    | succ k ih =>
      intro i e1 e2
      refine v_iload_n hC dX7_paidInAll_4 rfl rfl ?_
      refine v_aload_n hC dX7_paidInAll_5 rfl rfl ?_
      refine gf_7_4 hC ht mw_2_36 dX7_paidInAll_6 ?_
      rw [hn]
      refine v_icmp_ge hC dX7_paidInAll_9 (tgt := 43) (by decide) (fun h9 => ?_) (fun h9 => ?_)
      · have hi := lp_ge h9
        refine v_iload_n hC dX7_paidInAll_43 rfl rfl ?_
        refine v_iret hC dX7_paidInAll_44 ?_
        have hie : i = n_f u := by omega
        subst hie
        exact ⟨rfl, rfl⟩
      · have hi := lp_lt h9
        refine v_aload_n hC dX7_paidInAll_12 rfl rfl ?_
        refine gf_7_3 hC ht (wf_215 hW ht) mw_2_34 dX7_paidInAll_13 ?_
        refine v_iload_n hC dX7_paidInAll_16 rfl rfl ?_
        refine v_aald 51 _ hC (wf_215 hW ht) (by decide) rfl (ix_c (wz_51 hW (wf_215 hW ht)) (by omega)) (we_51 hW (wf_215 hW ht) (by omega)) dX7_paidInAll_17 ?_
        refine gf_9_0 hC (we_51 hW (wf_215 hW ht) (by omega)) mw_1_132 dX7_paidInAll_18 ?_
        rw [(hR.f4 hi).1]
        refine v_iconst (v := 3) hC dX7_paidInAll_21 (by decide) ?_
        refine v_icmp_ne hC dX7_paidInAll_22 (tgt := 37) (by decide) (fun h22 => ?_) (fun h22 => ?_)
        · first | rw [show sm (T_pd u) i = sm (T_pd u) (i + 1) from by rw [sm_s, T_pd, if_neg h22, Int32.add_zero]] | rw [show sm (T_pd u) i + k_f u i = sm (T_pd u) (i + 1) from by rw [sm_s, T_pd, if_pos h22]]
          refine v_inc2 hC dX7_paidInAll_37 ((nI_succ i).symm) (by decide) (kk := ?_)
          refine v_goto hC dX7_paidInAll_40 (tgt := 4) (by decide) ?_
          exact ih (i + 1) (by omega) (by omega)
        · refine v_iload_n hC dX7_paidInAll_25 rfl rfl ?_
          refine v_aload_n hC dX7_paidInAll_26 rfl rfl ?_
          refine gf_7_3 hC ht (wf_215 hW ht) mw_2_34 dX7_paidInAll_27 ?_
          refine v_iload_n hC dX7_paidInAll_30 rfl rfl ?_
          refine v_aald 51 _ hC (wf_215 hW ht) (by decide) rfl (ix_c (wz_51 hW (wf_215 hW ht)) (by omega)) (we_51 hW (wf_215 hW ht) (by omega)) dX7_paidInAll_31 ?_
          refine cVi0 hC (c_X9_cost hW (we_51 hW (wf_215 hW ht) (by omega)) (hR.fs hi)) yv_X9_cost rfl (we_51 hW (wf_215 hW ht) (by omega)) mw_4_97 ⟨Nat.le_of_ble_eq_true rfl, Nat.le_of_ble_eq_true rfl⟩ ⟨Nat.le_of_ble_eq_true rfl, Nat.le_of_ble_eq_true rfl⟩ (Nat.le_of_ble_eq_true rfl) dX7_paidInAll_32 (fun r32 M34 hq => ?_)
          obtain ⟨hr, hm⟩ := hq
          have hm2 := hm.symm
          clear hm
          subst hm2
          rw [(hR.f4 hi).1, (hR.f4 hi).2.2.2.1] at hr
          have hr2 : r32 = k_f u i := hr
          clear hr
          subst hr2
          refine v_iadd hC dX7_paidInAll_35 ?_
          refine v_ist1 hC dX7_paidInAll_36 (by decide) (kk := ?_)
          first | rw [show sm (T_pd u) i = sm (T_pd u) (i + 1) from by rw [sm_s, T_pd, if_neg h22, Int32.add_zero]] | rw [show sm (T_pd u) i + k_f u i = sm (T_pd u) (i + 1) from by rw [sm_s, T_pd, if_pos h22]]
          refine v_inc2 hC dX7_paidInAll_37 ((nI_succ i).symm) (by decide) (kk := ?_)
          refine v_goto hC dX7_paidInAll_40 (tgt := 4) (by decide) ?_
          exact ih (i + 1) (by omega) (by omega)
  refine v_iconst (v := 0) hC dX7_paidInAll_0 (by decide) ?_
  refine v_ist1 hC dX7_paidInAll_1 (by decide) (kk := ?_)
  refine v_iconst (v := 0) hC dX7_paidInAll_2 (by decide) ?_
  refine v_ist2 hC dX7_paidInAll_3 (by decide) (kk := ?_)
  exact loop 9 0 (by omega) (by omega)

def T_pt (u : Si) (x : Int32) (f : Nat) : Int32 := if q_i u 4 f 0 = 3 ∧ q_i u 5 f 0 = x then q_i u 7 f 0 else 0
set_option maxHeartbeats 4000000 in
set_option maxRecDepth 100000 in
theorem c_X7_paidTo {l : Launch} {G : Gd} {M : Me} {h : Nat} {u : Si} {x : Int32} (hW : Wt M) (ht : m_t M h = 8) (hR : CR M h u) : CQ (Qi G (fun r M2 => r = 2 * sm (T_wr u x) (n_f u) + sm (T_pt u x) (n_f u) ∧ M2 = M)) l G yX7_paidTo cX7_paidTo 4 ((some .int)) 2 45 0 0 [.ref h, .int x] M := by
  refine c_of ([some (.ref h), some (.int x), none, none] : Lo) RX7 "paidTo" (by decide) rfl rfl (Nat.le_of_ble_eq_true rfl) rfl (fun p e s m below meth c hC nw => ?_)
  have hb : n_f u ≤ 8 := hR.2.1.1
  have hn : m_i M 216 h 0 = nI (n_f u) := hR.2.2.2.1.1
  have loop : ∀ (k i : Nat) (y : Int32), y = 2 * sm (T_wr u x) (n_f u) + sm (T_pt u x) i → i + k = 9 → i ≤ n_f u → V p l e (rmk 2 45 0 0) s m ([.ref h, .int x] : List Value).toArray below meth c 4 G (MQ below (Qi G (fun r M2 => r = 2 * sm (T_wr u x) (n_f u) + sm (T_pt u x) (n_f u) ∧ M2 = M)) ([.ref h, .int x] : List Value).toArray s 0 0 (fr_ G)) M 0 0 10 ([some (.ref h), some (.int x), some (.int y), some (.int (nI i))] : Lo) [] := by
    intro k
    induction k with
    | zero => intro i y hy e1 e2; omega
    | succ k ih =>
      intro i y hy e1 e2
      refine v_iload_n hC dX7_paidTo_10 rfl rfl ?_
      refine v_aload_n hC dX7_paidTo_11 rfl rfl ?_
      refine gf_7_4 hC ht mw_2_36 dX7_paidTo_12 ?_
      rw [hn]
      refine v_icmp_ge hC dX7_paidTo_15 (tgt := 62) (by decide) (fun h15 => ?_) (fun h15 => ?_)
      · have hi := lp_ge h15
        refine v_iload_n hC dX7_paidTo_62 rfl rfl ?_
        refine v_iret hC dX7_paidTo_63 ?_
        have hie : i = n_f u := by omega
        subst hie
        exact ⟨hy, rfl⟩
      · have hi := lp_lt h15
        refine v_aload_n hC dX7_paidTo_18 rfl rfl ?_
        refine gf_7_3 hC ht (wf_215 hW ht) mw_2_34 dX7_paidTo_19 ?_
        refine v_iload_n hC dX7_paidTo_22 rfl rfl ?_
        refine v_aald 51 _ hC (wf_215 hW ht) (by decide) rfl (ix_c (wz_51 hW (wf_215 hW ht)) (by omega)) (we_51 hW (wf_215 hW ht) (by omega)) dX7_paidTo_23 ?_
        refine gf_9_0 hC (we_51 hW (wf_215 hW ht) (by omega)) mw_1_132 dX7_paidTo_24 ?_
        rw [(hR.f4 hi).1]
        refine v_iconst (v := 3) hC dX7_paidTo_27 (by decide) ?_
        refine v_icmp_ne hC dX7_paidTo_28 (tgt := 56) (by decide) (fun h28 => ?_) (fun h28 => ?_)
        · refine v_inc3 hC dX7_paidTo_56 ((nI_succ i).symm) (by decide) (kk := ?_)
          refine v_goto hC dX7_paidTo_59 (tgt := 10) (by decide) ?_
          exact ih (i + 1) _ (by first | rw [hy, sm_s, T_pt, if_neg (fun q => h28 q.1), Int32.add_zero] | rw [hy, sm_s, T_pt, if_neg (fun q => g38 q.2), Int32.add_zero] | rw [hy, sm_s, T_pt, if_pos ⟨h28, g38⟩, Int32.add_assoc]) (by omega) (by omega)
        · refine v_aload_n hC dX7_paidTo_31 rfl rfl ?_
          refine gf_7_3 hC ht (wf_215 hW ht) mw_2_34 dX7_paidTo_32 ?_
          refine v_iload_n hC dX7_paidTo_35 rfl rfl ?_
          refine v_aald 51 _ hC (wf_215 hW ht) (by decide) rfl (ix_c (wz_51 hW (wf_215 hW ht)) (by omega)) (we_51 hW (wf_215 hW ht) (by omega)) dX7_paidTo_36 ?_
          refine v_iload_n hC dX7_paidTo_37 rfl rfl ?_
          refine cVi1 hC (c_X9_isTranslatedBy (we_51 hW (wf_215 hW ht) (by omega))) yv_X9_isTranslatedBy rfl (we_51 hW (wf_215 hW ht) (by omega)) mw_3_218 ⟨Nat.le_of_ble_eq_true rfl, Nat.le_of_ble_eq_true rfl⟩ ⟨Nat.le_of_ble_eq_true rfl, Nat.le_of_ble_eq_true rfl⟩ (Nat.le_of_ble_eq_true rfl) dX7_paidTo_38 (fun r38 M40 hq => ?_)
          obtain ⟨hm, hq2⟩ := hq
          have hm2 := hm.symm
          clear hm
          subst hm2
          obtain ⟨g38, rfl⟩ | ⟨g38, rfl⟩ := hq2
          · rw [(hR.f4 hi).2.1] at g38
            refine v_if_eq hC dX7_paidTo_41 (tgt := 56) (by decide) (fun hx => absurd hx (by decide)) (fun _ => ?_)
            refine v_iload_n hC dX7_paidTo_44 rfl rfl ?_
            refine v_aload_n hC dX7_paidTo_45 rfl rfl ?_
            refine gf_7_3 hC ht (wf_215 hW ht) mw_2_34 dX7_paidTo_46 ?_
            refine v_iload_n hC dX7_paidTo_49 rfl rfl ?_
            refine v_aald 51 _ hC (wf_215 hW ht) (by decide) rfl (ix_c (wz_51 hW (wf_215 hW ht)) (by omega)) (we_51 hW (wf_215 hW ht) (by omega)) dX7_paidTo_50 ?_
            refine gf_9_3 hC (we_51 hW (wf_215 hW ht) (by omega)) mw_1_141 dX7_paidTo_51 ?_
            rw [(hR.f4 hi).2.2.2.1]
            refine v_iadd hC dX7_paidTo_54 ?_
            refine v_ist2 hC dX7_paidTo_55 (by decide) (kk := ?_)
            refine v_inc3 hC dX7_paidTo_56 ((nI_succ i).symm) (by decide) (kk := ?_)
            refine v_goto hC dX7_paidTo_59 (tgt := 10) (by decide) ?_
            exact ih (i + 1) _ (by first | rw [hy, sm_s, T_pt, if_neg (fun q => h28 q.1), Int32.add_zero] | rw [hy, sm_s, T_pt, if_neg (fun q => g38 q.2), Int32.add_zero] | rw [hy, sm_s, T_pt, if_pos ⟨h28, g38⟩, Int32.add_assoc]) (by omega) (by omega)
          · rw [(hR.f4 hi).2.1] at g38
            refine v_if_eq hC dX7_paidTo_41 (tgt := 56) (by decide) (fun _ => ?_) (fun hx => absurd hx (by decide))
            refine v_inc3 hC dX7_paidTo_56 ((nI_succ i).symm) (by decide) (kk := ?_)
            refine v_goto hC dX7_paidTo_59 (tgt := 10) (by decide) ?_
            exact ih (i + 1) _ (by first | rw [hy, sm_s, T_pt, if_neg (fun q => h28 q.1), Int32.add_zero] | rw [hy, sm_s, T_pt, if_neg (fun q => g38 q.2), Int32.add_zero] | rw [hy, sm_s, T_pt, if_pos ⟨h28, g38⟩, Int32.add_assoc]) (by omega) (by omega)
  refine v_iconst (v := 2) hC dX7_paidTo_0 (by decide) ?_
  refine v_aload_n hC dX7_paidTo_1 rfl rfl ?_
  refine v_iload_n hC dX7_paidTo_2 rfl rfl ?_
  refine cVi1 hC (c_X7_wordsReviewed hW ht hR) yv_X7_wordsReviewed rfl ht mw_4_3 ⟨Nat.le_of_ble_eq_true rfl, Nat.le_of_ble_eq_true rfl⟩ ⟨Nat.le_of_ble_eq_true rfl, Nat.le_of_ble_eq_true rfl⟩ (Nat.le_of_ble_eq_true rfl) dX7_paidTo_3 (fun r3 M5 hq => ?_)
  obtain ⟨rfl, hm⟩ := hq
  have hm2 := hm.symm
  clear hm
  subst hm2
  refine v_imul hC dX7_paidTo_6 ?_
  refine v_ist2 hC dX7_paidTo_7 (by decide) (kk := ?_)
  refine v_iconst (v := 0) hC dX7_paidTo_8 (by decide) ?_
  refine v_ist3 hC dX7_paidTo_9 (by decide) (kk := ?_)
  exact loop 9 0 _ (Int32.add_zero _).symm (by omega) (by omega)
