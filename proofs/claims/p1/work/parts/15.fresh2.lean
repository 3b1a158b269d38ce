set_option maxHeartbeats 4000000 in
set_option maxRecDepth 100000 in
theorem c_X7_hasPerson0 {l : Launch} {G : Gd} {M : Me} {h : Nat} {x : Int32} (ht : m_t M h = 8) (h214 : m_i M 214 h 0 = 0) : CQ (Qi G (fun r M2 => r = 0 ∧ M2 = M)) l G yX7_hasPerson cX7_hasPerson 2 ((some .boolean)) 0 0 0 0 [.ref h, .int x] M := by
  refine c_of ([some (.ref h), some (.int x)] : Lo) RX7 "hasPerson" (by decide) rfl rfl (Nat.le_of_ble_eq_true rfl) rfl (fun p e s m below meth c hC nw => ?_)
  refine v_iload_n hC dX7_hasPerson_0 rfl rfl ?_
  refine v_if_lt hC dX7_hasPerson_1 (tgt := 16) (by decide) (fun h1 => ?_) (fun h1 => ?_)
  · refine v_iconst (v := 0) hC dX7_hasPerson_16 (by decide) ?_
    refine v_zret hC (Or.inl rfl) dX7_hasPerson_17 ?_
    exact ⟨rfl, rfl⟩
  · refine v_iload_n hC dX7_hasPerson_4 rfl rfl ?_
    refine v_aload_n hC dX7_hasPerson_5 rfl rfl ?_
    refine gf_7_2 hC ht mw_2_32 dX7_hasPerson_6 ?_
    rw [h214]
    refine v_icmp_ge hC dX7_hasPerson_9 (tgt := 16) (by decide) (fun h9 => ?_) (fun h9 => absurd (i_nlt h1) (by first | exact h9 | (intro q; exact h9 q)))
    refine v_iconst (v := 0) hC dX7_hasPerson_16 (by decide) ?_
    refine v_zret hC (Or.inl rfl) dX7_hasPerson_17 ?_
    exact ⟨rfl, rfl⟩

set_option maxHeartbeats 4000000 in
set_option maxRecDepth 100000 in
theorem c_X7_hasFile0 {l : Launch} {G : Gd} {M : Me} {h : Nat} {x : Int32} (ht : m_t M h = 8) (h216 : m_i M 216 h 0 = 0) : CQ (Qi G (fun r M2 => r = 0 ∧ M2 = M)) l G yX7_hasFile cX7_hasFile 2 ((some .boolean)) 0 0 0 0 [.ref h, .int x] M := by
  refine c_of ([some (.ref h), some (.int x)] : Lo) RX7 "hasFile" (by decide) rfl rfl (Nat.le_of_ble_eq_true rfl) rfl (fun p e s m below meth c hC nw => ?_)
  refine v_iload_n hC dX7_hasFile_0 rfl rfl ?_
  refine v_if_lt hC dX7_hasFile_1 (tgt := 16) (by decide) (fun h1 => ?_) (fun h1 => ?_)
  · refine v_iconst (v := 0) hC dX7_hasFile_16 (by decide) ?_
    refine v_zret hC (Or.inl rfl) dX7_hasFile_17 ?_
    exact ⟨rfl, rfl⟩
  · refine v_iload_n hC dX7_hasFile_4 rfl rfl ?_
    refine v_aload_n hC dX7_hasFile_5 rfl rfl ?_
    refine gf_7_4 hC ht mw_2_36 dX7_hasFile_6 ?_
    rw [h216]
    refine v_icmp_ge hC dX7_hasFile_9 (tgt := 16) (by decide) (fun h9 => ?_) (fun h9 => absurd (i_nlt h1) (by first | exact h9 | (intro q; exact h9 q)))
    refine v_iconst (v := 0) hC dX7_hasFile_16 (by decide) ?_
    refine v_zret hC (Or.inl rfl) dX7_hasFile_17 ?_
    exact ⟨rfl, rfl⟩

set_option maxHeartbeats 4000000 in
set_option maxRecDepth 100000 in
theorem c_X4_hasEntry0 {l : Launch} {G : Gd} {M : Me} {h : Nat} {x : Int32} (ht : m_t M h = 5) (h166 : m_i M 166 h 0 = 0) : CQ (Qi G (fun r M2 => r = 0 ∧ M2 = M)) l G yX4_hasEntry cX4_hasEntry 2 ((some .boolean)) 0 0 0 0 [.ref h, .int x] M := by
  refine c_of ([some (.ref h), some (.int x)] : Lo) RX4 "hasEntry" (by decide) rfl rfl (Nat.le_of_ble_eq_true rfl) rfl (fun p e s m below meth c hC nw => ?_)
  refine v_iload_n hC dX4_hasEntry_0 rfl rfl ?_
  refine v_if_lt hC dX4_hasEntry_1 (tgt := 16) (by decide) (fun h1 => ?_) (fun h1 => ?_)
  · refine v_iconst (v := 0) hC dX4_hasEntry_16 (by decide) ?_
    refine v_zret hC (Or.inl rfl) dX4_hasEntry_17 ?_
    exact ⟨rfl, rfl⟩
  · refine v_iload_n hC dX4_hasEntry_4 rfl rfl ?_
    refine v_aload_n hC dX4_hasEntry_5 rfl rfl ?_
    refine gf_4_2 hC ht mw_2_10 dX4_hasEntry_6 ?_
    rw [h166]
    refine v_icmp_ge hC dX4_hasEntry_9 (tgt := 16) (by decide) (fun h9 => ?_) (fun h9 => absurd (i_nlt h1) (by first | exact h9 | (intro q; exact h9 q)))
    refine v_iconst (v := 0) hC dX4_hasEntry_16 (by decide) ?_
    refine v_zret hC (Or.inl rfl) dX4_hasEntry_17 ?_
    exact ⟨rfl, rfl⟩

set_option maxHeartbeats 4000000 in
set_option maxRecDepth 100000 in
theorem c_X4_hasDispute0 {l : Launch} {G : Gd} {M : Me} {h : Nat} {x : Int32} (ht : m_t M h = 5) (h168 : m_i M 168 h 0 = 0) : CQ (Qi G (fun r M2 => r = 0 ∧ M2 = M)) l G yX4_hasDispute cX4_hasDispute 2 ((some .boolean)) 0 0 0 0 [.ref h, .int x] M := by
  refine c_of ([some (.ref h), some (.int x)] : Lo) RX4 "hasDispute" (by decide) rfl rfl (Nat.le_of_ble_eq_true rfl) rfl (fun p e s m below meth c hC nw => ?_)
  refine v_iload_n hC dX4_hasDispute_0 rfl rfl ?_
  refine v_if_lt hC dX4_hasDispute_1 (tgt := 16) (by decide) (fun h1 => ?_) (fun h1 => ?_)
  · refine v_iconst (v := 0) hC dX4_hasDispute_16 (by decide) ?_
    refine v_zret hC (Or.inl rfl) dX4_hasDispute_17 ?_
    exact ⟨rfl, rfl⟩
  · refine v_iload_n hC dX4_hasDispute_4 rfl rfl ?_
    refine v_aload_n hC dX4_hasDispute_5 rfl rfl ?_
    refine gf_4_4 hC ht mw_2_15 dX4_hasDispute_6 ?_
    rw [h168]
    refine v_icmp_ge hC dX4_hasDispute_9 (tgt := 16) (by decide) (fun h9 => ?_) (fun h9 => absurd (i_nlt h1) (by first | exact h9 | (intro q; exact h9 q)))
    refine v_iconst (v := 0) hC dX4_hasDispute_16 (by decide) ?_
    refine v_zret hC (Or.inl rfl) dX4_hasDispute_17 ?_
    exact ⟨rfl, rfl⟩

set_option maxHeartbeats 4000000 in
set_option maxRecDepth 100000 in
theorem c_X7_hasSegment0 {l : Launch} {G : Gd} {M : Me} {h : Nat} {x y : Int32} (ht : m_t M h = 8) (h216 : m_i M 216 h 0 = 0) : CQ (Qi G (fun r M2 => r = 0 ∧ M2 = M)) l G yX7_hasSegment cX7_hasSegment 3 ((some .boolean)) 1 21 0 0 [.ref h, .int x, .int y] M := by
  refine c_of ([some (.ref h), some (.int x), some (.int y)] : Lo) RX7 "hasSegment" (by decide) rfl rfl (Nat.le_of_ble_eq_true rfl) rfl (fun p e s m below meth c hC nw => ?_)
  refine v_aload_n hC dX7_hasSegment_0 rfl rfl ?_
  refine v_iload_n hC dX7_hasSegment_1 rfl rfl ?_
  refine cVi1 hC (c_X7_hasFile0 ht h216) yv_X7_hasFile rfl ht mw_3_64 ⟨Nat.le_of_ble_eq_true rfl, Nat.le_of_ble_eq_true rfl⟩ ⟨Nat.le_of_ble_eq_true rfl, Nat.le_of_ble_eq_true rfl⟩ (Nat.le_of_ble_eq_true rfl) dX7_hasSegment_2 (fun r2 M4 hq => ?_)
  obtain ⟨rfl, hm⟩ := hq
  have hm2 := hm.symm
  clear hm
  subst hm2
  refine v_if_eq hC dX7_hasSegment_5 (tgt := 29) (by decide) (fun _ => ?_) (fun hx => absurd hx (by decide))
  refine v_iconst (v := 0) hC dX7_hasSegment_29 (by decide) ?_
  refine v_zret hC (Or.inl rfl) dX7_hasSegment_30 ?_
  exact ⟨rfl, rfl⟩

set_option maxHeartbeats 4000000 in
set_option maxRecDepth 100000 in
theorem c_X7_countInHand0 {l : Launch} {G : Gd} {M : Me} {h : Nat} (ht : m_t M h = 8) (h216 : m_i M 216 h 0 = 0) : CQ (Qi G (fun r M2 => r = 0 ∧ M2 = M)) l G yX7_countInHand cX7_countInHand 3 ((some .int)) 0 0 0 0 [.ref h] M := by
  refine c_of ([some (.ref h), none, none] : Lo) RX7 "countInHand" (by decide) rfl rfl (Nat.le_of_ble_eq_true rfl) rfl (fun p e s m below meth c hC nw => ?_)
  refine v_iconst (v := 0) hC dX7_countInHand_0 (by decide) ?_
  refine v_ist1 hC dX7_countInHand_1 (by decide) (kk := ?_)
  refine v_iconst (v := 0) hC dX7_countInHand_2 (by decide) ?_
  refine v_ist2 hC dX7_countInHand_3 (by decide) (kk := ?_)
  refine v_iload_n hC dX7_countInHand_4 rfl rfl ?_
  refine v_aload_n hC dX7_countInHand_5 rfl rfl ?_
  refine gf_7_4 hC ht mw_2_36 dX7_countInHand_6 ?_
  rw [h216]
  refine v_icmp_ge hC dX7_countInHand_9 (tgt := 33) (by decide) (fun _ => ?_) (fun hx => absurd hx (by decide))
  refine v_iload_n hC dX7_countInHand_33 rfl rfl ?_
  refine v_iret hC dX7_countInHand_34 ?_
  exact ⟨rfl, rfl⟩

set_option maxHeartbeats 4000000 in
set_option maxRecDepth 100000 in
theorem c_X7_wordsInHand0 {l : Launch} {G : Gd} {M : Me} {h : Nat} (ht : m_t M h = 8) (h216 : m_i M 216 h 0 = 0) : CQ (Qi G (fun r M2 => r = 0 ∧ M2 = M)) l G yX7_wordsInHand cX7_wordsInHand 3 ((some .int)) 0 0 0 0 [.ref h] M := by
  refine c_of ([some (.ref h), none, none] : Lo) RX7 "wordsInHand" (by decide) rfl rfl (Nat.le_of_ble_eq_true rfl) rfl (fun p e s m below meth c hC nw => ?_)
  refine v_iconst (v := 0) hC dX7_wordsInHand_0 (by decide) ?_
  refine v_ist1 hC dX7_wordsInHand_1 (by decide) (kk := ?_)
  refine v_iconst (v := 0) hC dX7_wordsInHand_2 (by decide) ?_
  refine v_ist2 hC dX7_wordsInHand_3 (by decide) (kk := ?_)
  refine v_iload_n hC dX7_wordsInHand_4 rfl rfl ?_
  refine v_aload_n hC dX7_wordsInHand_5 rfl rfl ?_
  refine gf_7_4 hC ht mw_2_36 dX7_wordsInHand_6 ?_
  rw [h216]
  refine v_icmp_ge hC dX7_wordsInHand_9 (tgt := 42) (by decide) (fun _ => ?_) (fun hx => absurd hx (by decide))
  refine v_iload_n hC dX7_wordsInHand_42 rfl rfl ?_
  refine v_iret hC dX7_wordsInHand_43 ?_
  exact ⟨rfl, rfl⟩

set_option maxHeartbeats 4000000 in
set_option maxRecDepth 100000 in
theorem c_X7_wordsDelivered0 {l : Launch} {G : Gd} {M : Me} {h : Nat} (ht : m_t M h = 8) (h216 : m_i M 216 h 0 = 0) : CQ (Qi G (fun r M2 => r = 0 ∧ M2 = M)) l G yX7_wordsDelivered cX7_wordsDelivered 3 ((some .int)) 0 0 0 0 [.ref h] M := by
  refine c_of ([some (.ref h), none, none] : Lo) RX7 "wordsDelivered" (by decide) rfl rfl (Nat.le_of_ble_eq_true rfl) rfl (fun p e s m below meth c hC nw => ?_)
  refine v_iconst (v := 0) hC dX7_wordsDelivered_0 (by decide) ?_
  refine v_ist1 hC dX7_wordsDelivered_1 (by decide) (kk := ?_)
  refine v_iconst (v := 0) hC dX7_wordsDelivered_2 (by decide) ?_
  refine v_ist2 hC dX7_wordsDelivered_3 (by decide) (kk := ?_)
  refine v_iload_n hC dX7_wordsDelivered_4 rfl rfl ?_
  refine v_aload_n hC dX7_wordsDelivered_5 rfl rfl ?_
  refine gf_7_4 hC ht mw_2_36 dX7_wordsDelivered_6 ?_
  rw [h216]
  refine v_icmp_ge hC dX7_wordsDelivered_9 (tgt := 43) (by decide) (fun _ => ?_) (fun hx => absurd hx (by decide))
  refine v_iload_n hC dX7_wordsDelivered_43 rfl rfl ?_
  refine v_iret hC dX7_wordsDelivered_44 ?_
  exact ⟨rfl, rfl⟩

set_option maxHeartbeats 4000000 in
set_option maxRecDepth 100000 in
theorem c_X7_paidInAll0 {l : Launch} {G : Gd} {M : Me} {h : Nat} (ht : m_t M h = 8) (h216 : m_i M 216 h 0 = 0) : CQ (Qi G (fun r M2 => r = 0 ∧ M2 = M)) l G yX7_paidInAll cX7_paidInAll 3 ((some .int)) 0 0 0 0 [.ref h] M := by
  refine c_of ([some (.ref h), none, none] : Lo) RX7 "paidInAll" (by decide) rfl rfl (Nat.le_of_ble_eq_true rfl) rfl (fun p e s m below meth c hC nw => ?_)
  refine v_iconst (v := 0) hC dX7_paidInAll_0 (by decide) ?_
  refine v_ist1 hC dX7_paidInAll_1 (by decide) (kk := ?_)
  refine v_iconst (v := 0) hC dX7_paidInAll_2 (by decide) ?_
  refine v_ist2 hC dX7_paidInAll_3 (by decide) (kk := ?_)
  refine v_iload_n hC dX7_paidInAll_4 rfl rfl ?_
  refine v_aload_n hC dX7_paidInAll_5 rfl rfl ?_
  refine gf_7_4 hC ht mw_2_36 dX7_paidInAll_6 ?_
  rw [h216]
  refine v_icmp_ge hC dX7_paidInAll_9 (tgt := 43) (by decide) (fun _ => ?_) (fun hx => absurd hx (by decide))
  refine v_iload_n hC dX7_paidInAll_43 rfl rfl ?_
  refine v_iret hC dX7_paidInAll_44 ?_
  exact ⟨rfl, rfl⟩

set_option maxHeartbeats 4000000 in
set_option maxRecDepth 100000 in
theorem c_X7_countInHandWithoutTarget0 {l : Launch} {G : Gd} {M : Me} {h : Nat} (ht : m_t M h = 8) (h216 : m_i M 216 h 0 = 0) : CQ (Qi G (fun r M2 => r = 0 ∧ M2 = M)) l G yX7_countInHandWithoutTarget cX7_countInHandWithoutTarget 3 ((some .int)) 0 0 0 0 [.ref h] M := by
  refine c_of ([some (.ref h), none, none] : Lo) RX7 "countInHandWithoutTarget" (by decide) rfl rfl (Nat.le_of_ble_eq_true rfl) rfl (fun p e s m below meth c hC nw => ?_)
  refine v_iconst (v := 0) hC dX7_countInHandWithoutTarget_0 (by decide) ?_
  refine v_ist1 hC dX7_countInHandWithoutTarget_1 (by decide) (kk := ?_)
  refine v_iconst (v := 0) hC dX7_countInHandWithoutTarget_2 (by decide) ?_
  refine v_ist2 hC dX7_countInHandWithoutTarget_3 (by decide) (kk := ?_)
  refine v_iload_n hC dX7_countInHandWithoutTarget_4 rfl rfl ?_
  refine v_aload_n hC dX7_countInHandWithoutTarget_5 rfl rfl ?_
  refine gf_7_4 hC ht mw_2_36 dX7_countInHandWithoutTarget_6 ?_
  rw [h216]
  refine v_icmp_ge hC dX7_countInHandWithoutTarget_9 (tgt := 42) (by decide) (fun _ => ?_) (fun hx => absurd hx (by decide))
  refine v_iload_n hC dX7_countInHandWithoutTarget_42 rfl rfl ?_
  refine v_iret hC dX7_countInHandWithoutTarget_43 ?_
  exact ⟨rfl, rfl⟩

set_option maxHeartbeats 4000000 in
set_option maxRecDepth 100000 in
theorem c_X7_countInWay0 {l : Launch} {G : Gd} {M : Me} {h : Nat} {x : Int32} (ht : m_t M h = 8) (h216 : m_i M 216 h 0 = 0) : CQ (Qi G (fun r M2 => r = 0 ∧ M2 = M)) l G yX7_countInWay cX7_countInWay 4 ((some .int)) 0 0 0 0 [.ref h, .int x] M := by
  refine c_of ([some (.ref h), some (.int x), none, none] : Lo) RX7 "countInWay" (by decide) rfl rfl (Nat.le_of_ble_eq_true rfl) rfl (fun p e s m below meth c hC nw => ?_)
  refine v_iconst (v := 0) hC dX7_countInWay_0 (by decide) ?_
  refine v_ist2 hC dX7_countInWay_1 (by decide) (kk := ?_)
  refine v_iconst (v := 0) hC dX7_countInWay_2 (by decide) ?_
  refine v_ist3 hC dX7_countInWay_3 (by decide) (kk := ?_)
  refine v_iload_n hC dX7_countInWay_4 rfl rfl ?_
  refine v_aload_n hC dX7_countInWay_5 rfl rfl ?_
  refine gf_7_4 hC ht mw_2_36 dX7_countInWay_6 ?_
  rw [h216]
  refine v_icmp_ge hC dX7_countInWay_9 (tgt := 31) (by decide) (fun _ => ?_) (fun hx => absurd hx (by decide))
  refine v_iload_n hC dX7_countInWay_31 rfl rfl ?_
  refine v_iret hC dX7_countInWay_32 ?_
  exact ⟨rfl, rfl⟩

set_option maxHeartbeats 4000000 in
set_option maxRecDepth 100000 in
theorem c_X4_countOpenDisputes0 {l : Launch} {G : Gd} {M : Me} {h : Nat} (ht : m_t M h = 5) (h168 : m_i M 168 h 0 = 0) : CQ (Qi G (fun r M2 => r = 0 ∧ M2 = M)) l G yX4_countOpenDisputes cX4_countOpenDisputes 3 ((some .int)) 0 0 0 0 [.ref h] M := by
  refine c_of ([some (.ref h), none, none] : Lo) RX4 "countOpenDisputes" (by decide) rfl rfl (Nat.le_of_ble_eq_true rfl) rfl (fun p e s m below meth c hC nw => ?_)
  refine v_iconst (v := 0) hC dX4_countOpenDisputes_0 (by decide) ?_
  refine v_ist1 hC dX4_countOpenDisputes_1 (by decide) (kk := ?_)
  refine v_iconst (v := 0) hC dX4_countOpenDisputes_2 (by decide) ?_
  refine v_ist2 hC dX4_countOpenDisputes_3 (by decide) (kk := ?_)
  refine v_iload_n hC dX4_countOpenDisputes_4 rfl rfl ?_
  refine v_aload_n hC dX4_countOpenDisputes_5 rfl rfl ?_
  refine gf_4_4 hC ht mw_2_15 dX4_countOpenDisputes_6 ?_
  rw [h168]
  refine v_icmp_ge hC dX4_countOpenDisputes_9 (tgt := 33) (by decide) (fun _ => ?_) (fun hx => absurd hx (by decide))
  refine v_iload_n hC dX4_countOpenDisputes_33 rfl rfl ?_
  refine v_iret hC dX4_countOpenDisputes_34 ?_
  exact ⟨rfl, rfl⟩

set_option maxHeartbeats 4000000 in
set_option maxRecDepth 100000 in
theorem c_X8_fault0 {l : Launch} {G : Gd} {M : Me} {h : Nat} (ht : m_t M h = 9) (h229 : m_i M 229 h 0 = 0) : CQ (Qi G (fun r M2 => r = 0 ∧ M2 = M)) l G yX8_fault cX8_fault 5 ((some .int)) 0 0 0 0 [.ref h] M := by
  refine c_of ([some (.ref h), none, none, none, none] : Lo) RX8 "fault" (by decide) rfl rfl (Nat.le_of_ble_eq_true rfl) rfl (fun p e s m below meth c hC nw => ?_)
  refine v_iconst (v := 0) hC dX8_fault_0 (by decide) ?_
  refine v_ist1 hC dX8_fault_1 (by decide) (kk := ?_)
  refine v_iconst (v := 1) hC dX8_fault_2 (by decide) ?_
  refine v_ist2 hC dX8_fault_3 (by decide) (kk := ?_)
  refine v_iconst (v := 0) hC dX8_fault_4 (by decide) ?_
  refine v_ist3 hC dX8_fault_5 (by decide) (kk := ?_)
  refine v_iload_n hC dX8_fault_6 rfl rfl ?_
  refine v_aload_n hC dX8_fault_7 rfl rfl ?_
  refine gf_8_1 hC ht mw_1_70 dX8_fault_8 ?_
  rw [h229]
  refine v_icmp_ge hC dX8_fault_11 (tgt := 99) (by decide) (fun _ => ?_) (fun hx => absurd hx (by decide))
  refine v_iload_n hC dX8_fault_99 rfl rfl ?_
  refine v_if_ne hC dX8_fault_100 (tgt := 110) (by decide) (fun hx => absurd hx (by decide)) (fun _ => ?_)
  refine v_aload_n hC dX8_fault_103 rfl rfl ?_
  refine gf_8_1 hC ht mw_1_70 dX8_fault_104 ?_
  rw [h229]
  refine v_goto hC dX8_fault_107 (tgt := 111) (by decide) ?_
  refine v_iret hC dX8_fault_111 ?_
  exact ⟨rfl, rfl⟩

set_option maxHeartbeats 4000000 in
set_option maxRecDepth 100000 in
theorem c_X10_isBand {l : Launch} {G : Gd} {M : Me} {x : Int32}  : CQ (Qi G (fun r M2 => M2 = M ∧ ((0 ≤ x ∧ x < 6) ∧ r = 1 ∨ ¬ (0 ≤ x ∧ x < 6) ∧ r = 0))) l G yX10_isBand cX10_isBand 1 ((some .boolean)) 0 0 0 0 [.int x] M := by
  refine c_of ([some (.int x)] : Lo) RX10 "isBand" (by decide) rfl rfl (Nat.le_of_ble_eq_true rfl) rfl (fun p e s m below meth c hC nw => ?_)
  refine v_iload_n hC dX10_isBand_0 rfl rfl ?_
  refine v_if_lt hC dX10_isBand_1 (tgt := 14) (by decide) (fun h1 => ?_) (fun h1 => ?_)
  · refine v_iconst (v := 0) hC dX10_isBand_14 (by decide) ?_
    refine v_zret hC (Or.inl rfl) dX10_isBand_15 ?_
    exact ⟨rfl, Or.inr ⟨fun q => by first | exact i_ab h1 q.1 | exact i_ab q.2 h7, rfl⟩⟩
  · refine v_iload_n hC dX10_isBand_4 rfl rfl ?_
    refine v_bipush (v := 6) hC dX10_isBand_5 (by decide) ?_
    refine v_icmp_ge hC dX10_isBand_7 (tgt := 14) (by decide) (fun h7 => ?_) (fun h7 => ?_)
    · refine v_iconst (v := 0) hC dX10_isBand_14 (by decide) ?_
      refine v_zret hC (Or.inl rfl) dX10_isBand_15 ?_
      exact ⟨rfl, Or.inr ⟨fun q => by first | exact i_ab h1 q.1 | exact i_ab q.2 h7, rfl⟩⟩
    · refine v_iconst (v := 1) hC dX10_isBand_10 (by decide) ?_
      refine v_goto hC dX10_isBand_11 (tgt := 15) (by decide) ?_
      refine v_zret hC (Or.inr rfl) dX10_isBand_15 ?_
      exact ⟨rfl, Or.inl ⟨⟨i_nlt h1, i_nle h7⟩, rfl⟩⟩

set_option maxHeartbeats 4000000 in
set_option maxRecDepth 100000 in
theorem c_X10_bar0 {l : Launch} {G : Gd} {M : Me} {h : Nat} {x y z : Int32} (hW : Wt M) (hs : Fs M h) : CQ (Qi G (fun r M2 => r = -1 ∧ M2 = M)) l G yX10_bar cX10_bar 4 ((some .int)) 1 21 0 0 [.ref h, .int x, .int y, .int z] M := by
  refine c_of ([some (.ref h), some (.int x), some (.int y), some (.int z)] : Lo) RX10 "bar" (by decide) rfl rfl (Nat.le_of_ble_eq_true rfl) rfl (fun p e s m below meth c hC nw => ?_)
  obtain ⟨ht, h214, h216, h166, h168, h133, h229, h264, hsh, hn1, hn2⟩ := hs
  refine v_aload_n hC dX10_bar_0 rfl rfl ?_
  refine gf_10_1 hC ht (wf_261 hW ht) mw_2_79 dX10_bar_1 ?_
  refine v_iload_n hC dX10_bar_4 rfl rfl ?_
  refine cVi1 hC (c_X7_hasPerson0 (wf_261 hW ht) h214) yv_X7_hasPerson rfl (wf_261 hW ht) mw_2_143 ⟨Nat.le_of_ble_eq_true rfl, Nat.le_of_ble_eq_true rfl⟩ ⟨Nat.le_of_ble_eq_true rfl, Nat.le_of_ble_eq_true rfl⟩ (Nat.le_of_ble_eq_true rfl) dX10_bar_5 (fun r5 M7 hq => ?_)
  obtain ⟨rfl, hm⟩ := hq
  have hm2 := hm.symm
  clear hm
  subst hm2
  refine v_if_eq hC dX10_bar_8 (tgt := 22) (by decide) (fun _ => ?_) (fun hx => absurd hx (by decide))
  refine v_iconst (v := (-1)) hC dX10_bar_22 (by decide) ?_
  refine v_iret hC dX10_bar_23 ?_
  exact ⟨rfl, rfl⟩

set_option maxHeartbeats 4000000 in
set_option maxRecDepth 100000 in
theorem c_X10_readSegments0 {l : Launch} {G : Gd} {M : Me} {h : Nat} {x : Int32} (hW : Wt M) (hs : Fs M h) : CQ (Qi G (fun r M2 => r = -1 ∧ M2 = M)) l G yX10_readSegments cX10_readSegments 4 ((some .int)) 1 21 0 0 [.ref h, .int x] M := by
  refine c_of ([some (.ref h), some (.int x), none, none] : Lo) RX10 "readSegments" (by decide) rfl rfl (Nat.le_of_ble_eq_true rfl) rfl (fun p e s m below meth c hC nw => ?_)
  obtain ⟨ht, h214, h216, h166, h168, h133, h229, h264, hsh, hn1, hn2⟩ := hs
  refine v_aload_n hC dX10_readSegments_0 rfl rfl ?_
  refine gf_10_1 hC ht (wf_261 hW ht) mw_2_79 dX10_readSegments_1 ?_
  refine v_iload_n hC dX10_readSegments_4 rfl rfl ?_
  refine cVi1 hC (c_X7_hasFile0 (wf_261 hW ht) h216) yv_X7_hasFile rfl (wf_261 hW ht) mw_2_193 ⟨Nat.le_of_ble_eq_true rfl, Nat.le_of_ble_eq_true rfl⟩ ⟨Nat.le_of_ble_eq_true rfl, Nat.le_of_ble_eq_true rfl⟩ (Nat.le_of_ble_eq_true rfl) dX10_readSegments_5 (fun r5 M7 hq => ?_)
  obtain ⟨rfl, hm⟩ := hq
  have hm2 := hm.symm
  clear hm
  subst hm2
  refine v_if_ne hC dX10_readSegments_8 (tgt := 13) (by decide) (fun hx => absurd hx (by decide)) (fun _ => ?_)
  refine v_iconst (v := (-1)) hC dX10_readSegments_11 (by decide) ?_
  refine v_iret hC dX10_readSegments_12 ?_
  exact ⟨rfl, rfl⟩

set_option maxHeartbeats 4000000 in
set_option maxRecDepth 100000 in
theorem c_X10_swapFiles0 {l : Launch} {G : Gd} {M : Me} {h : Nat} {x y : Int32} (hW : Wt M) (hs : Fs M h) : CQ (Qi G (fun r M2 => r = -1 ∧ M2 = M)) l G yX10_swapFiles cX10_swapFiles 3 ((some .int)) 1 21 0 0 [.ref h, .int x, .int y] M := by
  refine c_of ([some (.ref h), some (.int x), some (.int y)] : Lo) RX10 "swapFiles" (by decide) rfl rfl (Nat.le_of_ble_eq_true rfl) rfl (fun p e s m below meth c hC nw => ?_)
  obtain ⟨ht, h214, h216, h166, h168, h133, h229, h264, hsh, hn1, hn2⟩ := hs
  refine v_aload_n hC dX10_swapFiles_0 rfl rfl ?_
  refine gf_10_1 hC ht (wf_261 hW ht) mw_2_79 dX10_swapFiles_1 ?_
  refine v_iload_n hC dX10_swapFiles_4 rfl rfl ?_
  refine cVi1 hC (c_X7_hasFile0 (wf_261 hW ht) h216) yv_X7_hasFile rfl (wf_261 hW ht) mw_2_193 ⟨Nat.le_of_ble_eq_true rfl, Nat.le_of_ble_eq_true rfl⟩ ⟨Nat.le_of_ble_eq_true rfl, Nat.le_of_ble_eq_true rfl⟩ (Nat.le_of_ble_eq_true rfl) dX10_swapFiles_5 (fun r5 M7 hq => ?_)
  obtain ⟨rfl, hm⟩ := hq
  have hm2 := hm.symm
  clear hm
  subst hm2
  refine v_if_eq hC dX10_swapFiles_8 (tgt := 22) (by decide) (fun _ => ?_) (fun hx => absurd hx (by decide))
  refine v_iconst (v := (-1)) hC dX10_swapFiles_22 (by decide) ?_
  refine v_iret hC dX10_swapFiles_23 ?_
  exact ⟨rfl, rfl⟩

set_option maxHeartbeats 4000000 in
set_option maxRecDepth 100000 in
theorem c_X10_withdraw0 {l : Launch} {G : Gd} {M : Me} {h : Nat} {x : Int32} (hW : Wt M) (hs : Fs M h) : CQ (Qi G (fun r M2 => r = -1 ∧ M2 = M)) l G yX10_withdraw cX10_withdraw 3 ((some .int)) 1 21 0 0 [.ref h, .int x] M := by
  refine c_of ([some (.ref h), some (.int x), none] : Lo) RX10 "withdraw" (by decide) rfl rfl (Nat.le_of_ble_eq_true rfl) rfl (fun p e s m below meth c hC nw => ?_)
  obtain ⟨ht, h214, h216, h166, h168, h133, h229, h264, hsh, hn1, hn2⟩ := hs
  refine v_aload_n hC dX10_withdraw_0 rfl rfl ?_
  refine gf_10_1 hC ht (wf_261 hW ht) mw_2_79 dX10_withdraw_1 ?_
  refine v_iload_n hC dX10_withdraw_4 rfl rfl ?_
  refine cVi1 hC (c_X7_hasFile0 (wf_261 hW ht) h216) yv_X7_hasFile rfl (wf_261 hW ht) mw_2_193 ⟨Nat.le_of_ble_eq_true rfl, Nat.le_of_ble_eq_true rfl⟩ ⟨Nat.le_of_ble_eq_true rfl, Nat.le_of_ble_eq_true rfl⟩ (Nat.le_of_ble_eq_true rfl) dX10_withdraw_5 (fun r5 M7 hq => ?_)
  obtain ⟨rfl, hm⟩ := hq
  have hm2 := hm.symm
  clear hm
  subst hm2
  refine v_if_ne hC dX10_withdraw_8 (tgt := 13) (by decide) (fun hx => absurd hx (by decide)) (fun _ => ?_)
  refine v_iconst (v := (-1)) hC dX10_withdraw_11 (by decide) ?_
  refine v_iret hC dX10_withdraw_12 ?_
  exact ⟨rfl, rfl⟩

set_option maxHeartbeats 4000000 in
set_option maxRecDepth 100000 in
theorem c_X10_take0 {l : Launch} {G : Gd} {M : Me} {h : Nat} {x y : Int32} (hW : Wt M) (hs : Fs M h) : CQ (Qi G (fun r M2 => r = -1 ∧ M2 = M)) l G yX10_take cX10_take 4 ((some .int)) 1 21 0 0 [.ref h, .int x, .int y] M := by
  refine c_of ([some (.ref h), some (.int x), some (.int y), none] : Lo) RX10 "take" (by decide) rfl rfl (Nat.le_of_ble_eq_true rfl) rfl (fun p e s m below meth c hC nw => ?_)
  obtain ⟨ht, h214, h216, h166, h168, h133, h229, h264, hsh, hn1, hn2⟩ := hs
  refine v_aload_n hC dX10_take_0 rfl rfl ?_
  refine gf_10_1 hC ht (wf_261 hW ht) mw_2_79 dX10_take_1 ?_
  refine v_iload_n hC dX10_take_4 rfl rfl ?_
  refine cVi1 hC (c_X7_hasFile0 (wf_261 hW ht) h216) yv_X7_hasFile rfl (wf_261 hW ht) mw_2_193 ⟨Nat.le_of_ble_eq_true rfl, Nat.le_of_ble_eq_true rfl⟩ ⟨Nat.le_of_ble_eq_true rfl, Nat.le_of_ble_eq_true rfl⟩ (Nat.le_of_ble_eq_true rfl) dX10_take_5 (fun r5 M7 hq => ?_)
  obtain ⟨rfl, hm⟩ := hq
  have hm2 := hm.symm
  clear hm
  subst hm2
  refine v_if_eq hC dX10_take_8 (tgt := 22) (by decide) (fun _ => ?_) (fun hx => absurd hx (by decide))
  refine v_iconst (v := (-1)) hC dX10_take_22 (by decide) ?_
  refine v_iret hC dX10_take_23 ?_
  exact ⟨rfl, rfl⟩

set_option maxHeartbeats 4000000 in
set_option maxRecDepth 100000 in
theorem c_X10_translate0 {l : Launch} {G : Gd} {M : Me} {h : Nat} {x y z : Int32} (hW : Wt M) (hs : Fs M h) : CQ (Qi G (fun r M2 => r = -1 ∧ M2 = M)) l G yX10_translate cX10_translate 6 ((some .int)) 2 43 0 0 [.ref h, .int x, .int y, .int z] M := by
  refine c_of ([some (.ref h), some (.int x), some (.int y), some (.int z), none, none] : Lo) RX10 "translate" (by decide) rfl rfl (Nat.le_of_ble_eq_true rfl) rfl (fun p e s m below meth c hC nw => ?_)
  obtain ⟨ht, h214, h216, h166, h168, h133, h229, h264, hsh, hn1, hn2⟩ := hs
  refine v_aload_n hC dX10_translate_0 rfl rfl ?_
  refine gf_10_1 hC ht (wf_261 hW ht) mw_2_79 dX10_translate_1 ?_
  refine v_iload_n hC dX10_translate_4 rfl rfl ?_
  refine v_iload_n hC dX10_translate_5 rfl rfl ?_
  refine cVi2 hC (c_X7_hasSegment0 (wf_261 hW ht) h216) yv_X7_hasSegment rfl (wf_261 hW ht) mw_3_93 ⟨Nat.le_of_ble_eq_true rfl, Nat.le_of_ble_eq_true rfl⟩ ⟨Nat.le_of_ble_eq_true rfl, Nat.le_of_ble_eq_true rfl⟩ (Nat.le_of_ble_eq_true rfl) dX10_translate_6 (fun r6 M8 hq => ?_)
  obtain ⟨rfl, hm⟩ := hq
  have hm2 := hm.symm
  clear hm
  subst hm2
  refine v_if_ne hC dX10_translate_9 (tgt := 14) (by decide) (fun hx => absurd hx (by decide)) (fun _ => ?_)
  refine v_iconst (v := (-1)) hC dX10_translate_12 (by decide) ?_
  refine v_iret hC dX10_translate_13 ?_
  exact ⟨rfl, rfl⟩

set_option maxHeartbeats 4000000 in
set_option maxRecDepth 100000 in
theorem c_X10_review0 {l : Launch} {G : Gd} {M : Me} {h : Nat} {x y : Int32} (hW : Wt M) (hs : Fs M h) : CQ (Qi G (fun r M2 => r = -1 ∧ M2 = M)) l G yX10_review cX10_review 3 ((some .int)) 1 21 0 0 [.ref h, .int x, .int y] M := by
  refine c_of ([some (.ref h), some (.int x), some (.int y)] : Lo) RX10 "review" (by decide) rfl rfl (Nat.le_of_ble_eq_true rfl) rfl (fun p e s m below meth c hC nw => ?_)
  obtain ⟨ht, h214, h216, h166, h168, h133, h229, h264, hsh, hn1, hn2⟩ := hs
  refine v_aload_n hC dX10_review_0 rfl rfl ?_
  refine gf_10_1 hC ht (wf_261 hW ht) mw_2_79 dX10_review_1 ?_
  refine v_iload_n hC dX10_review_4 rfl rfl ?_
  refine cVi1 hC (c_X7_hasFile0 (wf_261 hW ht) h216) yv_X7_hasFile rfl (wf_261 hW ht) mw_2_193 ⟨Nat.le_of_ble_eq_true rfl, Nat.le_of_ble_eq_true rfl⟩ ⟨Nat.le_of_ble_eq_true rfl, Nat.le_of_ble_eq_true rfl⟩ (Nat.le_of_ble_eq_true rfl) dX10_review_5 (fun r5 M7 hq => ?_)
  obtain ⟨rfl, hm⟩ := hq
  have hm2 := hm.symm
  clear hm
  subst hm2
  refine v_if_eq hC dX10_review_8 (tgt := 22) (by decide) (fun _ => ?_) (fun hx => absurd hx (by decide))
  refine v_iconst (v := (-1)) hC dX10_review_22 (by decide) ?_
  refine v_iret hC dX10_review_23 ?_
  exact ⟨rfl, rfl⟩

set_option maxHeartbeats 4000000 in
set_option maxRecDepth 100000 in
theorem c_X10_reject0 {l : Launch} {G : Gd} {M : Me} {h : Nat} {x y : Int32} (hW : Wt M) (hs : Fs M h) : CQ (Qi G (fun r M2 => r = -1 ∧ M2 = M)) l G yX10_reject cX10_reject 4 ((some .int)) 2 43 0 0 [.ref h, .int x, .int y] M := by
  refine c_of ([some (.ref h), some (.int x), some (.int y), none] : Lo) RX10 "reject" (by decide) rfl rfl (Nat.le_of_ble_eq_true rfl) rfl (fun p e s m below meth c hC nw => ?_)
  obtain ⟨ht, h214, h216, h166, h168, h133, h229, h264, hsh, hn1, hn2⟩ := hs
  refine v_aload_n hC dX10_reject_0 rfl rfl ?_
  refine gf_10_1 hC ht (wf_261 hW ht) mw_2_79 dX10_reject_1 ?_
  refine v_iload_n hC dX10_reject_4 rfl rfl ?_
  refine v_iload_n hC dX10_reject_5 rfl rfl ?_
  refine cVi2 hC (c_X7_hasSegment0 (wf_261 hW ht) h216) yv_X7_hasSegment rfl (wf_261 hW ht) mw_3_93 ⟨Nat.le_of_ble_eq_true rfl, Nat.le_of_ble_eq_true rfl⟩ ⟨Nat.le_of_ble_eq_true rfl, Nat.le_of_ble_eq_true rfl⟩ (Nat.le_of_ble_eq_true rfl) dX10_reject_6 (fun r6 M8 hq => ?_)
  obtain ⟨rfl, hm⟩ := hq
  have hm2 := hm.symm
  clear hm
  subst hm2
  refine v_if_ne hC dX10_reject_9 (tgt := 14) (by decide) (fun hx => absurd hx (by decide)) (fun _ => ?_)
  refine v_iconst (v := (-1)) hC dX10_reject_12 (by decide) ?_
  refine v_iret hC dX10_reject_13 ?_
  exact ⟨rfl, rfl⟩

set_option maxHeartbeats 4000000 in
set_option maxRecDepth 100000 in
theorem c_X10_deliver0 {l : Launch} {G : Gd} {M : Me} {h : Nat} {x : Int32} (hW : Wt M) (hs : Fs M h) : CQ (Qi G (fun r M2 => r = -1 ∧ M2 = M)) l G yX10_deliver cX10_deliver 3 ((some .int)) 1 21 0 0 [.ref h, .int x] M := by
  refine c_of ([some (.ref h), some (.int x), none] : Lo) RX10 "deliver" (by decide) rfl rfl (Nat.le_of_ble_eq_true rfl) rfl (fun p e s m below meth c hC nw => ?_)
  obtain ⟨ht, h214, h216, h166, h168, h133, h229, h264, hsh, hn1, hn2⟩ := hs
  refine v_aload_n hC dX10_deliver_0 rfl rfl ?_
  refine gf_10_1 hC ht (wf_261 hW ht) mw_2_79 dX10_deliver_1 ?_
  refine v_iload_n hC dX10_deliver_4 rfl rfl ?_
  refine cVi1 hC (c_X7_hasFile0 (wf_261 hW ht) h216) yv_X7_hasFile rfl (wf_261 hW ht) mw_2_193 ⟨Nat.le_of_ble_eq_true rfl, Nat.le_of_ble_eq_true rfl⟩ ⟨Nat.le_of_ble_eq_true rfl, Nat.le_of_ble_eq_true rfl⟩ (Nat.le_of_ble_eq_true rfl) dX10_deliver_5 (fun r5 M7 hq => ?_)
  obtain ⟨rfl, hm⟩ := hq
  have hm2 := hm.symm
  clear hm
  subst hm2
  refine v_if_ne hC dX10_deliver_8 (tgt := 13) (by decide) (fun hx => absurd hx (by decide)) (fun _ => ?_)
  refine v_iconst (v := (-1)) hC dX10_deliver_11 (by decide) ?_
  refine v_iret hC dX10_deliver_12 ?_
  exact ⟨rfl, rfl⟩

set_option maxHeartbeats 4000000 in
set_option maxRecDepth 100000 in
theorem c_X10_settle0 {l : Launch} {G : Gd} {M : Me} {h : Nat} {x y : Int32} (hW : Wt M) (hs : Fs M h) : CQ (Qi G (fun r M2 => r = -1 ∧ M2 = M)) l G yX10_settle cX10_settle 3 ((some .int)) 1 21 0 0 [.ref h, .int x, .int y] M := by
  refine c_of ([some (.ref h), some (.int x), some (.int y)] : Lo) RX10 "settle" (by decide) rfl rfl (Nat.le_of_ble_eq_true rfl) rfl (fun p e s m below meth c hC nw => ?_)
  obtain ⟨ht, h214, h216, h166, h168, h133, h229, h264, hsh, hn1, hn2⟩ := hs
  refine v_aload_n hC dX10_settle_0 rfl rfl ?_
  refine gf_10_1 hC ht (wf_261 hW ht) mw_2_79 dX10_settle_1 ?_
  refine gf_7_6 hC (wf_261 hW ht) (wf_218 hW (wf_261 hW ht)) mw_2_41 dX10_settle_4 ?_
  refine v_iload_n hC dX10_settle_7 rfl rfl ?_
  refine cVi1 hC (c_X4_hasDispute0 (wf_218 hW (wf_261 hW ht)) h168) yv_X4_hasDispute rfl (wf_218 hW (wf_261 hW ht)) mw_3_179 ⟨Nat.le_of_ble_eq_true rfl, Nat.le_of_ble_eq_true rfl⟩ ⟨Nat.le_of_ble_eq_true rfl, Nat.le_of_ble_eq_true rfl⟩ (Nat.le_of_ble_eq_true rfl) dX10_settle_8 (fun r8 M10 hq => ?_)
  obtain ⟨rfl, hm⟩ := hq
  have hm2 := hm.symm
  clear hm
  subst hm2
  refine v_if_ne hC dX10_settle_11 (tgt := 16) (by decide) (fun hx => absurd hx (by decide)) (fun _ => ?_)
  refine v_iconst (v := (-1)) hC dX10_settle_14 (by decide) ?_
  refine v_iret hC dX10_settle_15 ?_
  exact ⟨rfl, rfl⟩

set_option maxHeartbeats 4000000 in
set_option maxRecDepth 100000 in
theorem c_X10_person0 {l : Launch} {G : Gd} {M : Me} {h : Nat} {x y : Int32} (hW : Wt M) (hs : Fs M h) : CQ (Qi G (fun r M2 => r = -1 ∧ M2 = M)) l G yX10_person cX10_person 3 ((some .int)) 1 21 0 0 [.ref h, .int x, .int y] M := by
  refine c_of ([some (.ref h), some (.int x), some (.int y)] : Lo) RX10 "person" (by decide) rfl rfl (Nat.le_of_ble_eq_true rfl) rfl (fun p e s m below meth c hC nw => ?_)
  obtain ⟨ht, h214, h216, h166, h168, h133, h229, h264, hsh, hn1, hn2⟩ := hs
  refine v_aload_n hC dX10_person_0 rfl rfl ?_
  refine gf_10_1 hC ht (wf_261 hW ht) mw_2_79 dX10_person_1 ?_
  refine v_iload_n hC dX10_person_4 rfl rfl ?_
  refine cVi1 hC (c_X7_hasPerson0 (wf_261 hW ht) h214) yv_X7_hasPerson rfl (wf_261 hW ht) mw_2_143 ⟨Nat.le_of_ble_eq_true rfl, Nat.le_of_ble_eq_true rfl⟩ ⟨Nat.le_of_ble_eq_true rfl, Nat.le_of_ble_eq_true rfl⟩ (Nat.le_of_ble_eq_true rfl) dX10_person_5 (fun r5 M7 hq => ?_)
  obtain ⟨rfl, hm⟩ := hq
  have hm2 := hm.symm
  clear hm
  subst hm2
  refine v_if_ne hC dX10_person_8 (tgt := 13) (by decide) (fun hx => absurd hx (by decide)) (fun _ => ?_)
  refine v_iconst (v := (-1)) hC dX10_person_11 (by decide) ?_
  refine v_iret hC dX10_person_12 ?_
  exact ⟨rfl, rfl⟩

set_option maxHeartbeats 4000000 in
set_option maxRecDepth 100000 in
theorem c_X10_file0 {l : Launch} {G : Gd} {M : Me} {h : Nat} {x y : Int32} (hW : Wt M) (hs : Fs M h) : CQ (Qi G (fun r M2 => r = -1 ∧ M2 = M)) l G yX10_file cX10_file 4 ((some .int)) 1 21 0 0 [.ref h, .int x, .int y] M := by
  refine c_of ([some (.ref h), some (.int x), some (.int y), none] : Lo) RX10 "file" (by decide) rfl rfl (Nat.le_of_ble_eq_true rfl) rfl (fun p e s m below meth c hC nw => ?_)
  obtain ⟨ht, h214, h216, h166, h168, h133, h229, h264, hsh, hn1, hn2⟩ := hs
  refine v_aload_n hC dX10_file_0 rfl rfl ?_
  refine gf_10_1 hC ht (wf_261 hW ht) mw_2_79 dX10_file_1 ?_
  refine v_iload_n hC dX10_file_4 rfl rfl ?_
  refine cVi1 hC (c_X7_hasFile0 (wf_261 hW ht) h216) yv_X7_hasFile rfl (wf_261 hW ht) mw_2_193 ⟨Nat.le_of_ble_eq_true rfl, Nat.le_of_ble_eq_true rfl⟩ ⟨Nat.le_of_ble_eq_true rfl, Nat.le_of_ble_eq_true rfl⟩ (Nat.le_of_ble_eq_true rfl) dX10_file_5 (fun r5 M7 hq => ?_)
  obtain ⟨rfl, hm⟩ := hq
  have hm2 := hm.symm
  clear hm
  subst hm2
  refine v_if_ne hC dX10_file_8 (tgt := 13) (by decide) (fun hx => absurd hx (by decide)) (fun _ => ?_)
  refine v_iconst (v := (-1)) hC dX10_file_11 (by decide) ?_
  refine v_iret hC dX10_file_12 ?_
  exact ⟨rfl, rfl⟩

set_option maxHeartbeats 4000000 in
set_option maxRecDepth 100000 in
theorem c_X10_segment0 {l : Launch} {G : Gd} {M : Me} {h : Nat} {x y z : Int32} (hW : Wt M) (hs : Fs M h) : CQ (Qi G (fun r M2 => r = -1 ∧ M2 = M)) l G yX10_segment cX10_segment 6 ((some .int)) 2 43 0 0 [.ref h, .int x, .int y, .int z] M := by
  refine c_of ([some (.ref h), some (.int x), some (.int y), some (.int z), none, none] : Lo) RX10 "segment" (by decide) rfl rfl (Nat.le_of_ble_eq_true rfl) rfl (fun p e s m below meth c hC nw => ?_)
  obtain ⟨ht, h214, h216, h166, h168, h133, h229, h264, hsh, hn1, hn2⟩ := hs
  refine v_aload_n hC dX10_segment_0 rfl rfl ?_
  refine gf_10_1 hC ht (wf_261 hW ht) mw_2_79 dX10_segment_1 ?_
  refine v_iload_n hC dX10_segment_4 rfl rfl ?_
  refine v_iload_n hC dX10_segment_5 rfl rfl ?_
  refine cVi2 hC (c_X7_hasSegment0 (wf_261 hW ht) h216) yv_X7_hasSegment rfl (wf_261 hW ht) mw_3_93 ⟨Nat.le_of_ble_eq_true rfl, Nat.le_of_ble_eq_true rfl⟩ ⟨Nat.le_of_ble_eq_true rfl, Nat.le_of_ble_eq_true rfl⟩ (Nat.le_of_ble_eq_true rfl) dX10_segment_6 (fun r6 M8 hq => ?_)
  obtain ⟨rfl, hm⟩ := hq
  have hm2 := hm.symm
  clear hm
  subst hm2
  refine v_if_ne hC dX10_segment_9 (tgt := 14) (by decide) (fun hx => absurd hx (by decide)) (fun _ => ?_)
  refine v_iconst (v := (-1)) hC dX10_segment_12 (by decide) ?_
  refine v_iret hC dX10_segment_13 ?_
  exact ⟨rfl, rfl⟩

set_option maxHeartbeats 4000000 in
set_option maxRecDepth 100000 in
theorem c_X10_charAt0 {l : Launch} {G : Gd} {M : Me} {h : Nat} {x y z : Int32} (hW : Wt M) (hs : Fs M h) : CQ (Qi G (fun r M2 => r = -1 ∧ M2 = M)) l G yX10_charAt cX10_charAt 5 ((some .int)) 2 43 0 0 [.ref h, .int x, .int y, .int z] M := by
  refine c_of ([some (.ref h), some (.int x), some (.int y), some (.int z), none] : Lo) RX10 "charAt" (by decide) rfl rfl (Nat.le_of_ble_eq_true rfl) rfl (fun p e s m below meth c hC nw => ?_)
  obtain ⟨ht, h214, h216, h166, h168, h133, h229, h264, hsh, hn1, hn2⟩ := hs
  refine v_aload_n hC dX10_charAt_0 rfl rfl ?_
  refine gf_10_1 hC ht (wf_261 hW ht) mw_2_79 dX10_charAt_1 ?_
  refine v_iload_n hC dX10_charAt_4 rfl rfl ?_
  refine v_iload_n hC dX10_charAt_5 rfl rfl ?_
  refine cVi2 hC (c_X7_hasSegment0 (wf_261 hW ht) h216) yv_X7_hasSegment rfl (wf_261 hW ht) mw_3_93 ⟨Nat.le_of_ble_eq_true rfl, Nat.le_of_ble_eq_true rfl⟩ ⟨Nat.le_of_ble_eq_true rfl, Nat.le_of_ble_eq_true rfl⟩ (Nat.le_of_ble_eq_true rfl) dX10_charAt_6 (fun r6 M8 hq => ?_)
  obtain ⟨rfl, hm⟩ := hq
  have hm2 := hm.symm
  clear hm
  subst hm2
  refine v_if_ne hC dX10_charAt_9 (tgt := 14) (by decide) (fun hx => absurd hx (by decide)) (fun _ => ?_)
  refine v_iconst (v := (-1)) hC dX10_charAt_12 (by decide) ?_
  refine v_iret hC dX10_charAt_13 ?_
  exact ⟨rfl, rfl⟩

set_option maxHeartbeats 4000000 in
set_option maxRecDepth 100000 in
theorem c_X10_distance0 {l : Launch} {G : Gd} {M : Me} {h : Nat} {x y z : Int32} (hW : Wt M) (hs : Fs M h) : CQ (Qi G (fun r M2 => r = -1 ∧ M2 = M)) l G yX10_distance cX10_distance 4 ((some .int)) 2 43 0 0 [.ref h, .int x, .int y, .int z] M := by
  refine c_of ([some (.ref h), some (.int x), some (.int y), some (.int z)] : Lo) RX10 "distance" (by decide) rfl rfl (Nat.le_of_ble_eq_true rfl) rfl (fun p e s m below meth c hC nw => ?_)
  obtain ⟨ht, h214, h216, h166, h168, h133, h229, h264, hsh, hn1, hn2⟩ := hs
  refine v_aload_n hC dX10_distance_0 rfl rfl ?_
  refine gf_10_1 hC ht (wf_261 hW ht) mw_2_79 dX10_distance_1 ?_
  refine v_iload_n hC dX10_distance_4 rfl rfl ?_
  refine v_iload_n hC dX10_distance_5 rfl rfl ?_
  refine cVi2 hC (c_X7_hasSegment0 (wf_261 hW ht) h216) yv_X7_hasSegment rfl (wf_261 hW ht) mw_3_93 ⟨Nat.le_of_ble_eq_true rfl, Nat.le_of_ble_eq_true rfl⟩ ⟨Nat.le_of_ble_eq_true rfl, Nat.le_of_ble_eq_true rfl⟩ (Nat.le_of_ble_eq_true rfl) dX10_distance_6 (fun r6 M8 hq => ?_)
  obtain ⟨rfl, hm⟩ := hq
  have hm2 := hm.symm
  clear hm
  subst hm2
  refine v_if_eq hC dX10_distance_9 (tgt := 26) (by decide) (fun _ => ?_) (fun hx => absurd hx (by decide))
  refine v_iconst (v := (-1)) hC dX10_distance_26 (by decide) ?_
  refine v_iret hC dX10_distance_27 ?_
  exact ⟨rfl, rfl⟩

set_option maxHeartbeats 4000000 in
set_option maxRecDepth 100000 in
theorem c_X10_wordsIn0 {l : Launch} {G : Gd} {M : Me} {h : Nat} {x y : Int32} (hW : Wt M) (hs : Fs M h) : CQ (Qi G (fun r M2 => r = -1 ∧ M2 = M)) l G yX10_wordsIn cX10_wordsIn 3 ((some .int)) 1 21 0 0 [.ref h, .int x, .int y] M := by
  refine c_of ([some (.ref h), some (.int x), some (.int y)] : Lo) RX10 "wordsIn" (by decide) rfl rfl (Nat.le_of_ble_eq_true rfl) rfl (fun p e s m below meth c hC nw => ?_)
  obtain ⟨ht, h214, h216, h166, h168, h133, h229, h264, hsh, hn1, hn2⟩ := hs
  refine v_aload_n hC dX10_wordsIn_0 rfl rfl ?_
  refine gf_10_1 hC ht (wf_261 hW ht) mw_2_79 dX10_wordsIn_1 ?_
  refine v_iload_n hC dX10_wordsIn_4 rfl rfl ?_
  refine cVi1 hC (c_X7_hasFile0 (wf_261 hW ht) h216) yv_X7_hasFile rfl (wf_261 hW ht) mw_2_193 ⟨Nat.le_of_ble_eq_true rfl, Nat.le_of_ble_eq_true rfl⟩ ⟨Nat.le_of_ble_eq_true rfl, Nat.le_of_ble_eq_true rfl⟩ (Nat.le_of_ble_eq_true rfl) dX10_wordsIn_5 (fun r5 M7 hq => ?_)
  obtain ⟨rfl, hm⟩ := hq
  have hm2 := hm.symm
  clear hm
  subst hm2
  refine v_if_ne hC dX10_wordsIn_8 (tgt := 13) (by decide) (fun hx => absurd hx (by decide)) (fun _ => ?_)
  refine v_iconst (v := (-1)) hC dX10_wordsIn_11 (by decide) ?_
  refine v_iret hC dX10_wordsIn_12 ?_
  exact ⟨rfl, rfl⟩

set_option maxHeartbeats 4000000 in
set_option maxRecDepth 100000 in
theorem c_X10_price0 {l : Launch} {G : Gd} {M : Me} {h : Nat} {x y : Int32} (hW : Wt M) (hs : Fs M h) : CQ (Qi G (fun r M2 => r = -1 ∧ M2 = M)) l G yX10_price cX10_price 3 ((some .int)) 1 21 0 0 [.ref h, .int x, .int y] M := by
  refine c_of ([some (.ref h), some (.int x), some (.int y)] : Lo) RX10 "price" (by decide) rfl rfl (Nat.le_of_ble_eq_true rfl) rfl (fun p e s m below meth c hC nw => ?_)
  obtain ⟨ht, h214, h216, h166, h168, h133, h229, h264, hsh, hn1, hn2⟩ := hs
  refine v_aload_n hC dX10_price_0 rfl rfl ?_
  refine gf_10_1 hC ht (wf_261 hW ht) mw_2_79 dX10_price_1 ?_
  refine v_iload_n hC dX10_price_4 rfl rfl ?_
  refine cVi1 hC (c_X7_hasFile0 (wf_261 hW ht) h216) yv_X7_hasFile rfl (wf_261 hW ht) mw_2_193 ⟨Nat.le_of_ble_eq_true rfl, Nat.le_of_ble_eq_true rfl⟩ ⟨Nat.le_of_ble_eq_true rfl, Nat.le_of_ble_eq_true rfl⟩ (Nat.le_of_ble_eq_true rfl) dX10_price_5 (fun r5 M7 hq => ?_)
  obtain ⟨rfl, hm⟩ := hq
  have hm2 := hm.symm
  clear hm
  subst hm2
  refine v_if_eq hC dX10_price_8 (tgt := 22) (by decide) (fun _ => ?_) (fun hx => absurd hx (by decide))
  refine v_iconst (v := (-1)) hC dX10_price_22 (by decide) ?_
  refine v_iret hC dX10_price_23 ?_
  exact ⟨rfl, rfl⟩

set_option maxHeartbeats 4000000 in
set_option maxRecDepth 100000 in
theorem c_X10_firstReviewer0 {l : Launch} {G : Gd} {M : Me} {h : Nat} {x : Int32} (hW : Wt M) (hs : Fs M h) : CQ (Qi G (fun r M2 => r = -1 ∧ M2 = M)) l G yX10_firstReviewer cX10_firstReviewer 3 ((some .int)) 1 21 0 0 [.ref h, .int x] M := by
  refine c_of ([some (.ref h), some (.int x), none] : Lo) RX10 "firstReviewer" (by decide) rfl rfl (Nat.le_of_ble_eq_true rfl) rfl (fun p e s m below meth c hC nw => ?_)
  obtain ⟨ht, h214, h216, h166, h168, h133, h229, h264, hsh, hn1, hn2⟩ := hs
  refine v_aload_n hC dX10_firstReviewer_0 rfl rfl ?_
  refine gf_10_1 hC ht (wf_261 hW ht) mw_2_79 dX10_firstReviewer_1 ?_
  refine v_iload_n hC dX10_firstReviewer_4 rfl rfl ?_
  refine cVi1 hC (c_X7_hasFile0 (wf_261 hW ht) h216) yv_X7_hasFile rfl (wf_261 hW ht) mw_2_193 ⟨Nat.le_of_ble_eq_true rfl, Nat.le_of_ble_eq_true rfl⟩ ⟨Nat.le_of_ble_eq_true rfl, Nat.le_of_ble_eq_true rfl⟩ (Nat.le_of_ble_eq_true rfl) dX10_firstReviewer_5 (fun r5 M7 hq => ?_)
  obtain ⟨rfl, hm⟩ := hq
  have hm2 := hm.symm
  clear hm
  subst hm2
  refine v_if_ne hC dX10_firstReviewer_8 (tgt := 13) (by decide) (fun hx => absurd hx (by decide)) (fun _ => ?_)
  refine v_iconst (v := (-1)) hC dX10_firstReviewer_11 (by decide) ?_
  refine v_iret hC dX10_firstReviewer_12 ?_
  exact ⟨rfl, rfl⟩

set_option maxHeartbeats 4000000 in
set_option maxRecDepth 100000 in
theorem c_X10_entry0 {l : Launch} {G : Gd} {M : Me} {h : Nat} {x y : Int32} (hW : Wt M) (hs : Fs M h) : CQ (Qi G (fun r M2 => r = -1 ∧ M2 = M)) l G yX10_entry cX10_entry 4 ((some .int)) 1 21 0 0 [.ref h, .int x, .int y] M := by
  refine c_of ([some (.ref h), some (.int x), some (.int y), none] : Lo) RX10 "entry" (by decide) rfl rfl (Nat.le_of_ble_eq_true rfl) rfl (fun p e s m below meth c hC nw => ?_)
  obtain ⟨ht, h214, h216, h166, h168, h133, h229, h264, hsh, hn1, hn2⟩ := hs
  refine v_aload_n hC dX10_entry_0 rfl rfl ?_
  refine gf_10_1 hC ht (wf_261 hW ht) mw_2_79 dX10_entry_1 ?_
  refine gf_7_6 hC (wf_261 hW ht) (wf_218 hW (wf_261 hW ht)) mw_2_41 dX10_entry_4 ?_
  refine v_iload_n hC dX10_entry_7 rfl rfl ?_
  refine cVi1 hC (c_X4_hasEntry0 (wf_218 hW (wf_261 hW ht)) h166) yv_X4_hasEntry rfl (wf_218 hW (wf_261 hW ht)) mw_4_29 ⟨Nat.le_of_ble_eq_true rfl, Nat.le_of_ble_eq_true rfl⟩ ⟨Nat.le_of_ble_eq_true rfl, Nat.le_of_ble_eq_true rfl⟩ (Nat.le_of_ble_eq_true rfl) dX10_entry_8 (fun r8 M10 hq => ?_)
  obtain ⟨rfl, hm⟩ := hq
  have hm2 := hm.symm
  clear hm
  subst hm2
  refine v_if_ne hC dX10_entry_11 (tgt := 16) (by decide) (fun hx => absurd hx (by decide)) (fun _ => ?_)
  refine v_iconst (v := (-1)) hC dX10_entry_14 (by decide) ?_
  refine v_iret hC dX10_entry_15 ?_
  exact ⟨rfl, rfl⟩

set_option maxHeartbeats 4000000 in
set_option maxRecDepth 100000 in
theorem c_X10_dispute0 {l : Launch} {G : Gd} {M : Me} {h : Nat} {x y : Int32} (hW : Wt M) (hs : Fs M h) : CQ (Qi G (fun r M2 => r = -1 ∧ M2 = M)) l G yX10_dispute cX10_dispute 4 ((some .int)) 1 21 0 0 [.ref h, .int x, .int y] M := by
  refine c_of ([some (.ref h), some (.int x), some (.int y), none] : Lo) RX10 "dispute" (by decide) rfl rfl (Nat.le_of_ble_eq_true rfl) rfl (fun p e s m below meth c hC nw => ?_)
  obtain ⟨ht, h214, h216, h166, h168, h133, h229, h264, hsh, hn1, hn2⟩ := hs
  refine v_aload_n hC dX10_dispute_0 rfl rfl ?_
  refine gf_10_1 hC ht (wf_261 hW ht) mw_2_79 dX10_dispute_1 ?_
  refine gf_7_6 hC (wf_261 hW ht) (wf_218 hW (wf_261 hW ht)) mw_2_41 dX10_dispute_4 ?_
  refine v_iload_n hC dX10_dispute_7 rfl rfl ?_
  refine cVi1 hC (c_X4_hasDispute0 (wf_218 hW (wf_261 hW ht)) h168) yv_X4_hasDispute rfl (wf_218 hW (wf_261 hW ht)) mw_3_179 ⟨Nat.le_of_ble_eq_true rfl, Nat.le_of_ble_eq_true rfl⟩ ⟨Nat.le_of_ble_eq_true rfl, Nat.le_of_ble_eq_true rfl⟩ (Nat.le_of_ble_eq_true rfl) dX10_dispute_8 (fun r8 M10 hq => ?_)
  obtain ⟨rfl, hm⟩ := hq
  have hm2 := hm.symm
  clear hm
  subst hm2
  refine v_if_ne hC dX10_dispute_11 (tgt := 16) (by decide) (fun hx => absurd hx (by decide)) (fun _ => ?_)
  refine v_iconst (v := (-1)) hC dX10_dispute_14 (by decide) ?_
  refine v_iret hC dX10_dispute_15 ?_
  exact ⟨rfl, rfl⟩

set_option maxHeartbeats 4000000 in
set_option maxRecDepth 100000 in
theorem c_X10_undo0 {l : Launch} {G : Gd} {M : Me} {h : Nat} (hW : Wt M) (hs : Fs M h) : CQ (Qi G (fun r M2 => r = -5 ∧ M2 = M)) l G yX10_undo cX10_undo 1 ((some .int)) 0 0 0 0 [.ref h] M := by
  refine c_of ([some (.ref h)] : Lo) RX10 "undo" (by decide) rfl rfl (Nat.le_of_ble_eq_true rfl) rfl (fun p e s m below meth c hC nw => ?_)
  obtain ⟨ht, h214, h216, h166, h168, h133, h229, h264, hsh, hn1, hn2⟩ := hs
  refine v_aload_n hC dX10_undo_0 rfl rfl ?_
  refine gf_10_3 hC ht (wf_263 hW ht) mw_2_81 dX10_undo_1 ?_
  refine gf_2_1 hC (wf_263 hW ht) mw_2_72 dX10_undo_4 ?_
  rw [h133]
  refine v_if_ne hC dX10_undo_7 (tgt := 13) (by decide) (fun hx => absurd hx (by decide)) (fun _ => ?_)
  refine v_bipush (v := (-5)) hC dX10_undo_10 (by decide) ?_
  refine v_iret hC dX10_undo_12 ?_
  exact ⟨rfl, rfl⟩

set_option maxHeartbeats 4000000 in
set_option maxRecDepth 100000 in
theorem c_X10_restore0 {l : Launch} {G : Gd} {M : Me} {h : Nat} (hW : Wt M) (hs : Fs M h) : CQ (Qi G (fun r M2 => r = -5 ∧ M2 = M)) l G yX10_restore cX10_restore 1 ((some .int)) 0 0 0 0 [.ref h] M := by
  refine c_of ([some (.ref h)] : Lo) RX10 "restore" (by decide) rfl rfl (Nat.le_of_ble_eq_true rfl) rfl (fun p e s m below meth c hC nw => ?_)
  obtain ⟨ht, h214, h216, h166, h168, h133, h229, h264, hsh, hn1, hn2⟩ := hs
  refine v_aload_n hC dX10_restore_0 rfl rfl ?_
  refine gf_10_4 hC ht mw_2_82 dX10_restore_1 ?_
  rw [h264]
  refine v_if_ne hC dX10_restore_4 (tgt := 10) (by decide) (fun hx => absurd hx (by decide)) (fun _ => ?_)
  refine v_bipush (v := (-5)) hC dX10_restore_7 (by decide) ?_
  refine v_iret hC dX10_restore_9 ?_
  exact ⟨rfl, rfl⟩

set_option maxHeartbeats 4000000 in
set_option maxRecDepth 100000 in
theorem c_X10_remember0 {l : Launch} {G : Gd} {M : Me} {h : Nat} {x : Int32} (hW : Wt M) (hs : Fs M h) : CQ (Qi G (fun r M2 => r = -100 ∧ M2 = M)) l G yX10_remember cX10_remember 4 ((some .int)) 1 24 0 0 [.ref h, .int x] M := by
  refine c_of ([some (.ref h), some (.int x), none, none] : Lo) RX10 "remember" (by decide) rfl rfl (Nat.le_of_ble_eq_true rfl) rfl (fun p e s m below meth c hC nw => ?_)
  obtain ⟨ht, h214, h216, h166, h168, h133, h229, h264, hsh, hn1, hn2⟩ := hs
  refine v_aload_n hC dX10_remember_0 rfl rfl ?_
  refine gf_10_0 hC ht (wf_260 hW ht) mw_2_78 dX10_remember_1 ?_
  refine cVi0 hC (c_X8_fault0 (wf_260 hW ht) h229) yv_X8_fault rfl (wf_260 hW ht) mw_2_197 ⟨Nat.le_of_ble_eq_true rfl, Nat.le_of_ble_eq_true rfl⟩ ⟨Nat.le_of_ble_eq_true rfl, Nat.le_of_ble_eq_true rfl⟩ (Nat.le_of_ble_eq_true rfl) dX10_remember_4 (fun r4 M6 hq => ?_)
  obtain ⟨rfl, hm⟩ := hq
  have hm2 := hm.symm
  clear hm
  subst hm2
  refine v_ist2 hC dX10_remember_7 (by decide) (kk := ?_)
  refine v_iload_n hC dX10_remember_8 rfl rfl ?_
  refine v_iconst (v := (-1)) hC dX10_remember_9 (by decide) ?_
  refine v_icmp_eq hC dX10_remember_10 (tgt := 18) (by decide) (fun hx => absurd hx (by decide)) (fun _ => ?_)
  refine v_bipush (v := (-100)) hC dX10_remember_13 (by decide) ?_
  refine v_iload_n hC dX10_remember_15 rfl rfl ?_
  refine v_isub hC dX10_remember_16 ?_
  refine v_iret hC dX10_remember_17 ?_
  exact ⟨rfl, rfl⟩

set_option maxHeartbeats 4000000 in
set_option maxRecDepth 100000 in
theorem c_X10_fileAt0 {l : Launch} {G : Gd} {M : Me} {h : Nat} {x : Int32} (hW : Wt M) (hs : Fs M h) : CQ (Qi G (fun r M2 => r = (if x < 0 then -2 else -5) ∧ M2 = M)) l G yX10_fileAt cX10_fileAt 2 ((some .int)) 0 0 0 0 [.ref h, .int x] M := by
  refine c_of ([some (.ref h), some (.int x)] : Lo) RX10 "fileAt" (by decide) rfl rfl (Nat.le_of_ble_eq_true rfl) rfl (fun p e s m below meth c hC nw => ?_)
  obtain ⟨ht, h214, h216, h166, h168, h133, h229, h264, hsh, hn1, hn2⟩ := hs
  refine v_iload_n hC dX10_fileAt_0 rfl rfl ?_
  refine v_if_ge hC dX10_fileAt_1 (tgt := 7) (by decide) (fun h1 => ?_) (fun h1 => ?_)
  · refine v_iload_n hC dX10_fileAt_7 rfl rfl ?_
    refine v_aload_n hC dX10_fileAt_8 rfl rfl ?_
    refine gf_10_1 hC ht (wf_261 hW ht) mw_2_79 dX10_fileAt_9 ?_
    refine gf_7_4 hC (wf_261 hW ht) mw_2_37 dX10_fileAt_12 ?_
    rw [h216]
    refine v_icmp_ge hC dX10_fileAt_15 (tgt := 30) (by decide) (fun h15 => ?_) (fun h15 => absurd h1 (by first | exact h15 | (intro q; exact h15 q)))
    refine v_bipush (v := (-5)) hC dX10_fileAt_30 (by decide) ?_
    refine v_iret hC dX10_fileAt_32 ?_
    exact ⟨by rw [if_neg (fun q => i_ab q h1)], rfl⟩
  · refine v_bipush (v := (-2)) hC dX10_fileAt_4 (by decide) ?_
    refine v_iret hC dX10_fileAt_6 ?_
    exact ⟨by rw [if_pos (i_nle h1)], rfl⟩

set_option maxHeartbeats 4000000 in
set_option maxRecDepth 100000 in
theorem c_X10_allWords0 {l : Launch} {G : Gd} {M : Me} {h : Nat} {x : Int32} (hW : Wt M) (hs : Fs M h) : CQ (Qi G (fun r M2 => r = (if 0 ≤ x ∧ x < 6 then 0 else -2) ∧ M2 = M)) l G yX10_allWords cX10_allWords 4 ((some .int)) 1 20 0 0 [.ref h, .int x] M := by
  refine c_of ([some (.ref h), some (.int x), none, none] : Lo) RX10 "allWords" (by decide) rfl rfl (Nat.le_of_ble_eq_true rfl) rfl (fun p e s m below meth c hC nw => ?_)
  obtain ⟨ht, h214, h216, h166, h168, h133, h229, h264, hsh, hn1, hn2⟩ := hs
  refine v_iload_n hC dX10_allWords_0 rfl rfl ?_
  refine cSi1 hC (c_X10_isBand ) ys_X10_isBand mw_2_165 ⟨Nat.le_of_ble_eq_true rfl, Nat.le_of_ble_eq_true rfl⟩ ⟨Nat.le_of_ble_eq_true rfl, Nat.le_of_ble_eq_true rfl⟩ (Nat.le_of_ble_eq_true rfl) dX10_allWords_1 (fun r1 M3 hq => ?_)
  obtain ⟨hm, hq2⟩ := hq
  have hm2 := hm.symm
  clear hm
  subst hm2
  obtain ⟨g1, rfl⟩ | ⟨g1, rfl⟩ := hq2
  · refine v_if_ne hC dX10_allWords_4 (tgt := 10) (by decide) (fun _ => ?_) (fun hx => absurd hx (by decide))
    refine v_iconst (v := 0) hC dX10_allWords_10 (by decide) ?_
    refine v_ist2 hC dX10_allWords_11 (by decide) (kk := ?_)
    refine v_iconst (v := 0) hC dX10_allWords_12 (by decide) ?_
    refine v_ist3 hC dX10_allWords_13 (by decide) (kk := ?_)
    refine v_iload_n hC dX10_allWords_14 rfl rfl ?_
    refine v_aload_n hC dX10_allWords_15 rfl rfl ?_
    refine gf_10_1 hC ht (wf_261 hW ht) mw_2_79 dX10_allWords_16 ?_
    refine gf_7_4 hC (wf_261 hW ht) mw_2_37 dX10_allWords_19 ?_
    rw [h216]
    refine v_icmp_ge hC dX10_allWords_22 (tgt := 66) (by decide) (fun _ => ?_) (fun hx => absurd hx (by decide))
    refine v_iload_n hC dX10_allWords_66 rfl rfl ?_
    refine v_iret hC dX10_allWords_67 ?_
    exact ⟨by rw [if_pos g1], rfl⟩
  · refine v_if_ne hC dX10_allWords_4 (tgt := 10) (by decide) (fun hx => absurd hx (by decide)) (fun _ => ?_)
    refine v_bipush (v := (-2)) hC dX10_allWords_7 (by decide) ?_
    refine v_iret hC dX10_allWords_9 ?_
    exact ⟨by rw [if_neg g1], rfl⟩

set_option maxHeartbeats 4000000 in
set_option maxRecDepth 100000 in
theorem c_X10_count0 {l : Launch} {G : Gd} {M : Me} {h : Nat} {x : Int32} (hW : Wt M) (hs : Fs M h) : CQ (Qi G (fun r M2 => r = (if x.toInt < 0 ∨ 16 < x.toInt then -2 else 0) ∧ M2 = M)) l G yX10_count cX10_count 2 ((some .int)) 1 23 0 0 [.ref h, .int x] M := by
  refine c_of ([some (.ref h), some (.int x)] : Lo) RX10 "count" (by decide) rfl rfl (Nat.le_of_ble_eq_true rfl) rfl (fun p e s m below meth c hC nw => ?_)
  obtain ⟨ht, h214, h216, h166, h168, h133, h229, h264, hsh, hn1, hn2⟩ := hs
  refine v_iload_n hC dX10_count_0 rfl rfl ?_
  by_cases e0 : x = 0
  · subst e0
    refine v_tsi hC dX10_count_1 (by decide) (by decide) (off := 83) (by rfl) (tgt := 84) (by decide) ?_
    refine v_aload_n hC dX10_count_84 rfl rfl ?_
    refine gf_10_1 hC ht (wf_261 hW ht) mw_2_79 dX10_count_85 ?_
    refine gf_7_4 hC (wf_261 hW ht) mw_2_37 dX10_count_88 ?_
    rw [h216]
    refine v_iret hC dX10_count_91 ?_
    exact ⟨by decide, rfl⟩
  by_cases e1 : x = 1
  · subst e1
    refine v_tsi hC dX10_count_1 (by decide) (by decide) (off := 91) (by rfl) (tgt := 92) (by decide) ?_
    refine v_aload_n hC dX10_count_92 rfl rfl ?_
    refine gf_10_1 hC ht (wf_261 hW ht) mw_2_79 dX10_count_93 ?_
    refine cVi0 hC (c_X7_countInHand0 (wf_261 hW ht) h216) yv_X7_countInHand rfl (wf_261 hW ht) mw_4_77 ⟨Nat.le_of_ble_eq_true rfl, Nat.le_of_ble_eq_true rfl⟩ ⟨Nat.le_of_ble_eq_true rfl, Nat.le_of_ble_eq_true rfl⟩ (Nat.le_of_ble_eq_true rfl) dX10_count_96 (fun r96 M98 hq => ?_)
    obtain ⟨rfl, hm⟩ := hq
    have hm2 := hm.symm
    clear hm
    subst hm2
    refine v_iret hC dX10_count_99 ?_
    exact ⟨by decide, rfl⟩
  by_cases e2 : x = 2
  · subst e2
    refine v_tsi hC dX10_count_1 (by decide) (by decide) (off := 99) (by rfl) (tgt := 100) (by decide) ?_
    refine v_aload_n hC dX10_count_100 rfl rfl ?_
    refine gf_10_1 hC ht (wf_261 hW ht) mw_2_79 dX10_count_101 ?_
    refine gf_7_2 hC (wf_261 hW ht) mw_2_33 dX10_count_104 ?_
    rw [h214]
    refine v_iret hC dX10_count_107 ?_
    exact ⟨by decide, rfl⟩
  by_cases e3 : x = 3
  · subst e3
    refine v_tsi hC dX10_count_1 (by decide) (by decide) (off := 107) (by rfl) (tgt := 108) (by decide) ?_
    refine v_aload_n hC dX10_count_108 rfl rfl ?_
    refine gf_10_1 hC ht (wf_261 hW ht) mw_2_79 dX10_count_109 ?_
    refine gf_7_6 hC (wf_261 hW ht) (wf_218 hW (wf_261 hW ht)) mw_2_41 dX10_count_112 ?_
    refine gf_4_2 hC (wf_218 hW (wf_261 hW ht)) mw_2_11 dX10_count_115 ?_
    rw [h166]
    refine v_iret hC dX10_count_118 ?_
    exact ⟨by decide, rfl⟩
  by_cases e4 : x = 4
  · subst e4
    refine v_tsi hC dX10_count_1 (by decide) (by decide) (off := 118) (by rfl) (tgt := 119) (by decide) ?_
    refine v_aload_n hC dX10_count_119 rfl rfl ?_
    refine gf_10_1 hC ht (wf_261 hW ht) mw_2_79 dX10_count_120 ?_
    refine gf_7_6 hC (wf_261 hW ht) (wf_218 hW (wf_261 hW ht)) mw_2_41 dX10_count_123 ?_
    refine gf_4_4 hC (wf_218 hW (wf_261 hW ht)) mw_2_16 dX10_count_126 ?_
    rw [h168]
    refine v_iret hC dX10_count_129 ?_
    exact ⟨by decide, rfl⟩
  by_cases e5 : x = 5
  · subst e5
    refine v_tsi hC dX10_count_1 (by decide) (by decide) (off := 129) (by rfl) (tgt := 130) (by decide) ?_
    refine v_aload_n hC dX10_count_130 rfl rfl ?_
    refine gf_10_1 hC ht (wf_261 hW ht) mw_2_79 dX10_count_131 ?_
    refine gf_7_6 hC (wf_261 hW ht) (wf_218 hW (wf_261 hW ht)) mw_2_41 dX10_count_134 ?_
    refine cVi0 hC (c_X4_countOpenDisputes0 (wf_218 hW (wf_261 hW ht)) h168) yv_X4_countOpenDisputes rfl (wf_218 hW (wf_261 hW ht)) mw_4_81 ⟨Nat.le_of_ble_eq_true rfl, Nat.le_of_ble_eq_true rfl⟩ ⟨Nat.le_of_ble_eq_true rfl, Nat.le_of_ble_eq_true rfl⟩ (Nat.le_of_ble_eq_true rfl) dX10_count_137 (fun r137 M139 hq => ?_)
    obtain ⟨rfl, hm⟩ := hq
    have hm2 := hm.symm
    clear hm
    subst hm2
    refine v_iret hC dX10_count_140 ?_
    exact ⟨by decide, rfl⟩
  by_cases e6 : x = 6
  · subst e6
    refine v_tsi hC dX10_count_1 (by decide) (by decide) (off := 140) (by rfl) (tgt := 141) (by decide) ?_
    refine v_aload_n hC dX10_count_141 rfl rfl ?_
    refine gf_10_1 hC ht (wf_261 hW ht) mw_2_79 dX10_count_142 ?_
    refine cVi0 hC (c_X7_wordsInHand0 (wf_261 hW ht) h216) yv_X7_wordsInHand rfl (wf_261 hW ht) mw_4_85 ⟨Nat.le_of_ble_eq_true rfl, Nat.le_of_ble_eq_true rfl⟩ ⟨Nat.le_of_ble_eq_true rfl, Nat.le_of_ble_eq_true rfl⟩ (Nat.le_of_ble_eq_true rfl) dX10_count_145 (fun r145 M147 hq => ?_)
    obtain ⟨rfl, hm⟩ := hq
    have hm2 := hm.symm
    clear hm
    subst hm2
    refine v_iret hC dX10_count_148 ?_
    exact ⟨by decide, rfl⟩
  by_cases e7 : x = 7
  · subst e7
    refine v_tsi hC dX10_count_1 (by decide) (by decide) (off := 148) (by rfl) (tgt := 149) (by decide) ?_
    refine v_aload_n hC dX10_count_149 rfl rfl ?_
    refine gf_10_1 hC ht (wf_261 hW ht) mw_2_79 dX10_count_150 ?_
    refine cVi0 hC (c_X7_wordsDelivered0 (wf_261 hW ht) h216) yv_X7_wordsDelivered rfl (wf_261 hW ht) mw_4_89 ⟨Nat.le_of_ble_eq_true rfl, Nat.le_of_ble_eq_true rfl⟩ ⟨Nat.le_of_ble_eq_true rfl, Nat.le_of_ble_eq_true rfl⟩ (Nat.le_of_ble_eq_true rfl) dX10_count_153 (fun r153 M155 hq => ?_)
    obtain ⟨rfl, hm⟩ := hq
    have hm2 := hm.symm
    clear hm
    subst hm2
    refine v_iret hC dX10_count_156 ?_
    exact ⟨by decide, rfl⟩
  by_cases e8 : x = 8
  · subst e8
    refine v_tsi hC dX10_count_1 (by decide) (by decide) (off := 156) (by rfl) (tgt := 157) (by decide) ?_
    refine v_aload_n hC dX10_count_157 rfl rfl ?_
    refine gf_10_1 hC ht (wf_261 hW ht) mw_2_79 dX10_count_158 ?_
    refine cVi0 hC (c_X7_paidInAll0 (wf_261 hW ht) h216) yv_X7_paidInAll rfl (wf_261 hW ht) mw_4_93 ⟨Nat.le_of_ble_eq_true rfl, Nat.le_of_ble_eq_true rfl⟩ ⟨Nat.le_of_ble_eq_true rfl, Nat.le_of_ble_eq_true rfl⟩ (Nat.le_of_ble_eq_true rfl) dX10_count_161 (fun r161 M163 hq => ?_)
    obtain ⟨rfl, hm⟩ := hq
    have hm2 := hm.symm
    clear hm
    subst hm2
    refine v_iret hC dX10_count_164 ?_
    exact ⟨by decide, rfl⟩
  by_cases e9 : x = 9
  · subst e9
    refine v_tsi hC dX10_count_1 (by decide) (by decide) (off := 164) (by rfl) (tgt := 165) (by decide) ?_
    refine v_aload_n hC dX10_count_165 rfl rfl ?_
    refine gf_10_1 hC ht (wf_261 hW ht) mw_2_79 dX10_count_166 ?_
    refine cVi0 hC (c_X7_countInHandWithoutTarget0 (wf_261 hW ht) h216) yv_X7_countInHandWithoutTarget rfl (wf_261 hW ht) mw_4_98 ⟨Nat.le_of_ble_eq_true rfl, Nat.le_of_ble_eq_true rfl⟩ ⟨Nat.le_of_ble_eq_true rfl, Nat.le_of_ble_eq_true rfl⟩ (Nat.le_of_ble_eq_true rfl) dX10_count_169 (fun r169 M171 hq => ?_)
    obtain ⟨rfl, hm⟩ := hq
    have hm2 := hm.symm
    clear hm
    subst hm2
    refine v_iret hC dX10_count_172 ?_
    exact ⟨by decide, rfl⟩
  by_cases e10 : x = 10
  · subst e10
    refine v_tsi hC dX10_count_1 (by decide) (by decide) (off := 172) (by rfl) (tgt := 173) (by decide) ?_
    refine v_aload_n hC dX10_count_173 rfl rfl ?_
    refine gf_10_1 hC ht (wf_261 hW ht) mw_2_79 dX10_count_174 ?_
    refine v_iload_n hC dX10_count_177 rfl rfl ?_
    refine v_bipush (v := 10) hC dX10_count_178 (by decide) ?_
    refine v_isub hC dX10_count_180 ?_
    refine cVi1 hC (c_X7_countInWay0 (wf_261 hW ht) h216) yv_X7_countInWay rfl (wf_261 hW ht) mw_4_103 ⟨Nat.le_of_ble_eq_true rfl, Nat.le_of_ble_eq_true rfl⟩ ⟨Nat.le_of_ble_eq_true rfl, Nat.le_of_ble_eq_true rfl⟩ (Nat.le_of_ble_eq_true rfl) dX10_count_181 (fun r181 M183 hq => ?_)
    obtain ⟨rfl, hm⟩ := hq
    have hm2 := hm.symm
    clear hm
    subst hm2
    refine v_iret hC dX10_count_184 ?_
    exact ⟨by decide, rfl⟩
  by_cases e11 : x = 11
  · subst e11
    refine v_tsi hC dX10_count_1 (by decide) (by decide) (off := 172) (by rfl) (tgt := 173) (by decide) ?_
    refine v_aload_n hC dX10_count_173 rfl rfl ?_
    refine gf_10_1 hC ht (wf_261 hW ht) mw_2_79 dX10_count_174 ?_
    refine v_iload_n hC dX10_count_177 rfl rfl ?_
    refine v_bipush (v := 10) hC dX10_count_178 (by decide) ?_
    refine v_isub hC dX10_count_180 ?_
    refine cVi1 hC (c_X7_countInWay0 (wf_261 hW ht) h216) yv_X7_countInWay rfl (wf_261 hW ht) mw_4_103 ⟨Nat.le_of_ble_eq_true rfl, Nat.le_of_ble_eq_true rfl⟩ ⟨Nat.le_of_ble_eq_true rfl, Nat.le_of_ble_eq_true rfl⟩ (Nat.le_of_ble_eq_true rfl) dX10_count_181 (fun r181 M183 hq => ?_)
    obtain ⟨rfl, hm⟩ := hq
    have hm2 := hm.symm
    clear hm
    subst hm2
    refine v_iret hC dX10_count_184 ?_
    exact ⟨by decide, rfl⟩
  by_cases e12 : x = 12
  · subst e12
    refine v_tsi hC dX10_count_1 (by decide) (by decide) (off := 172) (by rfl) (tgt := 173) (by decide) ?_
    refine v_aload_n hC dX10_count_173 rfl rfl ?_
    refine gf_10_1 hC ht (wf_261 hW ht) mw_2_79 dX10_count_174 ?_
    refine v_iload_n hC dX10_count_177 rfl rfl ?_
    refine v_bipush (v := 10) hC dX10_count_178 (by decide) ?_
    refine v_isub hC dX10_count_180 ?_
    refine cVi1 hC (c_X7_countInWay0 (wf_261 hW ht) h216) yv_X7_countInWay rfl (wf_261 hW ht) mw_4_103 ⟨Nat.le_of_ble_eq_true rfl, Nat.le_of_ble_eq_true rfl⟩ ⟨Nat.le_of_ble_eq_true rfl, Nat.le_of_ble_eq_true rfl⟩ (Nat.le_of_ble_eq_true rfl) dX10_count_181 (fun r181 M183 hq => ?_)
    obtain ⟨rfl, hm⟩ := hq
    have hm2 := hm.symm
    clear hm
    subst hm2
    refine v_iret hC dX10_count_184 ?_
    exact ⟨by decide, rfl⟩
  by_cases e13 : x = 13
  · subst e13
    refine v_tsi hC dX10_count_1 (by decide) (by decide) (off := 172) (by rfl) (tgt := 173) (by decide) ?_
    refine v_aload_n hC dX10_count_173 rfl rfl ?_
    refine gf_10_1 hC ht (wf_261 hW ht) mw_2_79 dX10_count_174 ?_
    refine v_iload_n hC dX10_count_177 rfl rfl ?_
    refine v_bipush (v := 10) hC dX10_count_178 (by decide) ?_
    refine v_isub hC dX10_count_180 ?_
    refine cVi1 hC (c_X7_countInWay0 (wf_261 hW ht) h216) yv_X7_countInWay rfl (wf_261 hW ht) mw_4_103 ⟨Nat.le_of_ble_eq_true rfl, Nat.le_of_ble_eq_true rfl⟩ ⟨Nat.le_of_ble_eq_true rfl, Nat.le_of_ble_eq_true rfl⟩ (Nat.le_of_ble_eq_true rfl) dX10_count_181 (fun r181 M183 hq => ?_)
    obtain ⟨rfl, hm⟩ := hq
    have hm2 := hm.symm
    clear hm
    subst hm2
    refine v_iret hC dX10_count_184 ?_
    exact ⟨by decide, rfl⟩
  by_cases e14 : x = 14
  · subst e14
    refine v_tsi hC dX10_count_1 (by decide) (by decide) (off := 172) (by rfl) (tgt := 173) (by decide) ?_
    refine v_aload_n hC dX10_count_173 rfl rfl ?_
    refine gf_10_1 hC ht (wf_261 hW ht) mw_2_79 dX10_count_174 ?_
    refine v_iload_n hC dX10_count_177 rfl rfl ?_
    refine v_bipush (v := 10) hC dX10_count_178 (by decide) ?_
    refine v_isub hC dX10_count_180 ?_
    refine cVi1 hC (c_X7_countInWay0 (wf_261 hW ht) h216) yv_X7_countInWay rfl (wf_261 hW ht) mw_4_103 ⟨Nat.le_of_ble_eq_true rfl, Nat.le_of_ble_eq_true rfl⟩ ⟨Nat.le_of_ble_eq_true rfl, Nat.le_of_ble_eq_true rfl⟩ (Nat.le_of_ble_eq_true rfl) dX10_count_181 (fun r181 M183 hq => ?_)
    obtain ⟨rfl, hm⟩ := hq
    have hm2 := hm.symm
    clear hm
    subst hm2
    refine v_iret hC dX10_count_184 ?_
    exact ⟨by decide, rfl⟩
  by_cases e15 : x = 15
  · subst e15
    refine v_tsi hC dX10_count_1 (by decide) (by decide) (off := 184) (by rfl) (tgt := 185) (by decide) ?_
    refine v_aload_n hC dX10_count_185 rfl rfl ?_
    refine gf_10_3 hC ht (wf_263 hW ht) mw_2_81 dX10_count_186 ?_
    refine gf_2_1 hC (wf_263 hW ht) mw_2_72 dX10_count_189 ?_
    rw [h133]
    refine v_iret hC dX10_count_192 ?_
    exact ⟨by decide, rfl⟩
  by_cases e16 : x = 16
  · subst e16
    refine v_tsi hC dX10_count_1 (by decide) (by decide) (off := 192) (by rfl) (tgt := 193) (by decide) ?_
    refine v_aload_n hC dX10_count_193 rfl rfl ?_
    refine gf_10_0 hC ht (wf_260 hW ht) mw_2_78 dX10_count_194 ?_
    refine gf_8_1 hC (wf_260 hW ht) mw_1_71 dX10_count_197 ?_
    rw [h229]
    refine v_iret hC dX10_count_200 ?_
    exact ⟨by decide, rfl⟩
  have hout : x.toInt < 0 ∨ 16 < x.toInt := by
    have q0 := lv_neT e0 (a := 0) rfl
    have q1 := lv_neT e1 (a := 1) rfl
    have q2 := lv_neT e2 (a := 2) rfl
    have q3 := lv_neT e3 (a := 3) rfl
    have q4 := lv_neT e4 (a := 4) rfl
    have q5 := lv_neT e5 (a := 5) rfl
    have q6 := lv_neT e6 (a := 6) rfl
    have q7 := lv_neT e7 (a := 7) rfl
    have q8 := lv_neT e8 (a := 8) rfl
    have q9 := lv_neT e9 (a := 9) rfl
    have q10 := lv_neT e10 (a := 10) rfl
    have q11 := lv_neT e11 (a := 11) rfl
    have q12 := lv_neT e12 (a := 12) rfl
    have q13 := lv_neT e13 (a := 13) rfl
    have q14 := lv_neT e14 (a := 14) rfl
    have q15 := lv_neT e15 (a := 15) rfl
    have q16 := lv_neT e16 (a := 16) rfl
    omega
  refine v_tso hC dX10_count_1 hout (tgt := 201) (by decide) ?_
  refine v_bipush (v := (-2)) hC dX10_count_201 (by decide) ?_
  refine v_iret hC dX10_count_203 ?_
  exact ⟨by rw [if_pos hout], rfl⟩
