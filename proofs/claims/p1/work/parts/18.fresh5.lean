set_option maxHeartbeats 4000000 in
set_option maxRecDepth 100000 in
theorem c_X11_in {l : Launch} {G : Gd} {M : Me} {x y z : Int32}  : CQ (Qi G (fun r M2 => M2 = M ∧ ((y ≤ x ∧ x ≤ z) ∧ r = 1 ∨ ¬ (y ≤ x ∧ x ≤ z) ∧ r = 0))) l G yX11_in cX11_in 3 ((some .boolean)) 0 0 0 0 [.int x, .int y, .int z] M := by
  refine c_of ([some (.int x), some (.int y), some (.int z)] : Lo) RX11 "in" (by decide) rfl rfl (Nat.le_of_ble_eq_true rfl) rfl (fun p e s m below meth c hC nw => ?_)
  refine v_iload_n hC dX11_in_0 rfl rfl ?_
  refine v_iload_n hC dX11_in_1 rfl rfl ?_
  refine v_icmp_lt hC dX11_in_2 (tgt := 14) (by decide) (fun h2 => ?_) (fun h2 => ?_)
  · refine v_iconst (v := 0) hC dX11_in_14 (by decide) ?_
    refine v_zret hC (Or.inl rfl) dX11_in_15 ?_
    exact ⟨rfl, Or.inr ⟨fun q => by first | exact i_ab h2 q.1 | exact i_ab h7 q.2, rfl⟩⟩
  · refine v_iload_n hC dX11_in_5 rfl rfl ?_
    refine v_iload_n hC dX11_in_6 rfl rfl ?_
    refine v_icmp_gt hC dX11_in_7 (tgt := 14) (by decide) (fun h7 => ?_) (fun h7 => ?_)
    · refine v_iconst (v := 0) hC dX11_in_14 (by decide) ?_
      refine v_zret hC (Or.inl rfl) dX11_in_15 ?_
      exact ⟨rfl, Or.inr ⟨fun q => by first | exact i_ab h2 q.1 | exact i_ab h7 q.2, rfl⟩⟩
    · refine v_iconst (v := 1) hC dX11_in_10 (by decide) ?_
      refine v_goto hC dX11_in_11 (tgt := 15) (by decide) ?_
      refine v_zret hC (Or.inr rfl) dX11_in_15 ?_
      exact ⟨rfl, Or.inl ⟨⟨i_nlt h2, i_nlt h7⟩, rfl⟩⟩

set_option maxHeartbeats 4000000 in
set_option maxRecDepth 100000 in
theorem c_X11_number {l : Launch} {G : Gd} {M : Me} {h j : Nat} {x v : Int32} (hW : Wt M) (ht : m_t M h = 12) (hx : ix x 1662 j) (hv : (m_l M 31 (m_r M 276 h 0) j).toInt32 = v) : CQ (Qi G (fun r M2 => r = v ∧ M2 = M)) l G yX11_number cX11_number 2 ((some .int)) 0 0 0 0 [.ref h, .int x] M := by
  refine c_of ([some (.ref h), some (.int x)] : Lo) RX11 "number" (by decide) rfl rfl (Nat.le_of_ble_eq_true rfl) rfl (fun p e s m below meth c hC nw => ?_)
  refine v_aload_n hC dX11_number_0 rfl rfl ?_
  refine gf_11_0 hC ht (wf_276 hW ht) mw_4_120 dX11_number_1 ?_
  refine v_iload_n hC dX11_number_4 rfl rfl ?_
  refine v_lald 31 hC (wf_276 hW ht) (by decide) (by decide) (by rw [wz_31 hW (wf_276 hW ht)]; exact hx) dX11_number_5 ?_
  refine v_l2i hC dX11_number_6 ?_
  refine v_iret hC dX11_number_7 ?_
  exact ⟨hv, rfl⟩

set_option maxHeartbeats 4000000 in
set_option maxRecDepth 100000 in
theorem c_X11_noFile0 {l : Launch} {G : Gd} {M : Me} {h : Nat} {x : Int32} (hW : Wt M) (ht : m_t M h = 12) (l0 : m_l M 31 (m_r M 276 h 0) 0 = 0) : CQ (Qi G (fun r M2 => r = 1 ∧ M2 = M)) l G yX11_noFile cX11_noFile 2 ((some .boolean)) 1 22 0 0 [.ref h, .int x] M := by
  refine c_of ([some (.ref h), some (.int x)] : Lo) RX11 "noFile" (by decide) rfl rfl (Nat.le_of_ble_eq_true rfl) rfl (fun p e s m below meth c hC nw => ?_)
  refine v_iload_n hC dX11_noFile_0 rfl rfl ?_
  refine v_iconst (v := 0) hC dX11_noFile_1 (by decide) ?_
  refine v_aload_n hC dX11_noFile_2 rfl rfl ?_
  refine v_iconst (v := 0) hC dX11_noFile_3 (by decide) ?_
  refine cVi1 hC (c_X11_number (v := 0) hW ht (j := 0) (ix_e (by decide) (by decide) (by decide)) (by rw [l0]; rfl)) yv_X11_number rfl ht mw_4_165 ⟨Nat.le_of_ble_eq_true rfl, Nat.le_of_ble_eq_true rfl⟩ ⟨Nat.le_of_ble_eq_true rfl, Nat.le_of_ble_eq_true rfl⟩ (Nat.le_of_ble_eq_true rfl) dX11_noFile_4 (fun r4 M6 hq => ?_)
  obtain ⟨rfl, hm⟩ := hq
  have hm2 := hm.symm
  clear hm
  subst hm2
  refine v_iconst (v := 1) hC dX11_noFile_7 (by decide) ?_
  refine v_isub hC dX11_noFile_8 ?_
  refine cSi3 hC (c_X11_in ) ys_X11_in mw_4_181 ⟨Nat.le_of_ble_eq_true rfl, Nat.le_of_ble_eq_true rfl⟩ ⟨Nat.le_of_ble_eq_true rfl, Nat.le_of_ble_eq_true rfl⟩ (Nat.le_of_ble_eq_true rfl) dX11_noFile_9 (fun r9 M11 hq => ?_)
  obtain ⟨hm, hq2⟩ := hq
  have hm2 := hm.symm
  clear hm
  subst hm2
  obtain ⟨g9, rfl⟩ | ⟨g9, rfl⟩ := hq2
  · exact (no_in g9 (by decide)).elim
  · refine v_if_ne hC dX11_noFile_12 (tgt := 19) (by decide) (fun hx => absurd hx (by decide)) (fun _ => ?_)
    refine v_iconst (v := 1) hC dX11_noFile_15 (by decide) ?_
    refine v_goto hC dX11_noFile_16 (tgt := 20) (by decide) ?_
    refine v_zret hC (Or.inr rfl) dX11_noFile_20 ?_
    exact ⟨rfl, rfl⟩

set_option maxHeartbeats 4000000 in
set_option maxRecDepth 100000 in
theorem c_X11_noPerson0 {l : Launch} {G : Gd} {M : Me} {h : Nat} {x : Int32} (hW : Wt M) (ht : m_t M h = 12) (l1 : m_l M 31 (m_r M 276 h 0) 1 = 0) : CQ (Qi G (fun r M2 => r = 1 ∧ M2 = M)) l G yX11_noPerson cX11_noPerson 2 ((some .boolean)) 1 22 0 0 [.ref h, .int x] M := by
  refine c_of ([some (.ref h), some (.int x)] : Lo) RX11 "noPerson" (by decide) rfl rfl (Nat.le_of_ble_eq_true rfl) rfl (fun p e s m below meth c hC nw => ?_)
  refine v_iload_n hC dX11_noPerson_0 rfl rfl ?_
  refine v_iconst (v := 0) hC dX11_noPerson_1 (by decide) ?_
  refine v_aload_n hC dX11_noPerson_2 rfl rfl ?_
  refine v_iconst (v := 1) hC dX11_noPerson_3 (by decide) ?_
  refine cVi1 hC (c_X11_number (v := 0) hW ht (j := 1) (ix_e (by decide) (by decide) (by decide)) (by rw [l1]; rfl)) yv_X11_number rfl ht mw_4_165 ⟨Nat.le_of_ble_eq_true rfl, Nat.le_of_ble_eq_true rfl⟩ ⟨Nat.le_of_ble_eq_true rfl, Nat.le_of_ble_eq_true rfl⟩ (Nat.le_of_ble_eq_true rfl) dX11_noPerson_4 (fun r4 M6 hq => ?_)
  obtain ⟨rfl, hm⟩ := hq
  have hm2 := hm.symm
  clear hm
  subst hm2
  refine v_iconst (v := 1) hC dX11_noPerson_7 (by decide) ?_
  refine v_isub hC dX11_noPerson_8 ?_
  refine cSi3 hC (c_X11_in ) ys_X11_in mw_4_181 ⟨Nat.le_of_ble_eq_true rfl, Nat.le_of_ble_eq_true rfl⟩ ⟨Nat.le_of_ble_eq_true rfl, Nat.le_of_ble_eq_true rfl⟩ (Nat.le_of_ble_eq_true rfl) dX11_noPerson_9 (fun r9 M11 hq => ?_)
  obtain ⟨hm, hq2⟩ := hq
  have hm2 := hm.symm
  clear hm
  subst hm2
  obtain ⟨g9, rfl⟩ | ⟨g9, rfl⟩ := hq2
  · exact (no_in g9 (by decide)).elim
  · refine v_if_ne hC dX11_noPerson_12 (tgt := 19) (by decide) (fun hx => absurd hx (by decide)) (fun _ => ?_)
    refine v_iconst (v := 1) hC dX11_noPerson_15 (by decide) ?_
    refine v_goto hC dX11_noPerson_16 (tgt := 20) (by decide) ?_
    refine v_zret hC (Or.inr rfl) dX11_noPerson_20 ?_
    exact ⟨rfl, rfl⟩

set_option maxHeartbeats 4000000 in
set_option maxRecDepth 100000 in
theorem c_X11_noEntry0 {l : Launch} {G : Gd} {M : Me} {h : Nat} {x : Int32} (hW : Wt M) (ht : m_t M h = 12) (l2 : m_l M 31 (m_r M 276 h 0) 2 = 0) : CQ (Qi G (fun r M2 => r = 1 ∧ M2 = M)) l G yX11_noEntry cX11_noEntry 2 ((some .boolean)) 1 22 0 0 [.ref h, .int x] M := by
  refine c_of ([some (.ref h), some (.int x)] : Lo) RX11 "noEntry" (by decide) rfl rfl (Nat.le_of_ble_eq_true rfl) rfl (fun p e s m below meth c hC nw => ?_)
  refine v_iload_n hC dX11_noEntry_0 rfl rfl ?_
  refine v_iconst (v := 0) hC dX11_noEntry_1 (by decide) ?_
  refine v_aload_n hC dX11_noEntry_2 rfl rfl ?_
  refine v_iconst (v := 2) hC dX11_noEntry_3 (by decide) ?_
  refine cVi1 hC (c_X11_number (v := 0) hW ht (j := 2) (ix_e (by decide) (by decide) (by decide)) (by rw [l2]; rfl)) yv_X11_number rfl ht mw_4_165 ⟨Nat.le_of_ble_eq_true rfl, Nat.le_of_ble_eq_true rfl⟩ ⟨Nat.le_of_ble_eq_true rfl, Nat.le_of_ble_eq_true rfl⟩ (Nat.le_of_ble_eq_true rfl) dX11_noEntry_4 (fun r4 M6 hq => ?_)
  obtain ⟨rfl, hm⟩ := hq
  have hm2 := hm.symm
  clear hm
  subst hm2
  refine v_iconst (v := 1) hC dX11_noEntry_7 (by decide) ?_
  refine v_isub hC dX11_noEntry_8 ?_
  refine cSi3 hC (c_X11_in ) ys_X11_in mw_4_181 ⟨Nat.le_of_ble_eq_true rfl, Nat.le_of_ble_eq_true rfl⟩ ⟨Nat.le_of_ble_eq_true rfl, Nat.le_of_ble_eq_true rfl⟩ (Nat.le_of_ble_eq_true rfl) dX11_noEntry_9 (fun r9 M11 hq => ?_)
  obtain ⟨hm, hq2⟩ := hq
  have hm2 := hm.symm
  clear hm
  subst hm2
  obtain ⟨g9, rfl⟩ | ⟨g9, rfl⟩ := hq2
  · exact (no_in g9 (by decide)).elim
  · refine v_if_ne hC dX11_noEntry_12 (tgt := 19) (by decide) (fun hx => absurd hx (by decide)) (fun _ => ?_)
    refine v_iconst (v := 1) hC dX11_noEntry_15 (by decide) ?_
    refine v_goto hC dX11_noEntry_16 (tgt := 20) (by decide) ?_
    refine v_zret hC (Or.inr rfl) dX11_noEntry_20 ?_
    exact ⟨rfl, rfl⟩

set_option maxHeartbeats 4000000 in
set_option maxRecDepth 100000 in
theorem c_X11_noDispute0 {l : Launch} {G : Gd} {M : Me} {h : Nat} {x : Int32} (hW : Wt M) (ht : m_t M h = 12) (l3 : m_l M 31 (m_r M 276 h 0) 3 = 0) : CQ (Qi G (fun r M2 => r = 1 ∧ M2 = M)) l G yX11_noDispute cX11_noDispute 2 ((some .boolean)) 1 22 0 0 [.ref h, .int x] M := by
  refine c_of ([some (.ref h), some (.int x)] : Lo) RX11 "noDispute" (by decide) rfl rfl (Nat.le_of_ble_eq_true rfl) rfl (fun p e s m below meth c hC nw => ?_)
  refine v_iload_n hC dX11_noDispute_0 rfl rfl ?_
  refine v_iconst (v := 0) hC dX11_noDispute_1 (by decide) ?_
  refine v_aload_n hC dX11_noDispute_2 rfl rfl ?_
  refine v_iconst (v := 3) hC dX11_noDispute_3 (by decide) ?_
  refine cVi1 hC (c_X11_number (v := 0) hW ht (j := 3) (ix_e (by decide) (by decide) (by decide)) (by rw [l3]; rfl)) yv_X11_number rfl ht mw_4_165 ⟨Nat.le_of_ble_eq_true rfl, Nat.le_of_ble_eq_true rfl⟩ ⟨Nat.le_of_ble_eq_true rfl, Nat.le_of_ble_eq_true rfl⟩ (Nat.le_of_ble_eq_true rfl) dX11_noDispute_4 (fun r4 M6 hq => ?_)
  obtain ⟨rfl, hm⟩ := hq
  have hm2 := hm.symm
  clear hm
  subst hm2
  refine v_iconst (v := 1) hC dX11_noDispute_7 (by decide) ?_
  refine v_isub hC dX11_noDispute_8 ?_
  refine cSi3 hC (c_X11_in ) ys_X11_in mw_4_181 ⟨Nat.le_of_ble_eq_true rfl, Nat.le_of_ble_eq_true rfl⟩ ⟨Nat.le_of_ble_eq_true rfl, Nat.le_of_ble_eq_true rfl⟩ (Nat.le_of_ble_eq_true rfl) dX11_noDispute_9 (fun r9 M11 hq => ?_)
  obtain ⟨hm, hq2⟩ := hq
  have hm2 := hm.symm
  clear hm
  subst hm2
  obtain ⟨g9, rfl⟩ | ⟨g9, rfl⟩ := hq2
  · exact (no_in g9 (by decide)).elim
  · refine v_if_ne hC dX11_noDispute_12 (tgt := 19) (by decide) (fun hx => absurd hx (by decide)) (fun _ => ?_)
    refine v_iconst (v := 1) hC dX11_noDispute_15 (by decide) ?_
    refine v_goto hC dX11_noDispute_16 (tgt := 20) (by decide) ?_
    refine v_zret hC (Or.inr rfl) dX11_noDispute_20 ?_
    exact ⟨rfl, rfl⟩

set_option maxHeartbeats 4000000 in
set_option maxRecDepth 100000 in
theorem c_X11_noSegment0 {l : Launch} {G : Gd} {M : Me} {h : Nat} {x y : Int32} (hW : Wt M) (ht : m_t M h = 12) (l0 : m_l M 31 (m_r M 276 h 0) 0 = 0) : CQ (Qi G (fun r M2 => r = 1 ∧ M2 = M)) l G yX11_noSegment cX11_noSegment 3 ((some .boolean)) 2 43 0 0 [.ref h, .int x, .int y] M := by
  refine c_of ([some (.ref h), some (.int x), some (.int y)] : Lo) RX11 "noSegment" (by decide) rfl rfl (Nat.le_of_ble_eq_true rfl) rfl (fun p e s m below meth c hC nw => ?_)
  refine v_aload_n hC dX11_noSegment_0 rfl rfl ?_
  refine v_iload_n hC dX11_noSegment_1 rfl rfl ?_
  refine cVi1 hC (c_X11_noFile0 hW ht l0) yv_X11_noFile rfl ht mw_4_230 ⟨Nat.le_of_ble_eq_true rfl, Nat.le_of_ble_eq_true rfl⟩ ⟨Nat.le_of_ble_eq_true rfl, Nat.le_of_ble_eq_true rfl⟩ (Nat.le_of_ble_eq_true rfl) dX11_noSegment_2 (fun r2 M4 hq => ?_)
  obtain ⟨rfl, hm⟩ := hq
  have hm2 := hm.symm
  clear hm
  subst hm2
  refine v_if_ne hC dX11_noSegment_5 (tgt := 23) (by decide) (fun _ => ?_) (fun hx => absurd hx (by decide))
  refine v_iconst (v := 1) hC dX11_noSegment_23 (by decide) ?_
  refine v_goto hC dX11_noSegment_24 (tgt := 28) (by decide) ?_
  refine v_zret hC (Or.inr rfl) dX11_noSegment_28 ?_
  exact ⟨rfl, rfl⟩

set_option maxHeartbeats 4000000 in
set_option maxRecDepth 100000 in
theorem c_X11_bar0 {l : Launch} {G : Gd} {M : Me} {h : Nat} {x y z : Int32} (hW : Wt M) (hs : FsN M h) : CQ (Qi G (fun r M2 => r = -1 ∧ M2 = M)) l G yX11_bar cX11_bar 4 ((some .int)) 2 43 0 0 [.ref h, .int x, .int y, .int z] M := by
  refine c_of ([some (.ref h), some (.int x), some (.int y), some (.int z)] : Lo) RX11 "bar" (by decide) rfl rfl (Nat.le_of_ble_eq_true rfl) rfl (fun p e s m below meth c hC nw => ?_)
  obtain ⟨ht, h279, h280, h282, ⟨l0, l1, l2, l3⟩, l4, l5, l6, l7, l8, l9⟩ := hs
  refine v_aload_n hC dX11_bar_0 rfl rfl ?_
  refine v_iload_n hC dX11_bar_1 rfl rfl ?_
  refine cVi1 hC (c_X11_noPerson0 hW ht l1) yv_X11_noPerson rfl ht mw_4_194 ⟨Nat.le_of_ble_eq_true rfl, Nat.le_of_ble_eq_true rfl⟩ ⟨Nat.le_of_ble_eq_true rfl, Nat.le_of_ble_eq_true rfl⟩ (Nat.le_of_ble_eq_true rfl) dX11_bar_2 (fun r2 M4 hq => ?_)
  obtain ⟨rfl, hm⟩ := hq
  have hm2 := hm.symm
  clear hm
  subst hm2
  refine v_if_ne hC dX11_bar_5 (tgt := 16) (by decide) (fun _ => ?_) (fun hx => absurd hx (by decide))
  refine v_iconst (v := (-1)) hC dX11_bar_16 (by decide) ?_
  refine v_iret hC dX11_bar_17 ?_
  exact ⟨rfl, rfl⟩

set_option maxHeartbeats 4000000 in
set_option maxRecDepth 100000 in
theorem c_X11_readSegments0 {l : Launch} {G : Gd} {M : Me} {h : Nat} {x : Int32} (hW : Wt M) (hs : FsN M h) : CQ (Qi G (fun r M2 => r = -1 ∧ M2 = M)) l G yX11_readSegments cX11_readSegments 6 ((some .int)) 2 43 0 0 [.ref h, .int x] M := by
  refine c_of ([some (.ref h), some (.int x), none, none, none, none] : Lo) RX11 "readSegments" (by decide) rfl rfl (Nat.le_of_ble_eq_true rfl) rfl (fun p e s m below meth c hC nw => ?_)
  obtain ⟨ht, h279, h280, h282, ⟨l0, l1, l2, l3⟩, l4, l5, l6, l7, l8, l9⟩ := hs
  refine v_aload_n hC dX11_readSegments_0 rfl rfl ?_
  refine v_iload_n hC dX11_readSegments_1 rfl rfl ?_
  refine cVi1 hC (c_X11_noFile0 hW ht l0) yv_X11_noFile rfl ht mw_4_230 ⟨Nat.le_of_ble_eq_true rfl, Nat.le_of_ble_eq_true rfl⟩ ⟨Nat.le_of_ble_eq_true rfl, Nat.le_of_ble_eq_true rfl⟩ (Nat.le_of_ble_eq_true rfl) dX11_readSegments_2 (fun r2 M4 hq => ?_)
  obtain ⟨rfl, hm⟩ := hq
  have hm2 := hm.symm
  clear hm
  subst hm2
  refine v_if_eq hC dX11_readSegments_5 (tgt := 10) (by decide) (fun hx => absurd hx (by decide)) (fun _ => ?_)
  refine v_iconst (v := (-1)) hC dX11_readSegments_8 (by decide) ?_
  refine v_iret hC dX11_readSegments_9 ?_
  exact ⟨rfl, rfl⟩

set_option maxHeartbeats 4000000 in
set_option maxRecDepth 100000 in
theorem c_X11_swapFiles0 {l : Launch} {G : Gd} {M : Me} {h : Nat} {x y : Int32} (hW : Wt M) (hs : FsN M h) : CQ (Qi G (fun r M2 => r = -1 ∧ M2 = M)) l G yX11_swapFiles cX11_swapFiles 5 ((some .int)) 2 43 0 0 [.ref h, .int x, .int y] M := by
  refine c_of ([some (.ref h), some (.int x), some (.int y), none, none] : Lo) RX11 "swapFiles" (by decide) rfl rfl (Nat.le_of_ble_eq_true rfl) rfl (fun p e s m below meth c hC nw => ?_)
  obtain ⟨ht, h279, h280, h282, ⟨l0, l1, l2, l3⟩, l4, l5, l6, l7, l8, l9⟩ := hs
  refine v_aload_n hC dX11_swapFiles_0 rfl rfl ?_
  refine v_iload_n hC dX11_swapFiles_1 rfl rfl ?_
  refine cVi1 hC (c_X11_noFile0 hW ht l0) yv_X11_noFile rfl ht mw_4_230 ⟨Nat.le_of_ble_eq_true rfl, Nat.le_of_ble_eq_true rfl⟩ ⟨Nat.le_of_ble_eq_true rfl, Nat.le_of_ble_eq_true rfl⟩ (Nat.le_of_ble_eq_true rfl) dX11_swapFiles_2 (fun r2 M4 hq => ?_)
  obtain ⟨rfl, hm⟩ := hq
  have hm2 := hm.symm
  clear hm
  subst hm2
  refine v_if_ne hC dX11_swapFiles_5 (tgt := 16) (by decide) (fun _ => ?_) (fun hx => absurd hx (by decide))
  refine v_iconst (v := (-1)) hC dX11_swapFiles_16 (by decide) ?_
  refine v_iret hC dX11_swapFiles_17 ?_
  exact ⟨rfl, rfl⟩

set_option maxHeartbeats 4000000 in
set_option maxRecDepth 100000 in
theorem c_X11_withdraw0 {l : Launch} {G : Gd} {M : Me} {h : Nat} {x : Int32} (hW : Wt M) (hs : FsN M h) : CQ (Qi G (fun r M2 => r = -1 ∧ M2 = M)) l G yX11_withdraw cX11_withdraw 2 ((some .int)) 2 43 0 0 [.ref h, .int x] M := by
  refine c_of ([some (.ref h), some (.int x)] : Lo) RX11 "withdraw" (by decide) rfl rfl (Nat.le_of_ble_eq_true rfl) rfl (fun p e s m below meth c hC nw => ?_)
  obtain ⟨ht, h279, h280, h282, ⟨l0, l1, l2, l3⟩, l4, l5, l6, l7, l8, l9⟩ := hs
  refine v_aload_n hC dX11_withdraw_0 rfl rfl ?_
  refine v_iload_n hC dX11_withdraw_1 rfl rfl ?_
  refine cVi1 hC (c_X11_noFile0 hW ht l0) yv_X11_noFile rfl ht mw_4_230 ⟨Nat.le_of_ble_eq_true rfl, Nat.le_of_ble_eq_true rfl⟩ ⟨Nat.le_of_ble_eq_true rfl, Nat.le_of_ble_eq_true rfl⟩ (Nat.le_of_ble_eq_true rfl) dX11_withdraw_2 (fun r2 M4 hq => ?_)
  obtain ⟨rfl, hm⟩ := hq
  have hm2 := hm.symm
  clear hm
  subst hm2
  refine v_if_eq hC dX11_withdraw_5 (tgt := 10) (by decide) (fun hx => absurd hx (by decide)) (fun _ => ?_)
  refine v_iconst (v := (-1)) hC dX11_withdraw_8 (by decide) ?_
  refine v_iret hC dX11_withdraw_9 ?_
  exact ⟨rfl, rfl⟩

set_option maxHeartbeats 4000000 in
set_option maxRecDepth 100000 in
theorem c_X11_take0 {l : Launch} {G : Gd} {M : Me} {h : Nat} {x y : Int32} (hW : Wt M) (hs : FsN M h) : CQ (Qi G (fun r M2 => r = -1 ∧ M2 = M)) l G yX11_take cX11_take 7 ((some .int)) 2 43 0 0 [.ref h, .int x, .int y] M := by
  refine c_of ([some (.ref h), some (.int x), some (.int y), none, none, none, none] : Lo) RX11 "take" (by decide) rfl rfl (Nat.le_of_ble_eq_true rfl) rfl (fun p e s m below meth c hC nw => ?_)
  obtain ⟨ht, h279, h280, h282, ⟨l0, l1, l2, l3⟩, l4, l5, l6, l7, l8, l9⟩ := hs
  refine v_aload_n hC dX11_take_0 rfl rfl ?_
  refine v_iload_n hC dX11_take_1 rfl rfl ?_
  refine cVi1 hC (c_X11_noFile0 hW ht l0) yv_X11_noFile rfl ht mw_4_230 ⟨Nat.le_of_ble_eq_true rfl, Nat.le_of_ble_eq_true rfl⟩ ⟨Nat.le_of_ble_eq_true rfl, Nat.le_of_ble_eq_true rfl⟩ (Nat.le_of_ble_eq_true rfl) dX11_take_2 (fun r2 M4 hq => ?_)
  obtain ⟨rfl, hm⟩ := hq
  have hm2 := hm.symm
  clear hm
  subst hm2
  refine v_if_ne hC dX11_take_5 (tgt := 16) (by decide) (fun _ => ?_) (fun hx => absurd hx (by decide))
  refine v_iconst (v := (-1)) hC dX11_take_16 (by decide) ?_
  refine v_iret hC dX11_take_17 ?_
  exact ⟨rfl, rfl⟩

set_option maxHeartbeats 4000000 in
set_option maxRecDepth 100000 in
theorem c_X11_translate0 {l : Launch} {G : Gd} {M : Me} {h : Nat} {x y z : Int32} (hW : Wt M) (hs : FsN M h) : CQ (Qi G (fun r M2 => r = -1 ∧ M2 = M)) l G yX11_translate cX11_translate 10 ((some .int)) 3 65 0 0 [.ref h, .int x, .int y, .int z] M := by
  refine c_of ([some (.ref h), some (.int x), some (.int y), some (.int z), none, none, none, none, none, none] : Lo) RX11 "translate" (by decide) rfl rfl (Nat.le_of_ble_eq_true rfl) rfl (fun p e s m below meth c hC nw => ?_)
  obtain ⟨ht, h279, h280, h282, ⟨l0, l1, l2, l3⟩, l4, l5, l6, l7, l8, l9⟩ := hs
  refine v_aload_n hC dX11_translate_0 rfl rfl ?_
  refine v_iload_n hC dX11_translate_1 rfl rfl ?_
  refine v_iload_n hC dX11_translate_2 rfl rfl ?_
  refine cVi2 hC (c_X11_noSegment0 hW ht l0) yv_X11_noSegment rfl ht mw_5_123 ⟨Nat.le_of_ble_eq_true rfl, Nat.le_of_ble_eq_true rfl⟩ ⟨Nat.le_of_ble_eq_true rfl, Nat.le_of_ble_eq_true rfl⟩ (Nat.le_of_ble_eq_true rfl) dX11_translate_3 (fun r3 M5 hq => ?_)
  obtain ⟨rfl, hm⟩ := hq
  have hm2 := hm.symm
  clear hm
  subst hm2
  refine v_if_eq hC dX11_translate_6 (tgt := 11) (by decide) (fun hx => absurd hx (by decide)) (fun _ => ?_)
  refine v_iconst (v := (-1)) hC dX11_translate_9 (by decide) ?_
  refine v_iret hC dX11_translate_10 ?_
  exact ⟨rfl, rfl⟩

set_option maxHeartbeats 4000000 in
set_option maxRecDepth 100000 in
theorem c_X11_review0 {l : Launch} {G : Gd} {M : Me} {h : Nat} {x y : Int32} (hW : Wt M) (hs : FsN M h) : CQ (Qi G (fun r M2 => r = -1 ∧ M2 = M)) l G yX11_review cX11_review 3 ((some .int)) 2 43 0 0 [.ref h, .int x, .int y] M := by
  refine c_of ([some (.ref h), some (.int x), some (.int y)] : Lo) RX11 "review" (by decide) rfl rfl (Nat.le_of_ble_eq_true rfl) rfl (fun p e s m below meth c hC nw => ?_)
  obtain ⟨ht, h279, h280, h282, ⟨l0, l1, l2, l3⟩, l4, l5, l6, l7, l8, l9⟩ := hs
  refine v_aload_n hC dX11_review_0 rfl rfl ?_
  refine v_iload_n hC dX11_review_1 rfl rfl ?_
  refine cVi1 hC (c_X11_noFile0 hW ht l0) yv_X11_noFile rfl ht mw_4_230 ⟨Nat.le_of_ble_eq_true rfl, Nat.le_of_ble_eq_true rfl⟩ ⟨Nat.le_of_ble_eq_true rfl, Nat.le_of_ble_eq_true rfl⟩ (Nat.le_of_ble_eq_true rfl) dX11_review_2 (fun r2 M4 hq => ?_)
  obtain ⟨rfl, hm⟩ := hq
  have hm2 := hm.symm
  clear hm
  subst hm2
  refine v_if_ne hC dX11_review_5 (tgt := 16) (by decide) (fun _ => ?_) (fun hx => absurd hx (by decide))
  refine v_iconst (v := (-1)) hC dX11_review_16 (by decide) ?_
  refine v_iret hC dX11_review_17 ?_
  exact ⟨rfl, rfl⟩

set_option maxHeartbeats 4000000 in
set_option maxRecDepth 100000 in
theorem c_X11_reject0 {l : Launch} {G : Gd} {M : Me} {h : Nat} {x y : Int32} (hW : Wt M) (hs : FsN M h) : CQ (Qi G (fun r M2 => r = -1 ∧ M2 = M)) l G yX11_reject cX11_reject 3 ((some .int)) 3 65 0 0 [.ref h, .int x, .int y] M := by
  refine c_of ([some (.ref h), some (.int x), some (.int y)] : Lo) RX11 "reject" (by decide) rfl rfl (Nat.le_of_ble_eq_true rfl) rfl (fun p e s m below meth c hC nw => ?_)
  obtain ⟨ht, h279, h280, h282, ⟨l0, l1, l2, l3⟩, l4, l5, l6, l7, l8, l9⟩ := hs
  refine v_aload_n hC dX11_reject_0 rfl rfl ?_
  refine v_iload_n hC dX11_reject_1 rfl rfl ?_
  refine v_iload_n hC dX11_reject_2 rfl rfl ?_
  refine cVi2 hC (c_X11_noSegment0 hW ht l0) yv_X11_noSegment rfl ht mw_5_123 ⟨Nat.le_of_ble_eq_true rfl, Nat.le_of_ble_eq_true rfl⟩ ⟨Nat.le_of_ble_eq_true rfl, Nat.le_of_ble_eq_true rfl⟩ (Nat.le_of_ble_eq_true rfl) dX11_reject_3 (fun r3 M5 hq => ?_)
  obtain ⟨rfl, hm⟩ := hq
  have hm2 := hm.symm
  clear hm
  subst hm2
  refine v_if_eq hC dX11_reject_6 (tgt := 11) (by decide) (fun hx => absurd hx (by decide)) (fun _ => ?_)
  refine v_iconst (v := (-1)) hC dX11_reject_9 (by decide) ?_
  refine v_iret hC dX11_reject_10 ?_
  exact ⟨rfl, rfl⟩

set_option maxHeartbeats 4000000 in
set_option maxRecDepth 100000 in
theorem c_X11_deliver0 {l : Launch} {G : Gd} {M : Me} {h : Nat} {x : Int32} (hW : Wt M) (hs : FsN M h) : CQ (Qi G (fun r M2 => r = -1 ∧ M2 = M)) l G yX11_deliver cX11_deliver 5 ((some .int)) 2 43 0 0 [.ref h, .int x] M := by
  refine c_of ([some (.ref h), some (.int x), none, none, none] : Lo) RX11 "deliver" (by decide) rfl rfl (Nat.le_of_ble_eq_true rfl) rfl (fun p e s m below meth c hC nw => ?_)
  obtain ⟨ht, h279, h280, h282, ⟨l0, l1, l2, l3⟩, l4, l5, l6, l7, l8, l9⟩ := hs
  refine v_aload_n hC dX11_deliver_0 rfl rfl ?_
  refine v_iload_n hC dX11_deliver_1 rfl rfl ?_
  refine cVi1 hC (c_X11_noFile0 hW ht l0) yv_X11_noFile rfl ht mw_4_230 ⟨Nat.le_of_ble_eq_true rfl, Nat.le_of_ble_eq_true rfl⟩ ⟨Nat.le_of_ble_eq_true rfl, Nat.le_of_ble_eq_true rfl⟩ (Nat.le_of_ble_eq_true rfl) dX11_deliver_2 (fun r2 M4 hq => ?_)
  obtain ⟨rfl, hm⟩ := hq
  have hm2 := hm.symm
  clear hm
  subst hm2
  refine v_if_eq hC dX11_deliver_5 (tgt := 10) (by decide) (fun hx => absurd hx (by decide)) (fun _ => ?_)
  refine v_iconst (v := (-1)) hC dX11_deliver_8 (by decide) ?_
  refine v_iret hC dX11_deliver_9 ?_
  exact ⟨rfl, rfl⟩

set_option maxHeartbeats 4000000 in
set_option maxRecDepth 100000 in
theorem c_X11_settle0 {l : Launch} {G : Gd} {M : Me} {h : Nat} {x y : Int32} (hW : Wt M) (hs : FsN M h) : CQ (Qi G (fun r M2 => r = -1 ∧ M2 = M)) l G yX11_settle cX11_settle 6 ((some .int)) 2 43 0 0 [.ref h, .int x, .int y] M := by
  refine c_of ([some (.ref h), some (.int x), some (.int y), none, none, none] : Lo) RX11 "settle" (by decide) rfl rfl (Nat.le_of_ble_eq_true rfl) rfl (fun p e s m below meth c hC nw => ?_)
  obtain ⟨ht, h279, h280, h282, ⟨l0, l1, l2, l3⟩, l4, l5, l6, l7, l8, l9⟩ := hs
  refine v_aload_n hC dX11_settle_0 rfl rfl ?_
  refine v_iload_n hC dX11_settle_1 rfl rfl ?_
  refine cVi1 hC (c_X11_noDispute0 hW ht l3) yv_X11_noDispute rfl ht mw_5_185 ⟨Nat.le_of_ble_eq_true rfl, Nat.le_of_ble_eq_true rfl⟩ ⟨Nat.le_of_ble_eq_true rfl, Nat.le_of_ble_eq_true rfl⟩ (Nat.le_of_ble_eq_true rfl) dX11_settle_2 (fun r2 M4 hq => ?_)
  obtain ⟨rfl, hm⟩ := hq
  have hm2 := hm.symm
  clear hm
  subst hm2
  refine v_if_eq hC dX11_settle_5 (tgt := 10) (by decide) (fun hx => absurd hx (by decide)) (fun _ => ?_)
  refine v_iconst (v := (-1)) hC dX11_settle_8 (by decide) ?_
  refine v_iret hC dX11_settle_9 ?_
  exact ⟨rfl, rfl⟩

set_option maxHeartbeats 4000000 in
set_option maxRecDepth 100000 in
theorem c_X11_person0 {l : Launch} {G : Gd} {M : Me} {h : Nat} {x y : Int32} (hW : Wt M) (hs : FsN M h) : CQ (Qi G (fun r M2 => r = -1 ∧ M2 = M)) l G yX11_person cX11_person 4 ((some .int)) 2 43 0 0 [.ref h, .int x, .int y] M := by
  refine c_of ([some (.ref h), some (.int x), some (.int y), none] : Lo) RX11 "person" (by decide) rfl rfl (Nat.le_of_ble_eq_true rfl) rfl (fun p e s m below meth c hC nw => ?_)
  obtain ⟨ht, h279, h280, h282, ⟨l0, l1, l2, l3⟩, l4, l5, l6, l7, l8, l9⟩ := hs
  refine v_aload_n hC dX11_person_0 rfl rfl ?_
  refine v_iload_n hC dX11_person_1 rfl rfl ?_
  refine cVi1 hC (c_X11_noPerson0 hW ht l1) yv_X11_noPerson rfl ht mw_4_194 ⟨Nat.le_of_ble_eq_true rfl, Nat.le_of_ble_eq_true rfl⟩ ⟨Nat.le_of_ble_eq_true rfl, Nat.le_of_ble_eq_true rfl⟩ (Nat.le_of_ble_eq_true rfl) dX11_person_2 (fun r2 M4 hq => ?_)
  obtain ⟨rfl, hm⟩ := hq
  have hm2 := hm.symm
  clear hm
  subst hm2
  refine v_if_eq hC dX11_person_5 (tgt := 10) (by decide) (fun hx => absurd hx (by decide)) (fun _ => ?_)
  refine v_iconst (v := (-1)) hC dX11_person_8 (by decide) ?_
  refine v_iret hC dX11_person_9 ?_
  exact ⟨rfl, rfl⟩

set_option maxHeartbeats 4000000 in
set_option maxRecDepth 100000 in
theorem c_X11_file0 {l : Launch} {G : Gd} {M : Me} {h : Nat} {x y : Int32} (hW : Wt M) (hs : FsN M h) : CQ (Qi G (fun r M2 => r = -1 ∧ M2 = M)) l G yX11_file cX11_file 4 ((some .int)) 2 43 0 0 [.ref h, .int x, .int y] M := by
  refine c_of ([some (.ref h), some (.int x), some (.int y), none] : Lo) RX11 "file" (by decide) rfl rfl (Nat.le_of_ble_eq_true rfl) rfl (fun p e s m below meth c hC nw => ?_)
  obtain ⟨ht, h279, h280, h282, ⟨l0, l1, l2, l3⟩, l4, l5, l6, l7, l8, l9⟩ := hs
  refine v_aload_n hC dX11_file_0 rfl rfl ?_
  refine v_iload_n hC dX11_file_1 rfl rfl ?_
  refine cVi1 hC (c_X11_noFile0 hW ht l0) yv_X11_noFile rfl ht mw_4_230 ⟨Nat.le_of_ble_eq_true rfl, Nat.le_of_ble_eq_true rfl⟩ ⟨Nat.le_of_ble_eq_true rfl, Nat.le_of_ble_eq_true rfl⟩ (Nat.le_of_ble_eq_true rfl) dX11_file_2 (fun r2 M4 hq => ?_)
  obtain ⟨rfl, hm⟩ := hq
  have hm2 := hm.symm
  clear hm
  subst hm2
  refine v_if_eq hC dX11_file_5 (tgt := 10) (by decide) (fun hx => absurd hx (by decide)) (fun _ => ?_)
  refine v_iconst (v := (-1)) hC dX11_file_8 (by decide) ?_
  refine v_iret hC dX11_file_9 ?_
  exact ⟨rfl, rfl⟩

set_option maxHeartbeats 4000000 in
set_option maxRecDepth 100000 in
theorem c_X11_segment0 {l : Launch} {G : Gd} {M : Me} {h : Nat} {x y z : Int32} (hW : Wt M) (hs : FsN M h) : CQ (Qi G (fun r M2 => r = -1 ∧ M2 = M)) l G yX11_segment cX11_segment 5 ((some .int)) 3 65 0 0 [.ref h, .int x, .int y, .int z] M := by
  refine c_of ([some (.ref h), some (.int x), some (.int y), some (.int z), none] : Lo) RX11 "segment" (by decide) rfl rfl (Nat.le_of_ble_eq_true rfl) rfl (fun p e s m below meth c hC nw => ?_)
  obtain ⟨ht, h279, h280, h282, ⟨l0, l1, l2, l3⟩, l4, l5, l6, l7, l8, l9⟩ := hs
  refine v_aload_n hC dX11_segment_0 rfl rfl ?_
  refine v_iload_n hC dX11_segment_1 rfl rfl ?_
  refine v_iload_n hC dX11_segment_2 rfl rfl ?_
  refine cVi2 hC (c_X11_noSegment0 hW ht l0) yv_X11_noSegment rfl ht mw_5_123 ⟨Nat.le_of_ble_eq_true rfl, Nat.le_of_ble_eq_true rfl⟩ ⟨Nat.le_of_ble_eq_true rfl, Nat.le_of_ble_eq_true rfl⟩ (Nat.le_of_ble_eq_true rfl) dX11_segment_3 (fun r3 M5 hq => ?_)
  obtain ⟨rfl, hm⟩ := hq
  have hm2 := hm.symm
  clear hm
  subst hm2
  refine v_if_eq hC dX11_segment_6 (tgt := 11) (by decide) (fun hx => absurd hx (by decide)) (fun _ => ?_)
  refine v_iconst (v := (-1)) hC dX11_segment_9 (by decide) ?_
  refine v_iret hC dX11_segment_10 ?_
  exact ⟨rfl, rfl⟩

set_option maxHeartbeats 4000000 in
set_option maxRecDepth 100000 in
theorem c_X11_charAt0 {l : Launch} {G : Gd} {M : Me} {h : Nat} {x y z : Int32} (hW : Wt M) (hs : FsN M h) : CQ (Qi G (fun r M2 => r = -1 ∧ M2 = M)) l G yX11_charAt cX11_charAt 8 ((some .int)) 3 65 0 0 [.ref h, .int x, .int y, .int z] M := by
  refine c_of ([some (.ref h), some (.int x), some (.int y), some (.int z), none, none, none, none] : Lo) RX11 "charAt" (by decide) rfl rfl (Nat.le_of_ble_eq_true rfl) rfl (fun p e s m below meth c hC nw => ?_)
  obtain ⟨ht, h279, h280, h282, ⟨l0, l1, l2, l3⟩, l4, l5, l6, l7, l8, l9⟩ := hs
  refine v_aload_n hC dX11_charAt_0 rfl rfl ?_
  refine v_iload_n hC dX11_charAt_1 rfl rfl ?_
  refine v_iload_n hC dX11_charAt_2 rfl rfl ?_
  refine cVi2 hC (c_X11_noSegment0 hW ht l0) yv_X11_noSegment rfl ht mw_5_123 ⟨Nat.le_of_ble_eq_true rfl, Nat.le_of_ble_eq_true rfl⟩ ⟨Nat.le_of_ble_eq_true rfl, Nat.le_of_ble_eq_true rfl⟩ (Nat.le_of_ble_eq_true rfl) dX11_charAt_3 (fun r3 M5 hq => ?_)
  obtain ⟨rfl, hm⟩ := hq
  have hm2 := hm.symm
  clear hm
  subst hm2
  refine v_if_eq hC dX11_charAt_6 (tgt := 11) (by decide) (fun hx => absurd hx (by decide)) (fun _ => ?_)
  refine v_iconst (v := (-1)) hC dX11_charAt_9 (by decide) ?_
  refine v_iret hC dX11_charAt_10 ?_
  exact ⟨rfl, rfl⟩

set_option maxHeartbeats 4000000 in
set_option maxRecDepth 100000 in
theorem c_X11_distance0 {l : Launch} {G : Gd} {M : Me} {h : Nat} {x y z : Int32} (hW : Wt M) (hs : FsN M h) : CQ (Qi G (fun r M2 => r = -1 ∧ M2 = M)) l G yX11_distance cX11_distance 4 ((some .int)) 3 65 0 0 [.ref h, .int x, .int y, .int z] M := by
  refine c_of ([some (.ref h), some (.int x), some (.int y), some (.int z)] : Lo) RX11 "distance" (by decide) rfl rfl (Nat.le_of_ble_eq_true rfl) rfl (fun p e s m below meth c hC nw => ?_)
  obtain ⟨ht, h279, h280, h282, ⟨l0, l1, l2, l3⟩, l4, l5, l6, l7, l8, l9⟩ := hs
  refine v_aload_n hC dX11_distance_0 rfl rfl ?_
  refine v_iload_n hC dX11_distance_1 rfl rfl ?_
  refine v_iload_n hC dX11_distance_2 rfl rfl ?_
  refine cVi2 hC (c_X11_noSegment0 hW ht l0) yv_X11_noSegment rfl ht mw_5_123 ⟨Nat.le_of_ble_eq_true rfl, Nat.le_of_ble_eq_true rfl⟩ ⟨Nat.le_of_ble_eq_true rfl, Nat.le_of_ble_eq_true rfl⟩ (Nat.le_of_ble_eq_true rfl) dX11_distance_3 (fun r3 M5 hq => ?_)
  obtain ⟨rfl, hm⟩ := hq
  have hm2 := hm.symm
  clear hm
  subst hm2
  refine v_if_ne hC dX11_distance_6 (tgt := 17) (by decide) (fun _ => ?_) (fun hx => absurd hx (by decide))
  refine v_iconst (v := (-1)) hC dX11_distance_17 (by decide) ?_
  refine v_goto hC dX11_distance_18 (tgt := 36) (by decide) ?_
  refine v_iret hC dX11_distance_36 ?_
  exact ⟨rfl, rfl⟩

set_option maxHeartbeats 4000000 in
set_option maxRecDepth 100000 in
theorem c_X11_wordsIn0 {l : Launch} {G : Gd} {M : Me} {h : Nat} {x y : Int32} (hW : Wt M) (hs : FsN M h) : CQ (Qi G (fun r M2 => r = -1 ∧ M2 = M)) l G yX11_wordsIn cX11_wordsIn 3 ((some .int)) 2 43 0 0 [.ref h, .int x, .int y] M := by
  refine c_of ([some (.ref h), some (.int x), some (.int y)] : Lo) RX11 "wordsIn" (by decide) rfl rfl (Nat.le_of_ble_eq_true rfl) rfl (fun p e s m below meth c hC nw => ?_)
  obtain ⟨ht, h279, h280, h282, ⟨l0, l1, l2, l3⟩, l4, l5, l6, l7, l8, l9⟩ := hs
  refine v_aload_n hC dX11_wordsIn_0 rfl rfl ?_
  refine v_iload_n hC dX11_wordsIn_1 rfl rfl ?_
  refine cVi1 hC (c_X11_noFile0 hW ht l0) yv_X11_noFile rfl ht mw_4_230 ⟨Nat.le_of_ble_eq_true rfl, Nat.le_of_ble_eq_true rfl⟩ ⟨Nat.le_of_ble_eq_true rfl, Nat.le_of_ble_eq_true rfl⟩ (Nat.le_of_ble_eq_true rfl) dX11_wordsIn_2 (fun r2 M4 hq => ?_)
  obtain ⟨rfl, hm⟩ := hq
  have hm2 := hm.symm
  clear hm
  subst hm2
  refine v_if_eq hC dX11_wordsIn_5 (tgt := 10) (by decide) (fun hx => absurd hx (by decide)) (fun _ => ?_)
  refine v_iconst (v := (-1)) hC dX11_wordsIn_8 (by decide) ?_
  refine v_iret hC dX11_wordsIn_9 ?_
  exact ⟨rfl, rfl⟩

set_option maxHeartbeats 4000000 in
set_option maxRecDepth 100000 in
theorem c_X11_price0 {l : Launch} {G : Gd} {M : Me} {h : Nat} {x y : Int32} (hW : Wt M) (hs : FsN M h) : CQ (Qi G (fun r M2 => r = -1 ∧ M2 = M)) l G yX11_price cX11_price 3 ((some .int)) 2 43 0 0 [.ref h, .int x, .int y] M := by
  refine c_of ([some (.ref h), some (.int x), some (.int y)] : Lo) RX11 "price" (by decide) rfl rfl (Nat.le_of_ble_eq_true rfl) rfl (fun p e s m below meth c hC nw => ?_)
  obtain ⟨ht, h279, h280, h282, ⟨l0, l1, l2, l3⟩, l4, l5, l6, l7, l8, l9⟩ := hs
  refine v_aload_n hC dX11_price_0 rfl rfl ?_
  refine v_iload_n hC dX11_price_1 rfl rfl ?_
  refine cVi1 hC (c_X11_noFile0 hW ht l0) yv_X11_noFile rfl ht mw_4_230 ⟨Nat.le_of_ble_eq_true rfl, Nat.le_of_ble_eq_true rfl⟩ ⟨Nat.le_of_ble_eq_true rfl, Nat.le_of_ble_eq_true rfl⟩ (Nat.le_of_ble_eq_true rfl) dX11_price_2 (fun r2 M4 hq => ?_)
  obtain ⟨rfl, hm⟩ := hq
  have hm2 := hm.symm
  clear hm
  subst hm2
  refine v_if_ne hC dX11_price_5 (tgt := 16) (by decide) (fun _ => ?_) (fun hx => absurd hx (by decide))
  refine v_iconst (v := (-1)) hC dX11_price_16 (by decide) ?_
  refine v_iret hC dX11_price_17 ?_
  exact ⟨rfl, rfl⟩

set_option maxHeartbeats 4000000 in
set_option maxRecDepth 100000 in
theorem c_X11_firstReviewer0 {l : Launch} {G : Gd} {M : Me} {h : Nat} {x : Int32} (hW : Wt M) (hs : FsN M h) : CQ (Qi G (fun r M2 => r = -1 ∧ M2 = M)) l G yX11_firstReviewer cX11_firstReviewer 3 ((some .int)) 2 43 0 0 [.ref h, .int x] M := by
  refine c_of ([some (.ref h), some (.int x), none] : Lo) RX11 "firstReviewer" (by decide) rfl rfl (Nat.le_of_ble_eq_true rfl) rfl (fun p e s m below meth c hC nw => ?_)
  obtain ⟨ht, h279, h280, h282, ⟨l0, l1, l2, l3⟩, l4, l5, l6, l7, l8, l9⟩ := hs
  refine v_aload_n hC dX11_firstReviewer_0 rfl rfl ?_
  refine v_iload_n hC dX11_firstReviewer_1 rfl rfl ?_
  refine cVi1 hC (c_X11_noFile0 hW ht l0) yv_X11_noFile rfl ht mw_4_230 ⟨Nat.le_of_ble_eq_true rfl, Nat.le_of_ble_eq_true rfl⟩ ⟨Nat.le_of_ble_eq_true rfl, Nat.le_of_ble_eq_true rfl⟩ (Nat.le_of_ble_eq_true rfl) dX11_firstReviewer_2 (fun r2 M4 hq => ?_)
  obtain ⟨rfl, hm⟩ := hq
  have hm2 := hm.symm
  clear hm
  subst hm2
  refine v_if_eq hC dX11_firstReviewer_5 (tgt := 10) (by decide) (fun hx => absurd hx (by decide)) (fun _ => ?_)
  refine v_iconst (v := (-1)) hC dX11_firstReviewer_8 (by decide) ?_
  refine v_iret hC dX11_firstReviewer_9 ?_
  exact ⟨rfl, rfl⟩

set_option maxHeartbeats 4000000 in
set_option maxRecDepth 100000 in
theorem c_X11_entry0 {l : Launch} {G : Gd} {M : Me} {h : Nat} {x y : Int32} (hW : Wt M) (hs : FsN M h) : CQ (Qi G (fun r M2 => r = -1 ∧ M2 = M)) l G yX11_entry cX11_entry 4 ((some .int)) 2 43 0 0 [.ref h, .int x, .int y] M := by
  refine c_of ([some (.ref h), some (.int x), some (.int y), none] : Lo) RX11 "entry" (by decide) rfl rfl (Nat.le_of_ble_eq_true rfl) rfl (fun p e s m below meth c hC nw => ?_)
  obtain ⟨ht, h279, h280, h282, ⟨l0, l1, l2, l3⟩, l4, l5, l6, l7, l8, l9⟩ := hs
  refine v_aload_n hC dX11_entry_0 rfl rfl ?_
  refine v_iload_n hC dX11_entry_1 rfl rfl ?_
  refine cVi1 hC (c_X11_noEntry0 hW ht l2) yv_X11_noEntry rfl ht mw_5_227 ⟨Nat.le_of_ble_eq_true rfl, Nat.le_of_ble_eq_true rfl⟩ ⟨Nat.le_of_ble_eq_true rfl, Nat.le_of_ble_eq_true rfl⟩ (Nat.le_of_ble_eq_true rfl) dX11_entry_2 (fun r2 M4 hq => ?_)
  obtain ⟨rfl, hm⟩ := hq
  have hm2 := hm.symm
  clear hm
  subst hm2
  refine v_if_eq hC dX11_entry_5 (tgt := 10) (by decide) (fun hx => absurd hx (by decide)) (fun _ => ?_)
  refine v_iconst (v := (-1)) hC dX11_entry_8 (by decide) ?_
  refine v_iret hC dX11_entry_9 ?_
  exact ⟨rfl, rfl⟩

set_option maxHeartbeats 4000000 in
set_option maxRecDepth 100000 in
theorem c_X11_dispute0 {l : Launch} {G : Gd} {M : Me} {h : Nat} {x y : Int32} (hW : Wt M) (hs : FsN M h) : CQ (Qi G (fun r M2 => r = -1 ∧ M2 = M)) l G yX11_dispute cX11_dispute 3 ((some .int)) 2 43 0 0 [.ref h, .int x, .int y] M := by
  refine c_of ([some (.ref h), some (.int x), some (.int y)] : Lo) RX11 "dispute" (by decide) rfl rfl (Nat.le_of_ble_eq_true rfl) rfl (fun p e s m below meth c hC nw => ?_)
  obtain ⟨ht, h279, h280, h282, ⟨l0, l1, l2, l3⟩, l4, l5, l6, l7, l8, l9⟩ := hs
  refine v_aload_n hC dX11_dispute_0 rfl rfl ?_
  refine v_iload_n hC dX11_dispute_1 rfl rfl ?_
  refine cVi1 hC (c_X11_noDispute0 hW ht l3) yv_X11_noDispute rfl ht mw_5_185 ⟨Nat.le_of_ble_eq_true rfl, Nat.le_of_ble_eq_true rfl⟩ ⟨Nat.le_of_ble_eq_true rfl, Nat.le_of_ble_eq_true rfl⟩ (Nat.le_of_ble_eq_true rfl) dX11_dispute_2 (fun r2 M4 hq => ?_)
  obtain ⟨rfl, hm⟩ := hq
  have hm2 := hm.symm
  clear hm
  subst hm2
  refine v_if_eq hC dX11_dispute_5 (tgt := 10) (by decide) (fun hx => absurd hx (by decide)) (fun _ => ?_)
  refine v_iconst (v := (-1)) hC dX11_dispute_8 (by decide) ?_
  refine v_iret hC dX11_dispute_9 ?_
  exact ⟨rfl, rfl⟩

set_option maxHeartbeats 4000000 in
set_option maxRecDepth 100000 in
theorem c_X11_undo0 {l : Launch} {G : Gd} {M : Me} {h : Nat} (hW : Wt M) (hs : FsN M h) : CQ (Qi G (fun r M2 => r = -5 ∧ M2 = M)) l G yX11_undo cX11_undo 2 ((some .int)) 0 0 0 0 [.ref h] M := by
  refine c_of ([some (.ref h), none] : Lo) RX11 "undo" (by decide) rfl rfl (Nat.le_of_ble_eq_true rfl) rfl (fun p e s m below meth c hC nw => ?_)
  obtain ⟨ht, h279, h280, h282, ⟨l0, l1, l2, l3⟩, l4, l5, l6, l7, l8, l9⟩ := hs
  refine v_aload_n hC dX11_undo_0 rfl rfl ?_
  refine gf_11_3 hC ht mw_4_123 dX11_undo_1 ?_
  rw [h279]
  refine v_if_ne hC dX11_undo_4 (tgt := 10) (by decide) (fun hx => absurd hx (by decide)) (fun _ => ?_)
  refine v_bipush (v := (-5)) hC dX11_undo_7 (by decide) ?_
  refine v_iret hC dX11_undo_9 ?_
  exact ⟨rfl, rfl⟩

set_option maxHeartbeats 4000000 in
set_option maxRecDepth 100000 in
theorem c_X11_restore0 {l : Launch} {G : Gd} {M : Me} {h : Nat} (hW : Wt M) (hs : FsN M h) : CQ (Qi G (fun r M2 => r = -5 ∧ M2 = M)) l G yX11_restore cX11_restore 2 ((some .int)) 0 0 0 0 [.ref h] M := by
  refine c_of ([some (.ref h), none] : Lo) RX11 "restore" (by decide) rfl rfl (Nat.le_of_ble_eq_true rfl) rfl (fun p e s m below meth c hC nw => ?_)
  obtain ⟨ht, h279, h280, h282, ⟨l0, l1, l2, l3⟩, l4, l5, l6, l7, l8, l9⟩ := hs
  refine v_aload_n hC dX11_restore_0 rfl rfl ?_
  refine gf_11_4 hC ht mw_4_124 dX11_restore_1 ?_
  rw [h280]
  refine v_if_ne hC dX11_restore_4 (tgt := 10) (by decide) (fun hx => absurd hx (by decide)) (fun _ => ?_)
  refine v_bipush (v := (-5)) hC dX11_restore_7 (by decide) ?_
  refine v_iret hC dX11_restore_9 ?_
  exact ⟨rfl, rfl⟩

set_option maxHeartbeats 4000000 in
set_option maxRecDepth 100000 in
theorem c_X11_clearText0 {l : Launch} {G : Gd} {M : Me} {h : Nat} (hW : Wt M) (hs : FsN M h) : CQ (Qi G (fun r M2 => r = 0 ∧ True)) l G yX11_clearText cX11_clearText 2 ((some .int)) 0 0 0 0 [.ref h] M := by
  refine c_of ([some (.ref h), none] : Lo) RX11 "clearText" (by decide) rfl rfl (Nat.le_of_ble_eq_true rfl) rfl (fun p e s m below meth c hC nw => ?_)
  obtain ⟨ht, h279, h280, h282, ⟨l0, l1, l2, l3⟩, l4, l5, l6, l7, l8, l9⟩ := hs
  refine v_aload_n hC dX11_clearText_0 rfl rfl ?_
  refine gf_11_6 hC ht mw_4_126 dX11_clearText_1 ?_
  rw [h282]
  refine v_ist1 hC dX11_clearText_4 (by decide) (kk := ?_)
  refine v_aload_n hC dX11_clearText_5 rfl rfl ?_
  refine v_iconst (v := 0) hC dX11_clearText_6 (by decide) ?_
  refine pf_11_6 hC ht mw_4_126 dX11_clearText_7 ?_
  refine v_iload_n hC dX11_clearText_10 rfl rfl ?_
  refine v_iret hC dX11_clearText_11 ?_
  exact ⟨rfl, trivial⟩

set_option maxHeartbeats 4000000 in
set_option maxRecDepth 100000 in
theorem c_X11_type0 {l : Launch} {G : Gd} {M : Me} {h : Nat} {x : Int32} (hW : Wt M) (hs : FsN M h) (hx : narrow .char (.int x) = .int x) : CQ (Qi G (fun r M2 => r = 1 ∧ True)) l G yX11_type cX11_type 2 ((some .int)) 0 0 0 0 [.ref h, .int x] M := by
  refine c_of ([some (.ref h), some (.int x)] : Lo) RX11 "type" (by decide) rfl rfl (Nat.le_of_ble_eq_true rfl) rfl (fun p e s m below meth c hC nw => ?_)
  obtain ⟨ht, h279, h280, h282, ⟨l0, l1, l2, l3⟩, l4, l5, l6, l7, l8, l9⟩ := hs
  refine v_aload_n hC dX11_type_0 rfl rfl ?_
  refine gf_11_6 hC ht mw_4_126 dX11_type_1 ?_
  rw [h282]
  refine v_bipush (v := 60) hC dX11_type_4 (by decide) ?_
  refine v_icmp_ne hC dX11_type_6 (tgt := 12) (by decide) (fun _ => ?_) (fun hx => absurd hx (by decide))
  refine v_aload_n hC dX11_type_12 rfl rfl ?_
  refine gf_11_5 hC ht (wf_281 hW ht) mw_4_125 dX11_type_13 ?_
  refine v_aload_n hC dX11_type_16 rfl rfl ?_
  refine gf_11_6 hC ht mw_4_126 dX11_type_17 ?_
  rw [h282]
  refine v_iload_n hC dX11_type_20 rfl rfl ?_
  refine v_cast 42 hC (wf_281 hW ht) (by decide) (by decide) (ix_q (j := 0) (wz_42 hW (wf_281 hW ht)) (by decide)) hx dX11_type_21 ?_
  refine v_aload_n hC dX11_type_22 rfl rfl ?_
  refine v_dup hC dX11_type_23 rfl ?_
  refine gf_11_6 hC ht mw_4_126 dX11_type_24 ?_
  rw [i_sk (by decide), h282]
  refine v_iconst (v := 1) hC dX11_type_27 (by decide) ?_
  refine v_iadd hC dX11_type_28 ?_
  refine pf_11_6 hC ht mw_4_126 dX11_type_29 ?_
  refine v_aload_n hC dX11_type_32 rfl rfl ?_
  refine gf_11_6 hC ht mw_4_126 dX11_type_33 ?_
  rw [i_se]
  refine v_iret hC dX11_type_36 ?_
  exact ⟨by decide, trivial⟩

set_option maxHeartbeats 4000000 in
set_option maxRecDepth 100000 in
theorem c_X11_fileAt0 {l : Launch} {G : Gd} {M : Me} {h : Nat} {x : Int32} (hW : Wt M) (hs : FsN M h) : CQ (Qi G (fun r M2 => r = (if x < 0 then -2 else -5) ∧ M2 = M)) l G yX11_fileAt cX11_fileAt 2 ((some .int)) 0 0 0 0 [.ref h, .int x] M := by
  refine c_of ([some (.ref h), some (.int x)] : Lo) RX11 "fileAt" (by decide) rfl rfl (Nat.le_of_ble_eq_true rfl) rfl (fun p e s m below meth c hC nw => ?_)
  obtain ⟨ht, h279, h280, h282, ⟨l0, l1, l2, l3⟩, l4, l5, l6, l7, l8, l9⟩ := hs
  refine v_iload_n hC dX11_fileAt_0 rfl rfl ?_
  refine v_if_ge hC dX11_fileAt_1 (tgt := 7) (by decide) (fun h1 => ?_) (fun h1 => ?_)
  · refine v_iload_n hC dX11_fileAt_7 rfl rfl ?_
    refine v_i2l hC dX11_fileAt_8 ?_
    refine v_aload_n hC dX11_fileAt_9 rfl rfl ?_
    refine gf_11_0 hC ht (wf_276 hW ht) mw_4_120 dX11_fileAt_10 ?_
    refine v_iconst (v := 0) hC dX11_fileAt_13 (by decide) ?_
    refine v_lald 31 hC (wf_276 hW ht) (by decide) (by decide) (ix_q (j := 0) (wz_31 hW (wf_276 hW ht)) (by decide)) dX11_fileAt_14 ?_
    rw [l0]
    refine v_lcmp hC dX11_fileAt_15 ?_
    refine v_if_ge hC dX11_fileAt_16 (tgt := 27) (by decide) (fun h16 => ?_) (fun h16 => absurd ((lg_cmp_ge _ _).mpr (by rw [Int64.le_iff_toInt_le]; rw [Int32.le_iff_toInt_le] at h1; simpa using h1)) h16)
    refine v_bipush (v := (-5)) hC dX11_fileAt_27 (by decide) ?_
    refine v_iret hC dX11_fileAt_29 ?_
    exact ⟨by rw [if_neg (fun q => i_ab q h1)], rfl⟩
  · refine v_bipush (v := (-2)) hC dX11_fileAt_4 (by decide) ?_
    refine v_iret hC dX11_fileAt_6 ?_
    exact ⟨by rw [if_pos (i_nle h1)], rfl⟩

set_option maxHeartbeats 4000000 in
set_option maxRecDepth 100000 in
theorem c_X11_allWords0 {l : Launch} {G : Gd} {M : Me} {h : Nat} {x : Int32} (hW : Wt M) (hs : FsN M h) : CQ (Qi G (fun r M2 => r = (if 0 ≤ x ∧ x < 6 then 0 else -2) ∧ M2 = M)) l G yX11_allWords cX11_allWords 4 ((some .int)) 1 22 0 0 [.ref h, .int x] M := by
  refine c_of ([some (.ref h), some (.int x), none, none] : Lo) RX11 "allWords" (by decide) rfl rfl (Nat.le_of_ble_eq_true rfl) rfl (fun p e s m below meth c hC nw => ?_)
  obtain ⟨ht, h279, h280, h282, ⟨l0, l1, l2, l3⟩, l4, l5, l6, l7, l8, l9⟩ := hs
  refine v_iload_n hC dX11_allWords_0 rfl rfl ?_
  refine v_iconst (v := 0) hC dX11_allWords_1 (by decide) ?_
  refine v_iconst (v := 5) hC dX11_allWords_2 (by decide) ?_
  refine cSi3 hC (c_X11_in ) ys_X11_in mw_4_181 ⟨Nat.le_of_ble_eq_true rfl, Nat.le_of_ble_eq_true rfl⟩ ⟨Nat.le_of_ble_eq_true rfl, Nat.le_of_ble_eq_true rfl⟩ (Nat.le_of_ble_eq_true rfl) dX11_allWords_3 (fun r3 M5 hq => ?_)
  obtain ⟨hm, hq2⟩ := hq
  have hm2 := hm.symm
  clear hm
  subst hm2
  obtain ⟨g3, rfl⟩ | ⟨g3, rfl⟩ := hq2
  · refine v_if_ne hC dX11_allWords_6 (tgt := 12) (by decide) (fun _ => ?_) (fun hx => absurd hx (by decide))
    refine v_iconst (v := 0) hC dX11_allWords_12 (by decide) ?_
    refine v_ist2 hC dX11_allWords_13 (by decide) (kk := ?_)
    refine v_iconst (v := 0) hC dX11_allWords_14 (by decide) ?_
    refine v_ist3 hC dX11_allWords_15 (by decide) (kk := ?_)
    refine v_iload_n hC dX11_allWords_16 rfl rfl ?_
    refine v_i2l hC dX11_allWords_17 ?_
    refine v_aload_n hC dX11_allWords_18 rfl rfl ?_
    refine gf_11_0 hC ht (wf_276 hW ht) mw_4_120 dX11_allWords_19 ?_
    refine v_iconst (v := 0) hC dX11_allWords_22 (by decide) ?_
    refine v_lald 31 hC (wf_276 hW ht) (by decide) (by decide) (ix_q (j := 0) (wz_31 hW (wf_276 hW ht)) (by decide)) dX11_allWords_23 ?_
    rw [l0]
    refine v_lcmp hC dX11_allWords_24 ?_
    refine v_if_ge hC dX11_allWords_25 (tgt := 55) (by decide) (fun _ => ?_) (fun hx => absurd hx (by decide))
    refine v_iload_n hC dX11_allWords_55 rfl rfl ?_
    refine v_iret hC dX11_allWords_56 ?_
    exact ⟨by rw [if_pos ⟨g3.1, i_lt6 g3.2⟩], rfl⟩
  · refine v_if_ne hC dX11_allWords_6 (tgt := 12) (by decide) (fun hx => absurd hx (by decide)) (fun _ => ?_)
    refine v_bipush (v := (-2)) hC dX11_allWords_9 (by decide) ?_
    refine v_iret hC dX11_allWords_11 ?_
    exact ⟨by rw [if_neg (fun q => g3 ⟨q.1, i_le5 q.2⟩)], rfl⟩

set_option maxHeartbeats 4000000 in
set_option maxRecDepth 100000 in
theorem c_X11_isLetter0 {l : Launch} {G : Gd} {M : Me} {h : Nat} (ht : m_t M h = 12) (h285 : m_i M 285 h 0 = 0) (h282 : m_i M 282 h 0 = 0) : CQ (Qi G (fun r M2 => r = 0 ∧ M2 = M)) l G yX11_isLetter cX11_isLetter 1 ((some .boolean)) 0 0 0 0 [.ref h] M := by
  refine c_of ([some (.ref h)] : Lo) RX11 "isLetter" (by decide) rfl rfl (Nat.le_of_ble_eq_true rfl) rfl (fun p e s m below meth c hC nw => ?_)
  refine v_aload_n hC dX11_isLetter_0 rfl rfl ?_
  refine gf_11_9 hC ht mw_4_129 dX11_isLetter_1 ?_
  rw [h285]
  refine v_aload_n hC dX11_isLetter_4 rfl rfl ?_
  refine gf_11_6 hC ht mw_4_126 dX11_isLetter_5 ?_
  rw [h282]
  refine v_icmp_ge hC dX11_isLetter_8 (tgt := 43) (by decide) (fun _ => ?_) (fun hx => absurd hx (by decide))
  refine v_iconst (v := 0) hC dX11_isLetter_43 (by decide) ?_
  refine v_zret hC (Or.inl rfl) dX11_isLetter_44 ?_
  exact ⟨rfl, rfl⟩

set_option maxHeartbeats 4000000 in
set_option maxRecDepth 100000 in
theorem c_X11_readsWord0 {l : Launch} {G : Gd} {M : Me} {h : Nat} (ht : m_t M h = 12) (h285 : m_i M 285 h 0 = 0) (h282 : m_i M 282 h 0 = 0) : CQ (Ql G (fun r M2 => r = 0 ∧ M2 = M)) l G yX11_readsWord cX11_readsWord 4 ((some .long)) 1 20 0 0 [.ref h] M := by
  refine c_of ([some (.ref h), none, none, none] : Lo) RX11 "readsWord" (by decide) rfl rfl (Nat.le_of_ble_eq_true rfl) rfl (fun p e s m below meth c hC nw => ?_)
  refine v_lconst (v := 0) hC dX11_readsWord_0 (by decide) ?_
  refine v_lst1 hC dX11_readsWord_1 (by decide) (kk := ?_)
  refine v_iconst (v := 0) hC dX11_readsWord_2 (by decide) ?_
  refine v_ist3 hC dX11_readsWord_3 (by decide) (kk := ?_)
  refine v_iload_n hC dX11_readsWord_4 rfl rfl ?_
  refine v_bipush (v := 8) hC dX11_readsWord_5 (by decide) ?_
  refine v_icmp_ge hC dX11_readsWord_7 (tgt := 55) (by decide) (fun hx => absurd hx (by decide)) (fun _ => ?_)
  refine v_aload_n hC dX11_readsWord_10 rfl rfl ?_
  refine cVi0 hC (c_X11_isLetter0 ht h285 h282) yv_X11_isLetter rfl ht mw_5_6 ⟨Nat.le_of_ble_eq_true rfl, Nat.le_of_ble_eq_true rfl⟩ ⟨Nat.le_of_ble_eq_true rfl, Nat.le_of_ble_eq_true rfl⟩ (Nat.le_of_ble_eq_true rfl) dX11_readsWord_11 (fun r11 M13 hq => ?_)
  obtain ⟨rfl, hm⟩ := hq
  have hm2 := hm.symm
  clear hm
  subst hm2
  refine v_if_eq hC dX11_readsWord_14 (tgt := 55) (by decide) (fun _ => ?_) (fun hx => absurd hx (by decide))
  refine v_lload_n hC dX11_readsWord_55 rfl rfl ?_
  refine v_lret hC dX11_readsWord_56 ?_
  exact ⟨rfl, rfl⟩

set_option maxHeartbeats 4000000 in
set_option maxRecDepth 100000 in
theorem c_X11_readsSegment0 {l : Launch} {G : Gd} {M : Me} {h : Nat} (ht : m_t M h = 12) (h285 : m_i M 285 h 0 = 0) (h282 : m_i M 282 h 0 = 0) : CQ (Qi G (fun r M2 => r = 0 ∧ M2 = M)) l G yX11_readsSegment cX11_readsSegment 6 ((some .boolean)) 2 43 0 0 [.ref h] M := by
  refine c_of ([some (.ref h), none, none, none, none, none] : Lo) RX11 "readsSegment" (by decide) rfl rfl (Nat.le_of_ble_eq_true rfl) rfl (fun p e s m below meth c hC nw => ?_)
  refine v_bipush (v := 11) hC dX11_readsSegment_0 (by decide) ?_
  refine v_aload_n hC dX11_readsSegment_2 rfl rfl ?_
  refine gf_11_8 hC ht mw_4_128 dX11_readsSegment_3 ?_
  refine v_imul hC dX11_readsSegment_6 ?_
  refine v_ist1 hC dX11_readsSegment_7 (by decide) (kk := ?_)
  refine v_iconst (v := 0) hC dX11_readsSegment_8 (by decide) ?_
  refine v_ist2 hC dX11_readsSegment_9 (by decide) (kk := ?_)
  refine v_iconst (v := 1) hC dX11_readsSegment_10 (by decide) ?_
  refine v_ist3 hC dX11_readsSegment_11 (by decide) (kk := ?_)
  refine v_iload_n hC dX11_readsSegment_12 rfl rfl ?_
  refine v_if_eq hC dX11_readsSegment_13 (tgt := 104) (by decide) (fun hx => absurd hx (by decide)) (fun _ => ?_)
  refine v_aload_n hC dX11_readsSegment_16 rfl rfl ?_
  refine cVl0 hC (c_X11_readsWord0 ht h285 h282) yv_X11_readsWord rfl ht mw_5_2 ⟨Nat.le_of_ble_eq_true rfl, Nat.le_of_ble_eq_true rfl⟩ ⟨Nat.le_of_ble_eq_true rfl, Nat.le_of_ble_eq_true rfl⟩ (Nat.le_of_ble_eq_true rfl) dX11_readsSegment_17 (fun r17 M19 hq => ?_)
  obtain ⟨rfl, hm⟩ := hq
  have hm2 := hm.symm
  clear hm
  subst hm2
  refine v_lst4 hC dX11_readsSegment_20 (by decide) (kk := ?_)
  refine v_lload hC dX11_readsSegment_22 rfl ?_
  refine v_lconst (v := 0) hC dX11_readsSegment_24 (by decide) ?_
  refine v_lcmp hC dX11_readsSegment_25 ?_
  refine v_if_ne hC dX11_readsSegment_26 (tgt := 31) (by decide) (fun hx => absurd hx (by decide)) (fun _ => ?_)
  refine v_iconst (v := 0) hC dX11_readsSegment_29 (by decide) ?_
  refine v_zret hC (Or.inl rfl) dX11_readsSegment_30 ?_
  exact ⟨rfl, rfl⟩

set_option maxHeartbeats 4000000 in
set_option maxRecDepth 100000 in
theorem c_X11_readsText0 {l : Launch} {G : Gd} {M : Me} {h : Nat} (ht : m_t M h = 12) (h282 : m_i M 282 h 0 = 0) : CQ (Qi G (fun r M2 => r = 0 ∧ True)) l G yX11_readsText cX11_readsText 2 ((some .int)) 3 68 0 0 [.ref h] M := by
  refine c_of ([some (.ref h), none] : Lo) RX11 "readsText" (by decide) rfl rfl (Nat.le_of_ble_eq_true rfl) rfl (fun p e s m below meth c hC nw => ?_)
  refine v_aload_n hC dX11_readsText_0 rfl rfl ?_
  refine v_iconst (v := 0) hC dX11_readsText_1 (by decide) ?_
  refine pf_11_9 hC ht mw_4_129 dX11_readsText_2 ?_
  refine v_aload_n hC dX11_readsText_5 rfl rfl ?_
  refine v_iconst (v := 0) hC dX11_readsText_6 (by decide) ?_
  refine pf_11_8 hC ht mw_4_128 dX11_readsText_7 ?_
  have h285b : m_i (s_i (s_i M 285 h 0 0) 284 h 0 0) 285 h 0 = 0 := by rw [i_sk (by decide), i_se]
  have h282b : m_i (s_i (s_i M 285 h 0 0) 284 h 0 0) 282 h 0 = 0 := by rw [i_sk (by decide), i_sk (by decide), h282]
  refine v_iconst (v := 1) hC dX11_readsText_10 (by decide) ?_
  refine v_ist1 hC dX11_readsText_11 (by decide) (kk := ?_)
  refine v_iload_n hC dX11_readsText_12 rfl rfl ?_
  refine v_if_eq hC dX11_readsText_13 (tgt := 80) (by decide) (fun hx => absurd hx (by decide)) (fun _ => ?_)
  refine v_aload_n hC dX11_readsText_16 rfl rfl ?_
  refine cVi0 hC (c_X11_readsSegment0 ht h285b h282b) yv_X11_readsSegment rfl ht mw_4_238 ⟨Nat.le_of_ble_eq_true rfl, Nat.le_of_ble_eq_true rfl⟩ ⟨Nat.le_of_ble_eq_true rfl, Nat.le_of_ble_eq_true rfl⟩ (Nat.le_of_ble_eq_true rfl) dX11_readsText_17 (fun r17 M19 hq => ?_)
  obtain ⟨rfl, hm⟩ := hq
  have hm2 := hm.symm
  clear hm
  subst hm2
  refine v_if_ne hC dX11_readsText_20 (tgt := 28) (by decide) (fun hx => absurd hx (by decide)) (fun _ => ?_)
  refine v_aload_n hC dX11_readsText_23 rfl rfl ?_
  refine gf_11_9 hC ht mw_4_129 dX11_readsText_24 ?_
  rw [h285b]
  refine v_iret hC dX11_readsText_27 ?_
  exact ⟨rfl, trivial⟩

set_option maxHeartbeats 4000000 in
set_option maxRecDepth 100000 in
theorem c_X11_remember0 {l : Launch} {G : Gd} {M : Me} {h : Nat} {x : Int32} (hW : Wt M) (hs : FsN M h) : CQ (Qi G (fun r M2 => r = -100 ∧ True)) l G yX11_remember cX11_remember 4 ((some .int)) 4 89 0 0 [.ref h, .int x] M := by
  refine c_of ([some (.ref h), some (.int x), none, none] : Lo) RX11 "remember" (by decide) rfl rfl (Nat.le_of_ble_eq_true rfl) rfl (fun p e s m below meth c hC nw => ?_)
  obtain ⟨ht, h279, h280, h282, ⟨l0, l1, l2, l3⟩, l4, l5, l6, l7, l8, l9⟩ := hs
  refine v_aload_n hC dX11_remember_0 rfl rfl ?_
  refine cVi0 hC (c_X11_readsText0 ht h282) yv_X11_readsText rfl ht mw_4_234 ⟨Nat.le_of_ble_eq_true rfl, Nat.le_of_ble_eq_true rfl⟩ ⟨Nat.le_of_ble_eq_true rfl, Nat.le_of_ble_eq_true rfl⟩ (Nat.le_of_ble_eq_true rfl) dX11_remember_1 (fun r1 M3 hq => ?_)
  obtain ⟨rfl, -⟩ := hq
  refine v_ist2 hC dX11_remember_4 (by decide) (kk := ?_)
  refine v_iload_n hC dX11_remember_5 rfl rfl ?_
  refine v_if_lt hC dX11_remember_6 (tgt := 14) (by decide) (fun hx => absurd hx (by decide)) (fun _ => ?_)
  refine v_bipush (v := (-100)) hC dX11_remember_9 (by decide) ?_
  refine v_iload_n hC dX11_remember_11 rfl rfl ?_
  refine v_isub hC dX11_remember_12 ?_
  refine v_iret hC dX11_remember_13 ?_
  exact ⟨by decide, trivial⟩

set_option maxHeartbeats 4000000 in
set_option maxRecDepth 100000 in
theorem c_X11_record0 {l : Launch} {G : Gd} {M : Me} {h : Nat} (hW : Wt M) (ht : m_t M h = 12) (h279 : m_i M 279 h 0 = 0) : CQ (Qv G (fun M2 => Fx M M2 ∧ (∀ k a j, k ≠ 32 → m_l M2 k a j = m_l M k a j) ∧ ∀ k a j, k ≠ 279 → m_i M2 k a j = m_i M k a j)) l G yX11_record cX11_record 2 (none) 0 0 0 0 [.ref h] M := by
  refine c_of ([some (.ref h), none] : Lo) RX11 "record" (by decide) rfl rfl (Nat.le_of_ble_eq_true rfl) rfl (fun p e s m below meth c hC nw => ?_)
  have loop : ∀ (k i : Nat) (M1 : Me), i + k = 1663 → i ≤ 1662 → (Fx M M1 ∧ (∀ k a j, k ≠ 32 → m_l M1 k a j = m_l M k a j) ∧ ∀ k a j, m_i M1 k a j = m_i M k a j) → V p l e (rmk 0 0 0 0) s m ([.ref h] : List Value).toArray below meth c 2 G (MQ below (Qv G (fun M2 => Fx M M2 ∧ (∀ k a j, k ≠ 32 → m_l M2 k a j = m_l M k a j) ∧ ∀ k a j, k ≠ 279 → m_i M2 k a j = m_i M k a j)) ([.ref h] : List Value).toArray s 0 0 (fr_ G)) M1 0 0 51 ([some (.ref h), some (.int (nI i))] : Lo) [] := by
    intro k
    induction k with
    | zero => intro i M1 h1 h2; omega
    | succ k ih =>
      intro i M1 h1 h2 hI
      have hW1 : Wt M1 := hW.fx hI.1
      have hl : m_t M1 h = 12 := (hI.1.2.1 h).trans ht
      have h279b : m_i M1 279 h 0 = 0 := (hI.2.2 _ _ _).trans h279
      refine v_iload_n hC dX11_record_51 rfl rfl ?_
      refine v_sipush (v := 1662) hC dX11_record_52 (by decide) ?_
      refine v_icmp_ge hC dX11_record_55 (tgt := 85) (by decide) (fun h55 => ?_) (fun h55 => ?_)
      · refine v_aload_n hC dX11_record_85 rfl rfl ?_
        refine v_dup hC dX11_record_86 rfl ?_
        refine gf_11_3 hC hl mw_4_123 dX11_record_87 ?_
        rw [h279b]
        refine v_iconst (v := 1) hC dX11_record_90 (by decide) ?_
        refine v_iadd hC dX11_record_91 ?_
        refine pf_11_3 hC hl mw_4_123 dX11_record_92 ?_
        refine v_vret hC dX11_record_95 ?_
        exact ⟨hI.1.si, fun k a j e => hI.2.1 k a j e, fun k a j e => by rw [i_sk e]; exact hI.2.2 k a j⟩
      · have hi := lp_lt (N := 1662) h55
        refine v_aload_n hC dX11_record_58 rfl rfl ?_
        refine gf_11_1 hC hl (wf_277 hW1 hl) mw_4_121 dX11_record_59 ?_
        refine v_sipush (v := 1662) hC dX11_record_62 (by decide) ?_
        refine v_aload_n hC dX11_record_65 rfl rfl ?_
        refine gf_11_3 hC hl mw_4_123 dX11_record_66 ?_
        rw [h279b]
        refine v_imul hC dX11_record_69 ?_
        refine v_iload_n hC dX11_record_70 rfl rfl ?_
        refine v_iadd hC dX11_record_71 ?_
        rw [show (1662 : Int32) * 0 + nI i = nI i from by rw [show (1662 : Int32) * 0 = 0 from rfl, Int32.zero_add]]
        refine v_aload_n hC dX11_record_72 rfl rfl ?_
        refine gf_11_0 hC hl (wf_276 hW1 hl) mw_4_120 dX11_record_73 ?_
        refine v_iload_n hC dX11_record_76 rfl rfl ?_
        refine v_lald 31 hC (wf_276 hW1 hl) (by decide) (by decide) (ix_c (wz_31 hW1 (wf_276 hW1 hl)) hi) dX11_record_77 ?_
        refine v_last 32 hC (wf_277 hW1 hl) (by decide) (by decide) (ix_c (wz_32 hW1 (wf_277 hW1 hl)) (by omega)) dX11_record_78 ?_
        refine v_inc1 hC dX11_record_79 ((nI_succ i).symm) (by decide) (kk := ?_)
        refine v_goto hC dX11_record_82 (tgt := 51) (by decide) ?_
        exact ih (i + 1) _ (by omega) (by omega) ⟨hI.1.sl, fun k a j e => by rw [l_sk e]; exact hI.2.1 k a j e, fun k a j => hI.2.2 k a j⟩
  refine v_aload_n hC dX11_record_0 rfl rfl ?_
  refine gf_11_3 hC ht mw_4_123 dX11_record_1 ?_
  rw [h279]
  refine v_iconst (v := 4) hC dX11_record_4 (by decide) ?_
  refine v_icmp_ne hC dX11_record_5 (tgt := 49) (by decide) (fun _ => ?_) (fun hx => absurd hx (by decide))
  refine v_iconst (v := 0) hC dX11_record_49 (by decide) ?_
  refine v_ist1 hC dX11_record_50 (by decide) (kk := ?_)
  exact loop 1663 0 M (by omega) (by omega) ⟨Fx.rf, fun _ _ _ _ => rfl, fun _ _ _ => rfl⟩

set_option maxHeartbeats 4000000 in
set_option maxRecDepth 100000 in
theorem c_X11_keep0 {l : Launch} {G : Gd} {M : Me} {h : Nat} (hW : Wt M) (hs : FsN M h) : CQ (Qi G (fun r M2 => r = 0 ∧ True)) l G yX11_keep cX11_keep 2 ((some .int)) 1 21 0 0 [.ref h] M := by
  refine c_of ([some (.ref h), none] : Lo) RX11 "keep" (by decide) rfl rfl (Nat.le_of_ble_eq_true rfl) rfl (fun p e s m below meth c hC nw => ?_)
  obtain ⟨ht, h279, h280, h282, ⟨l0, l1, l2, l3⟩, l4, l5, l6, l7, l8, l9⟩ := hs
  have loop : ∀ (k i : Nat) (M1 : Me), i + k = 1663 → i ≤ 1662 → (Fx M M1 ∧ (∀ k a j, k ≠ 33 → m_l M1 k a j = m_l M k a j)) → V p l e (rmk 1 21 0 0) s m ([.ref h] : List Value).toArray below meth c 2 G (MQ below (Qi G (fun r M2 => r = 0 ∧ True)) ([.ref h] : List Value).toArray s 0 0 (fr_ G)) M1 0 0 2 ([some (.ref h), some (.int (nI i))] : Lo) [] := by
    intro k
    induction k with
    | zero => intro i M1 h1 h2; omega
    | succ k ih =>
      intro i M1 h1 h2 hI
      have hW1 : Wt M1 := hW.fx hI.1
      have hl : m_t M1 h = 12 := (hI.1.2.1 h).trans ht
      refine v_iload_n hC dX11_keep_2 rfl rfl ?_
      refine v_sipush (v := 1662) hC dX11_keep_3 (by decide) ?_
      refine v_icmp_ge hC dX11_keep_6 (tgt := 27) (by decide) (fun h6 => ?_) (fun h6 => ?_)
      · refine v_aload_n hC dX11_keep_27 rfl rfl ?_
        refine v_iconst (v := 1) hC dX11_keep_28 (by decide) ?_
        refine pf_11_4 hC hl (Or.inr rfl) mw_4_124 dX11_keep_29 ?_
        refine v_aload_n hC dX11_keep_32 rfl rfl ?_
        refine v_iconst (v := 0) hC dX11_keep_33 (by decide) ?_
        refine cVi1 hC (c_X11_number (v := 0) hW1 hl (j := 0) (ix_e (by decide) (by decide) (by decide)) (by show (m_l M1 31 (m_r M1 276 h 0) 0).toInt32 = 0; rw [hI.2 31 _ _ (by decide), hI.1.2.2.2, l0]; rfl)) yv_X11_number rfl hl mw_4_165 ⟨Nat.le_of_ble_eq_true rfl, Nat.le_of_ble_eq_true rfl⟩ ⟨Nat.le_of_ble_eq_true rfl, Nat.le_of_ble_eq_true rfl⟩ (Nat.le_of_ble_eq_true rfl) dX11_keep_34 (fun r34 M36 hq => ?_)
        obtain ⟨rfl, hm⟩ := hq
        have hm2 := hm.symm
        clear hm
        subst hm2
        refine v_iret hC dX11_keep_37 ?_
        exact ⟨rfl, trivial⟩
      · have hi := lp_lt (N := 1662) h6
        refine v_aload_n hC dX11_keep_9 rfl rfl ?_
        refine gf_11_2 hC hl (wf_278 hW1 hl) mw_4_122 dX11_keep_10 ?_
        refine v_iload_n hC dX11_keep_13 rfl rfl ?_
        refine v_aload_n hC dX11_keep_14 rfl rfl ?_
        refine gf_11_0 hC hl (wf_276 hW1 hl) mw_4_120 dX11_keep_15 ?_
        refine v_iload_n hC dX11_keep_18 rfl rfl ?_
        refine v_lald 31 hC (wf_276 hW1 hl) (by decide) (by decide) (ix_c (wz_31 hW1 (wf_276 hW1 hl)) hi) dX11_keep_19 ?_
        refine v_last 33 hC (wf_278 hW1 hl) (by decide) (by decide) (ix_c (wz_33 hW1 (wf_278 hW1 hl)) hi) dX11_keep_20 ?_
        refine v_inc1 hC dX11_keep_21 ((nI_succ i).symm) (by decide) (kk := ?_)
        refine v_goto hC dX11_keep_24 (tgt := 2) (by decide) ?_
        exact ih (i + 1) _ (by omega) (by omega) ⟨hI.1.sl, fun k a j e => by rw [l_sk e]; exact hI.2 k a j e⟩
  refine v_iconst (v := 0) hC dX11_keep_0 (by decide) ?_
  refine v_ist1 hC dX11_keep_1 (by decide) (kk := ?_)
  exact loop 1663 0 M (by omega) (by omega) ⟨Fx.rf, fun _ _ _ _ => rfl⟩

set_option maxHeartbeats 4000000 in
set_option maxRecDepth 100000 in
theorem c_X11_personBy {l : Launch} {G : Gd} {M : Me} {h : Nat} {x : Int32}  : CQ (Qi G (fun r M2 => r = 74 + 7 * x ∧ M2 = M)) l G yX11_personBy cX11_personBy 2 ((some .int)) 0 0 0 0 [.ref h, .int x] M := by
  refine c_of ([some (.ref h), some (.int x)] : Lo) RX11 "personBy" (by decide) rfl rfl (Nat.le_of_ble_eq_true rfl) rfl (fun p e s m below meth c hC nw => ?_)
  refine v_bipush (v := 74) hC dX11_personBy_0 (by decide) ?_
  refine v_bipush (v := 7) hC dX11_personBy_2 (by decide) ?_
  refine v_iload_n hC dX11_personBy_4 rfl rfl ?_
  refine v_imul hC dX11_personBy_5 ?_
  refine v_iadd hC dX11_personBy_6 ?_
  refine v_iret hC dX11_personBy_7 ?_
  exact ⟨rfl, rfl⟩

set_option maxHeartbeats 4000000 in
set_option maxRecDepth 100000 in
theorem c_X11_fileBy {l : Launch} {G : Gd} {M : Me} {h : Nat} {x : Int32}  : CQ (Qi G (fun r M2 => r = 18 + 7 * x ∧ M2 = M)) l G yX11_fileBy cX11_fileBy 2 ((some .int)) 0 0 0 0 [.ref h, .int x] M := by
  refine c_of ([some (.ref h), some (.int x)] : Lo) RX11 "fileBy" (by decide) rfl rfl (Nat.le_of_ble_eq_true rfl) rfl (fun p e s m below meth c hC nw => ?_)
  refine v_bipush (v := 18) hC dX11_fileBy_0 (by decide) ?_
  refine v_bipush (v := 7) hC dX11_fileBy_2 (by decide) ?_
  refine v_iload_n hC dX11_fileBy_4 rfl rfl ?_
  refine v_imul hC dX11_fileBy_5 ?_
  refine v_iadd hC dX11_fileBy_6 ?_
  refine v_iret hC dX11_fileBy_7 ?_
  exact ⟨rfl, rfl⟩

set_option maxHeartbeats 4000000 in
set_option maxRecDepth 100000 in
theorem c_X11_addPerson0 {l : Launch} {G : Gd} {M : Me} {h : Nat} {x : Int32} (hW : Wt M) (hs : FsN M h) : CQ (Qi G (fun r M2 => r = (if 1 ≤ x ∧ x ≤ 50 then 0 else -2) ∧ True)) l G yX11_addPerson cX11_addPerson 3 ((some .int)) 1 22 0 0 [.ref h, .int x] M := by
  refine c_of ([some (.ref h), some (.int x), none] : Lo) RX11 "addPerson" (by decide) rfl rfl (Nat.le_of_ble_eq_true rfl) rfl (fun p e s m below meth c hC nw => ?_)
  obtain ⟨ht, h279, h280, h282, ⟨l0, l1, l2, l3⟩, l4, l5, l6, l7, l8, l9⟩ := hs
  refine v_iload_n hC dX11_addPerson_0 rfl rfl ?_
  refine v_iconst (v := 1) hC dX11_addPerson_1 (by decide) ?_
  refine v_bipush (v := 50) hC dX11_addPerson_2 (by decide) ?_
  refine cSi3 hC (c_X11_in ) ys_X11_in mw_4_181 ⟨Nat.le_of_ble_eq_true rfl, Nat.le_of_ble_eq_true rfl⟩ ⟨Nat.le_of_ble_eq_true rfl, Nat.le_of_ble_eq_true rfl⟩ (Nat.le_of_ble_eq_true rfl) dX11_addPerson_4 (fun r4 M6 hq => ?_)
  obtain ⟨hm, hq2⟩ := hq
  have hm2 := hm.symm
  clear hm
  subst hm2
  obtain ⟨g4, rfl⟩ | ⟨g4, rfl⟩ := hq2
  · refine v_if_ne hC dX11_addPerson_7 (tgt := 13) (by decide) (fun _ => ?_) (fun hx => absurd hx (by decide))
    have hWx := hW
    refine v_aload_n hC dX11_addPerson_13 rfl rfl ?_
    refine gf_11_0 hC ht (wf_276 hWx ht) mw_4_120 dX11_addPerson_14 ?_
    refine v_iconst (v := 1) hC dX11_addPerson_17 (by decide) ?_
    refine v_lald 31 hC (wf_276 hWx ht) (by decide) (by decide) (ix_q (j := 1) (wz_31 hWx (wf_276 hWx ht)) (by decide)) dX11_addPerson_18 ?_
    rw [l1]
    refine v_ldc2 hC mw_4_184 dX11_addPerson_19 ?_
    refine v_lcmp hC dX11_addPerson_22 ?_
    refine v_if_ne hC dX11_addPerson_23 (tgt := 29) (by decide) (fun _ => ?_) (fun hx => absurd hx (by decide))
    refine v_aload_n hC dX11_addPerson_29 rfl rfl ?_
    refine cVv0 hC (c_X11_record0 hW ht h279) yv_X11_record rfl ht mw_4_173 ⟨Nat.le_of_ble_eq_true rfl, Nat.le_of_ble_eq_true rfl⟩ ⟨Nat.le_of_ble_eq_true rfl, Nat.le_of_ble_eq_true rfl⟩ (Nat.le_of_ble_eq_true rfl) dX11_addPerson_30 (fun M32 hq30 => ?_)
    have hW2 : Wt M32 := hW.fx hq30.1
    have ht2 : m_t M32 h = 12 := (hq30.1.2.1 h).trans ht
    have l1b : m_l M32 31 (m_r M32 276 h 0) 1 = 0 := by rw [hq30.2.1 31 _ _ (by decide), hq30.1.2.2.2]; exact l1
    have hWx := hW2
    refine v_aload_n hC dX11_addPerson_33 rfl rfl ?_
    refine v_iconst (v := 1) hC dX11_addPerson_34 (by decide) ?_
    refine cVi1 hC (c_X11_number (v := 0) hW2 ht2 (j := 1) (ix_e (by decide) (by decide) (by decide)) (by rw [l1b]; rfl)) yv_X11_number rfl ht2 mw_4_165 ⟨Nat.le_of_ble_eq_true rfl, Nat.le_of_ble_eq_true rfl⟩ ⟨Nat.le_of_ble_eq_true rfl, Nat.le_of_ble_eq_true rfl⟩ (Nat.le_of_ble_eq_true rfl) dX11_addPerson_35 (fun r35 M37 hq => ?_)
    obtain ⟨rfl, hm⟩ := hq
    have hm2 := hm.symm
    clear hm
    subst hm2
    refine v_ist2 hC dX11_addPerson_38 (by decide) (kk := ?_)
    refine v_aload_n hC dX11_addPerson_39 rfl rfl ?_
    refine gf_11_0 hC ht2 (wf_276 hWx ht2) mw_4_120 dX11_addPerson_40 ?_
    refine v_aload_n hC dX11_addPerson_43 rfl rfl ?_
    refine v_iload_n hC dX11_addPerson_44 rfl rfl ?_
    refine cVi1 hC (c_X11_personBy ) yv_X11_personBy rfl ht2 mw_4_185 ⟨Nat.le_of_ble_eq_true rfl, Nat.le_of_ble_eq_true rfl⟩ ⟨Nat.le_of_ble_eq_true rfl, Nat.le_of_ble_eq_true rfl⟩ (Nat.le_of_ble_eq_true rfl) dX11_addPerson_45 (fun r45 M47 hq => ?_)
    obtain ⟨rfl, hm⟩ := hq
    have hm2 := hm.symm
    clear hm
    subst hm2
    refine v_iconst (v := 0) hC dX11_addPerson_48 (by decide) ?_
    refine v_iadd hC dX11_addPerson_49 ?_
    refine v_iload_n hC dX11_addPerson_50 rfl rfl ?_
    refine v_i2l hC dX11_addPerson_51 ?_
    refine v_last 31 hC (wf_276 hWx ht2) (by decide) (by decide) (ix_q (j := 74) (wz_31 hWx (wf_276 hWx ht2)) (by decide)) dX11_addPerson_52 ?_
    refine v_aload_n hC dX11_addPerson_53 rfl rfl ?_
    refine gf_11_0 hC ht2 (wf_276 hWx ht2) mw_4_120 dX11_addPerson_54 ?_
    refine v_aload_n hC dX11_addPerson_57 rfl rfl ?_
    refine v_iload_n hC dX11_addPerson_58 rfl rfl ?_
    refine cVi1 hC (c_X11_personBy ) yv_X11_personBy rfl ht2 mw_4_185 ⟨Nat.le_of_ble_eq_true rfl, Nat.le_of_ble_eq_true rfl⟩ ⟨Nat.le_of_ble_eq_true rfl, Nat.le_of_ble_eq_true rfl⟩ (Nat.le_of_ble_eq_true rfl) dX11_addPerson_59 (fun r59 M61 hq => ?_)
    obtain ⟨rfl, hm⟩ := hq
    have hm2 := hm.symm
    clear hm
    subst hm2
    refine v_iconst (v := 1) hC dX11_addPerson_62 (by decide) ?_
    refine v_iadd hC dX11_addPerson_63 ?_
    refine v_lconst (v := 0) hC dX11_addPerson_64 (by decide) ?_
    refine v_last 31 hC (wf_276 hWx ht2) (by decide) (by decide) (ix_q (j := 75) (wz_31 hWx (wf_276 hWx ht2)) (by decide)) dX11_addPerson_65 ?_
    refine v_aload_n hC dX11_addPerson_66 rfl rfl ?_
    refine gf_11_0 hC ht2 (wf_276 hWx ht2) mw_4_120 dX11_addPerson_67 ?_
    refine v_aload_n hC dX11_addPerson_70 rfl rfl ?_
    refine v_iload_n hC dX11_addPerson_71 rfl rfl ?_
    refine cVi1 hC (c_X11_personBy ) yv_X11_personBy rfl ht2 mw_4_185 ⟨Nat.le_of_ble_eq_true rfl, Nat.le_of_ble_eq_true rfl⟩ ⟨Nat.le_of_ble_eq_true rfl, Nat.le_of_ble_eq_true rfl⟩ (Nat.le_of_ble_eq_true rfl) dX11_addPerson_72 (fun r72 M74 hq => ?_)
    obtain ⟨rfl, hm⟩ := hq
    have hm2 := hm.symm
    clear hm
    subst hm2
    refine v_iconst (v := 2) hC dX11_addPerson_75 (by decide) ?_
    refine v_iadd hC dX11_addPerson_76 ?_
    refine v_ldc2 hC mw_4_189 dX11_addPerson_77 ?_
    refine v_last 31 hC (wf_276 hWx ht2) (by decide) (by decide) (ix_q (j := 76) (wz_31 hWx (wf_276 hWx ht2)) (by decide)) dX11_addPerson_80 ?_
    refine v_aload_n hC dX11_addPerson_81 rfl rfl ?_
    refine gf_11_0 hC ht2 (wf_276 hWx ht2) mw_4_120 dX11_addPerson_82 ?_
    refine v_aload_n hC dX11_addPerson_85 rfl rfl ?_
    refine v_iload_n hC dX11_addPerson_86 rfl rfl ?_
    refine cVi1 hC (c_X11_personBy ) yv_X11_personBy rfl ht2 mw_4_185 ⟨Nat.le_of_ble_eq_true rfl, Nat.le_of_ble_eq_true rfl⟩ ⟨Nat.le_of_ble_eq_true rfl, Nat.le_of_ble_eq_true rfl⟩ (Nat.le_of_ble_eq_true rfl) dX11_addPerson_87 (fun r87 M89 hq => ?_)
    obtain ⟨rfl, hm⟩ := hq
    have hm2 := hm.symm
    clear hm
    subst hm2
    refine v_iconst (v := 3) hC dX11_addPerson_90 (by decide) ?_
    refine v_iadd hC dX11_addPerson_91 ?_
    refine v_lconst (v := 0) hC dX11_addPerson_92 (by decide) ?_
    refine v_last 31 hC (wf_276 hWx ht2) (by decide) (by decide) (ix_q (j := 77) (wz_31 hWx (wf_276 hWx ht2)) (by decide)) dX11_addPerson_93 ?_
    refine v_aload_n hC dX11_addPerson_94 rfl rfl ?_
    refine gf_11_0 hC ht2 (wf_276 hWx ht2) mw_4_120 dX11_addPerson_95 ?_
    refine v_aload_n hC dX11_addPerson_98 rfl rfl ?_
    refine v_iload_n hC dX11_addPerson_99 rfl rfl ?_
    refine cVi1 hC (c_X11_personBy ) yv_X11_personBy rfl ht2 mw_4_185 ⟨Nat.le_of_ble_eq_true rfl, Nat.le_of_ble_eq_true rfl⟩ ⟨Nat.le_of_ble_eq_true rfl, Nat.le_of_ble_eq_true rfl⟩ (Nat.le_of_ble_eq_true rfl) dX11_addPerson_100 (fun r100 M102 hq => ?_)
    obtain ⟨rfl, hm⟩ := hq
    have hm2 := hm.symm
    clear hm
    subst hm2
    refine v_iconst (v := 4) hC dX11_addPerson_103 (by decide) ?_
    refine v_iadd hC dX11_addPerson_104 ?_
    refine v_lconst (v := 0) hC dX11_addPerson_105 (by decide) ?_
    refine v_last 31 hC (wf_276 hWx ht2) (by decide) (by decide) (ix_q (j := 78) (wz_31 hWx (wf_276 hWx ht2)) (by decide)) dX11_addPerson_106 ?_
    refine v_aload_n hC dX11_addPerson_107 rfl rfl ?_
    refine gf_11_0 hC ht2 (wf_276 hWx ht2) mw_4_120 dX11_addPerson_108 ?_
    refine v_aload_n hC dX11_addPerson_111 rfl rfl ?_
    refine v_iload_n hC dX11_addPerson_112 rfl rfl ?_
    refine cVi1 hC (c_X11_personBy ) yv_X11_personBy rfl ht2 mw_4_185 ⟨Nat.le_of_ble_eq_true rfl, Nat.le_of_ble_eq_true rfl⟩ ⟨Nat.le_of_ble_eq_true rfl, Nat.le_of_ble_eq_true rfl⟩ (Nat.le_of_ble_eq_true rfl) dX11_addPerson_113 (fun r113 M115 hq => ?_)
    obtain ⟨rfl, hm⟩ := hq
    have hm2 := hm.symm
    clear hm
    subst hm2
    refine v_iconst (v := 5) hC dX11_addPerson_116 (by decide) ?_
    refine v_iadd hC dX11_addPerson_117 ?_
    refine v_lconst (v := 0) hC dX11_addPerson_118 (by decide) ?_
    refine v_last 31 hC (wf_276 hWx ht2) (by decide) (by decide) (ix_q (j := 79) (wz_31 hWx (wf_276 hWx ht2)) (by decide)) dX11_addPerson_119 ?_
    refine v_aload_n hC dX11_addPerson_120 rfl rfl ?_
    refine gf_11_0 hC ht2 (wf_276 hWx ht2) mw_4_120 dX11_addPerson_121 ?_
    refine v_iconst (v := 1) hC dX11_addPerson_124 (by decide) ?_
    refine v_iload_n hC dX11_addPerson_125 rfl rfl ?_
    refine v_iconst (v := 1) hC dX11_addPerson_126 (by decide) ?_
    refine v_iadd hC dX11_addPerson_127 ?_
    refine v_i2l hC dX11_addPerson_128 ?_
    refine v_last 31 hC (wf_276 hWx ht2) (by decide) (by decide) (ix_q (j := 1) (wz_31 hWx (wf_276 hWx ht2)) (by decide)) dX11_addPerson_129 ?_
    refine v_iload_n hC dX11_addPerson_130 rfl rfl ?_
    refine v_iret hC dX11_addPerson_131 ?_
    exact ⟨by rw [if_pos g4], trivial⟩
  · refine v_if_ne hC dX11_addPerson_7 (tgt := 13) (by decide) (fun hx => absurd hx (by decide)) (fun _ => ?_)
    refine v_bipush (v := (-2)) hC dX11_addPerson_10 (by decide) ?_
    refine v_iret hC dX11_addPerson_12 ?_
    exact ⟨by rw [if_neg g4], trivial⟩

set_option maxHeartbeats 4000000 in
set_option maxRecDepth 100000 in
theorem c_X11_newFile0 {l : Launch} {G : Gd} {M : Me} {h : Nat} (hW : Wt M) (hs : FsN M h) : CQ (Qi G (fun r M2 => r = 0 ∧ True)) l G yX11_newFile cX11_newFile 2 ((some .int)) 1 21 0 0 [.ref h] M := by
  refine c_of ([some (.ref h), none] : Lo) RX11 "newFile" (by decide) rfl rfl (Nat.le_of_ble_eq_true rfl) rfl (fun p e s m below meth c hC nw => ?_)
  obtain ⟨ht, h279, h280, h282, ⟨l0, l1, l2, l3⟩, l4, l5, l6, l7, l8, l9⟩ := hs
  have hWx := hW
  refine v_aload_n hC dX11_newFile_0 rfl rfl ?_
  refine gf_11_0 hC ht (wf_276 hWx ht) mw_4_120 dX11_newFile_1 ?_
  refine v_iconst (v := 0) hC dX11_newFile_4 (by decide) ?_
  refine v_lald 31 hC (wf_276 hWx ht) (by decide) (by decide) (ix_q (j := 0) (wz_31 hWx (wf_276 hWx ht)) (by decide)) dX11_newFile_5 ?_
  rw [l0]
  refine v_ldc2 hC mw_4_221 dX11_newFile_6 ?_
  refine v_lcmp hC dX11_newFile_9 ?_
  refine v_if_ne hC dX11_newFile_10 (tgt := 16) (by decide) (fun _ => ?_) (fun hx => absurd hx (by decide))
  refine v_aload_n hC dX11_newFile_16 rfl rfl ?_
  refine cVv0 hC (c_X11_record0 hW ht h279) yv_X11_record rfl ht mw_4_173 ⟨Nat.le_of_ble_eq_true rfl, Nat.le_of_ble_eq_true rfl⟩ ⟨Nat.le_of_ble_eq_true rfl, Nat.le_of_ble_eq_true rfl⟩ (Nat.le_of_ble_eq_true rfl) dX11_newFile_17 (fun M19 hq17 => ?_)
  have hW2 : Wt M19 := hW.fx hq17.1
  have ht2 : m_t M19 h = 12 := (hq17.1.2.1 h).trans ht
  have l0b : m_l M19 31 (m_r M19 276 h 0) 0 = 0 := by rw [hq17.2.1 31 _ _ (by decide), hq17.1.2.2.2]; exact l0
  have hWx := hW2
  refine v_aload_n hC dX11_newFile_20 rfl rfl ?_
  refine v_iconst (v := 0) hC dX11_newFile_21 (by decide) ?_
  refine cVi1 hC (c_X11_number (v := 0) hW2 ht2 (j := 0) (ix_e (by decide) (by decide) (by decide)) (by rw [l0b]; rfl)) yv_X11_number rfl ht2 mw_4_165 ⟨Nat.le_of_ble_eq_true rfl, Nat.le_of_ble_eq_true rfl⟩ ⟨Nat.le_of_ble_eq_true rfl, Nat.le_of_ble_eq_true rfl⟩ (Nat.le_of_ble_eq_true rfl) dX11_newFile_22 (fun r22 M24 hq => ?_)
  obtain ⟨rfl, hm⟩ := hq
  have hm2 := hm.symm
  clear hm
  subst hm2
  refine v_ist1 hC dX11_newFile_25 (by decide) (kk := ?_)
  refine v_aload_n hC dX11_newFile_26 rfl rfl ?_
  refine gf_11_0 hC ht2 (wf_276 hWx ht2) mw_4_120 dX11_newFile_27 ?_
  refine v_aload_n hC dX11_newFile_30 rfl rfl ?_
  refine v_iload_n hC dX11_newFile_31 rfl rfl ?_
  refine cVi1 hC (c_X11_fileBy ) yv_X11_fileBy rfl ht2 mw_4_222 ⟨Nat.le_of_ble_eq_true rfl, Nat.le_of_ble_eq_true rfl⟩ ⟨Nat.le_of_ble_eq_true rfl, Nat.le_of_ble_eq_true rfl⟩ (Nat.le_of_ble_eq_true rfl) dX11_newFile_32 (fun r32 M34 hq => ?_)
  obtain ⟨rfl, hm⟩ := hq
  have hm2 := hm.symm
  clear hm
  subst hm2
  refine v_iconst (v := 0) hC dX11_newFile_35 (by decide) ?_
  refine v_iadd hC dX11_newFile_36 ?_
  refine v_lconst (v := 0) hC dX11_newFile_37 (by decide) ?_
  refine v_last 31 hC (wf_276 hWx ht2) (by decide) (by decide) (ix_q (j := 18) (wz_31 hWx (wf_276 hWx ht2)) (by decide)) dX11_newFile_38 ?_
  refine v_aload_n hC dX11_newFile_39 rfl rfl ?_
  refine gf_11_0 hC ht2 (wf_276 hWx ht2) mw_4_120 dX11_newFile_40 ?_
  refine v_aload_n hC dX11_newFile_43 rfl rfl ?_
  refine v_iload_n hC dX11_newFile_44 rfl rfl ?_
  refine cVi1 hC (c_X11_fileBy ) yv_X11_fileBy rfl ht2 mw_4_222 ⟨Nat.le_of_ble_eq_true rfl, Nat.le_of_ble_eq_true rfl⟩ ⟨Nat.le_of_ble_eq_true rfl, Nat.le_of_ble_eq_true rfl⟩ (Nat.le_of_ble_eq_true rfl) dX11_newFile_45 (fun r45 M47 hq => ?_)
  obtain ⟨rfl, hm⟩ := hq
  have hm2 := hm.symm
  clear hm
  subst hm2
  refine v_iconst (v := 1) hC dX11_newFile_48 (by decide) ?_
  refine v_iadd hC dX11_newFile_49 ?_
  refine v_lconst (v := 0) hC dX11_newFile_50 (by decide) ?_
  refine v_last 31 hC (wf_276 hWx ht2) (by decide) (by decide) (ix_q (j := 19) (wz_31 hWx (wf_276 hWx ht2)) (by decide)) dX11_newFile_51 ?_
  refine v_aload_n hC dX11_newFile_52 rfl rfl ?_
  refine gf_11_0 hC ht2 (wf_276 hWx ht2) mw_4_120 dX11_newFile_53 ?_
  refine v_aload_n hC dX11_newFile_56 rfl rfl ?_
  refine v_iload_n hC dX11_newFile_57 rfl rfl ?_
  refine cVi1 hC (c_X11_fileBy ) yv_X11_fileBy rfl ht2 mw_4_222 ⟨Nat.le_of_ble_eq_true rfl, Nat.le_of_ble_eq_true rfl⟩ ⟨Nat.le_of_ble_eq_true rfl, Nat.le_of_ble_eq_true rfl⟩ (Nat.le_of_ble_eq_true rfl) dX11_newFile_58 (fun r58 M60 hq => ?_)
  obtain ⟨rfl, hm⟩ := hq
  have hm2 := hm.symm
  clear hm
  subst hm2
  refine v_iconst (v := 2) hC dX11_newFile_61 (by decide) ?_
  refine v_iadd hC dX11_newFile_62 ?_
  refine v_ldc2 hC mw_4_189 dX11_newFile_63 ?_
  refine v_last 31 hC (wf_276 hWx ht2) (by decide) (by decide) (ix_q (j := 20) (wz_31 hWx (wf_276 hWx ht2)) (by decide)) dX11_newFile_66 ?_
  refine v_aload_n hC dX11_newFile_67 rfl rfl ?_
  refine gf_11_0 hC ht2 (wf_276 hWx ht2) mw_4_120 dX11_newFile_68 ?_
  refine v_aload_n hC dX11_newFile_71 rfl rfl ?_
  refine v_iload_n hC dX11_newFile_72 rfl rfl ?_
  refine cVi1 hC (c_X11_fileBy ) yv_X11_fileBy rfl ht2 mw_4_222 ⟨Nat.le_of_ble_eq_true rfl, Nat.le_of_ble_eq_true rfl⟩ ⟨Nat.le_of_ble_eq_true rfl, Nat.le_of_ble_eq_true rfl⟩ (Nat.le_of_ble_eq_true rfl) dX11_newFile_73 (fun r73 M75 hq => ?_)
  obtain ⟨rfl, hm⟩ := hq
  have hm2 := hm.symm
  clear hm
  subst hm2
  refine v_iconst (v := 3) hC dX11_newFile_76 (by decide) ?_
  refine v_iadd hC dX11_newFile_77 ?_
  refine v_ldc2 hC mw_4_189 dX11_newFile_78 ?_
  refine v_last 31 hC (wf_276 hWx ht2) (by decide) (by decide) (ix_q (j := 21) (wz_31 hWx (wf_276 hWx ht2)) (by decide)) dX11_newFile_81 ?_
  refine v_aload_n hC dX11_newFile_82 rfl rfl ?_
  refine gf_11_0 hC ht2 (wf_276 hWx ht2) mw_4_120 dX11_newFile_83 ?_
  refine v_aload_n hC dX11_newFile_86 rfl rfl ?_
  refine v_iload_n hC dX11_newFile_87 rfl rfl ?_
  refine cVi1 hC (c_X11_fileBy ) yv_X11_fileBy rfl ht2 mw_4_222 ⟨Nat.le_of_ble_eq_true rfl, Nat.le_of_ble_eq_true rfl⟩ ⟨Nat.le_of_ble_eq_true rfl, Nat.le_of_ble_eq_true rfl⟩ (Nat.le_of_ble_eq_true rfl) dX11_newFile_88 (fun r88 M90 hq => ?_)
  obtain ⟨rfl, hm⟩ := hq
  have hm2 := hm.symm
  clear hm
  subst hm2
  refine v_iconst (v := 4) hC dX11_newFile_91 (by decide) ?_
  refine v_iadd hC dX11_newFile_92 ?_
  refine v_ldc2 hC mw_4_189 dX11_newFile_93 ?_
  refine v_last 31 hC (wf_276 hWx ht2) (by decide) (by decide) (ix_q (j := 22) (wz_31 hWx (wf_276 hWx ht2)) (by decide)) dX11_newFile_96 ?_
  refine v_aload_n hC dX11_newFile_97 rfl rfl ?_
  refine gf_11_0 hC ht2 (wf_276 hWx ht2) mw_4_120 dX11_newFile_98 ?_
  refine v_aload_n hC dX11_newFile_101 rfl rfl ?_
  refine v_iload_n hC dX11_newFile_102 rfl rfl ?_
  refine cVi1 hC (c_X11_fileBy ) yv_X11_fileBy rfl ht2 mw_4_222 ⟨Nat.le_of_ble_eq_true rfl, Nat.le_of_ble_eq_true rfl⟩ ⟨Nat.le_of_ble_eq_true rfl, Nat.le_of_ble_eq_true rfl⟩ (Nat.le_of_ble_eq_true rfl) dX11_newFile_103 (fun r103 M105 hq => ?_)
  obtain ⟨rfl, hm⟩ := hq
  have hm2 := hm.symm
  clear hm
  subst hm2
  refine v_iconst (v := 5) hC dX11_newFile_106 (by decide) ?_
  refine v_iadd hC dX11_newFile_107 ?_
  refine v_lconst (v := 0) hC dX11_newFile_108 (by decide) ?_
  refine v_last 31 hC (wf_276 hWx ht2) (by decide) (by decide) (ix_q (j := 23) (wz_31 hWx (wf_276 hWx ht2)) (by decide)) dX11_newFile_109 ?_
  refine v_aload_n hC dX11_newFile_110 rfl rfl ?_
  refine gf_11_0 hC ht2 (wf_276 hWx ht2) mw_4_120 dX11_newFile_111 ?_
  refine v_bipush (v := 10) hC dX11_newFile_114 (by decide) ?_
  refine v_iload_n hC dX11_newFile_116 rfl rfl ?_
  refine v_iadd hC dX11_newFile_117 ?_
  refine v_iload_n hC dX11_newFile_118 rfl rfl ?_
  refine v_i2l hC dX11_newFile_119 ?_
  refine v_last 31 hC (wf_276 hWx ht2) (by decide) (by decide) (ix_q (j := 10) (wz_31 hWx (wf_276 hWx ht2)) (by decide)) dX11_newFile_120 ?_
  refine v_aload_n hC dX11_newFile_121 rfl rfl ?_
  refine gf_11_0 hC ht2 (wf_276 hWx ht2) mw_4_120 dX11_newFile_122 ?_
  refine v_iconst (v := 0) hC dX11_newFile_125 (by decide) ?_
  refine v_iload_n hC dX11_newFile_126 rfl rfl ?_
  refine v_iconst (v := 1) hC dX11_newFile_127 (by decide) ?_
  refine v_iadd hC dX11_newFile_128 ?_
  refine v_i2l hC dX11_newFile_129 ?_
  refine v_last 31 hC (wf_276 hWx ht2) (by decide) (by decide) (ix_q (j := 0) (wz_31 hWx (wf_276 hWx ht2)) (by decide)) dX11_newFile_130 ?_
  refine v_iload_n hC dX11_newFile_131 rfl rfl ?_
  refine v_iret hC dX11_newFile_132 ?_
  exact ⟨rfl, trivial⟩

set_option maxHeartbeats 4000000 in
set_option maxRecDepth 100000 in
theorem c_X11_setShare0 {l : Launch} {G : Gd} {M : Me} {h : Nat} {x y : Int32} (hW : Wt M) (hs : FsN M h) : CQ (Qi G (fun r M2 => (r = (if (0 ≤ x ∧ x < 6) ∧ 0 ≤ y ∧ y ≤ 100 then (if shr x.toNatClampNeg = y then -5 else shr x.toNatClampNeg) else -2)) ∧ True)) l G yX11_setShare cX11_setShare 4 ((some .int)) 1 22 0 0 [.ref h, .int x, .int y] M := by
  refine c_of ([some (.ref h), some (.int x), some (.int y), none] : Lo) RX11 "setShare" (by decide) rfl rfl (Nat.le_of_ble_eq_true rfl) rfl (fun p e s m below meth c hC nw => ?_)
  obtain ⟨ht, h279, h280, h282, ⟨l0, l1, l2, l3⟩, l4, l5, l6, l7, l8, l9⟩ := hs
  refine v_iload_n hC dX11_setShare_0 rfl rfl ?_
  refine v_iconst (v := 0) hC dX11_setShare_1 (by decide) ?_
  refine v_iconst (v := 5) hC dX11_setShare_2 (by decide) ?_
  refine cSi3 hC (c_X11_in ) ys_X11_in mw_4_181 ⟨Nat.le_of_ble_eq_true rfl, Nat.le_of_ble_eq_true rfl⟩ ⟨Nat.le_of_ble_eq_true rfl, Nat.le_of_ble_eq_true rfl⟩ (Nat.le_of_ble_eq_true rfl) dX11_setShare_3 (fun r3 M5 hq => ?_)
  obtain ⟨hm, hq2⟩ := hq
  have hm2 := hm.symm
  clear hm
  subst hm2
  obtain ⟨g3, rfl⟩ | ⟨g3, rfl⟩ := hq2
  · refine v_if_eq hC dX11_setShare_6 (tgt := 19) (by decide) (fun hx => absurd hx (by decide)) (fun _ => ?_)
    refine v_iload_n hC dX11_setShare_9 rfl rfl ?_
    refine v_iconst (v := 0) hC dX11_setShare_10 (by decide) ?_
    refine v_bipush (v := 100) hC dX11_setShare_11 (by decide) ?_
    refine cSi3 hC (c_X11_in ) ys_X11_in mw_4_181 ⟨Nat.le_of_ble_eq_true rfl, Nat.le_of_ble_eq_true rfl⟩ ⟨Nat.le_of_ble_eq_true rfl, Nat.le_of_ble_eq_true rfl⟩ (Nat.le_of_ble_eq_true rfl) dX11_setShare_13 (fun r13 M15 hq => ?_)
    obtain ⟨hm, hq2⟩ := hq
    have hm2 := hm.symm
    clear hm
    subst hm2
    obtain ⟨g13, rfl⟩ | ⟨g13, rfl⟩ := hq2
    · refine v_if_ne hC dX11_setShare_16 (tgt := 22) (by decide) (fun _ => ?_) (fun hx => absurd hx (by decide))
      obtain rfl | rfl | rfl | rfl | rfl | rfl := i_05 g3
      · refine v_aload_n hC dX11_setShare_22 rfl rfl ?_
        refine v_iconst (v := 4) hC dX11_setShare_23 (by decide) ?_
        refine v_iload_n hC dX11_setShare_24 rfl rfl ?_
        refine v_iadd hC dX11_setShare_25 ?_
        refine cVi1 hC (c_X11_number (v := 10) hW ht (j := 4) (ix_e (by decide) (by decide) (by decide)) (by rw [l4]; rfl)) yv_X11_number rfl ht mw_4_165 ⟨Nat.le_of_ble_eq_true rfl, Nat.le_of_ble_eq_true rfl⟩ ⟨Nat.le_of_ble_eq_true rfl, Nat.le_of_ble_eq_true rfl⟩ (Nat.le_of_ble_eq_true rfl) dX11_setShare_26 (fun r26 M28 hq => ?_)
        obtain ⟨rfl, hm⟩ := hq
        have hm2 := hm.symm
        clear hm
        subst hm2
        refine v_ist3 hC dX11_setShare_29 (by decide) (kk := ?_)
        refine v_iload_n hC dX11_setShare_30 rfl rfl ?_
        refine v_iload_n hC dX11_setShare_31 rfl rfl ?_
        refine v_icmp_ne hC dX11_setShare_32 (tgt := 38) (by decide) (fun h32 => ?_) (fun h32 => ?_)
        · refine v_aload_n hC dX11_setShare_38 rfl rfl ?_
          refine cVv0 hC (c_X11_record0 hW ht h279) yv_X11_record rfl ht mw_4_173 ⟨Nat.le_of_ble_eq_true rfl, Nat.le_of_ble_eq_true rfl⟩ ⟨Nat.le_of_ble_eq_true rfl, Nat.le_of_ble_eq_true rfl⟩ (Nat.le_of_ble_eq_true rfl) dX11_setShare_39 (fun M41 hq39 => ?_)
          have hWx : Wt M41 := hW.fx hq39.1
          have ht2 : m_t M41 h = 12 := (hq39.1.2.1 h).trans ht
          refine v_aload_n hC dX11_setShare_42 rfl rfl ?_
          refine gf_11_0 hC ht2 (wf_276 hWx ht2) mw_4_120 dX11_setShare_43 ?_
          refine v_iconst (v := 4) hC dX11_setShare_46 (by decide) ?_
          refine v_iload_n hC dX11_setShare_47 rfl rfl ?_
          refine v_iadd hC dX11_setShare_48 ?_
          refine v_iload_n hC dX11_setShare_49 rfl rfl ?_
          refine v_i2l hC dX11_setShare_50 ?_
          refine v_last 31 hC (wf_276 hWx ht2) (by decide) (by decide) (ix_q (j := 4) (wz_31 hWx (wf_276 hWx ht2)) (by decide)) dX11_setShare_51 ?_
          refine v_iload_n hC dX11_setShare_52 rfl rfl ?_
          refine v_iret hC dX11_setShare_53 ?_
          exact ⟨by rw [if_pos ⟨⟨by decide, by decide⟩, g13⟩]; exact (if_neg h32).symm, trivial⟩
        · refine v_bipush (v := (-5)) hC dX11_setShare_35 (by decide) ?_
          refine v_iret hC dX11_setShare_37 ?_
          exact ⟨by rw [if_pos ⟨⟨by decide, by decide⟩, g13⟩]; exact (if_pos h32).symm, trivial⟩
      · refine v_aload_n hC dX11_setShare_22 rfl rfl ?_
        refine v_iconst (v := 4) hC dX11_setShare_23 (by decide) ?_
        refine v_iload_n hC dX11_setShare_24 rfl rfl ?_
        refine v_iadd hC dX11_setShare_25 ?_
        refine cVi1 hC (c_X11_number (v := 20) hW ht (j := 5) (ix_e (by decide) (by decide) (by decide)) (by rw [l5]; rfl)) yv_X11_number rfl ht mw_4_165 ⟨Nat.le_of_ble_eq_true rfl, Nat.le_of_ble_eq_true rfl⟩ ⟨Nat.le_of_ble_eq_true rfl, Nat.le_of_ble_eq_true rfl⟩ (Nat.le_of_ble_eq_true rfl) dX11_setShare_26 (fun r26 M28 hq => ?_)
        obtain ⟨rfl, hm⟩ := hq
        have hm2 := hm.symm
        clear hm
        subst hm2
        refine v_ist3 hC dX11_setShare_29 (by decide) (kk := ?_)
        refine v_iload_n hC dX11_setShare_30 rfl rfl ?_
        refine v_iload_n hC dX11_setShare_31 rfl rfl ?_
        refine v_icmp_ne hC dX11_setShare_32 (tgt := 38) (by decide) (fun h32 => ?_) (fun h32 => ?_)
        · refine v_aload_n hC dX11_setShare_38 rfl rfl ?_
          refine cVv0 hC (c_X11_record0 hW ht h279) yv_X11_record rfl ht mw_4_173 ⟨Nat.le_of_ble_eq_true rfl, Nat.le_of_ble_eq_true rfl⟩ ⟨Nat.le_of_ble_eq_true rfl, Nat.le_of_ble_eq_true rfl⟩ (Nat.le_of_ble_eq_true rfl) dX11_setShare_39 (fun M41 hq39 => ?_)
          have hWx : Wt M41 := hW.fx hq39.1
          have ht2 : m_t M41 h = 12 := (hq39.1.2.1 h).trans ht
          refine v_aload_n hC dX11_setShare_42 rfl rfl ?_
          refine gf_11_0 hC ht2 (wf_276 hWx ht2) mw_4_120 dX11_setShare_43 ?_
          refine v_iconst (v := 4) hC dX11_setShare_46 (by decide) ?_
          refine v_iload_n hC dX11_setShare_47 rfl rfl ?_
          refine v_iadd hC dX11_setShare_48 ?_
          refine v_iload_n hC dX11_setShare_49 rfl rfl ?_
          refine v_i2l hC dX11_setShare_50 ?_
          refine v_last 31 hC (wf_276 hWx ht2) (by decide) (by decide) (ix_q (j := 5) (wz_31 hWx (wf_276 hWx ht2)) (by decide)) dX11_setShare_51 ?_
          refine v_iload_n hC dX11_setShare_52 rfl rfl ?_
          refine v_iret hC dX11_setShare_53 ?_
          exact ⟨by rw [if_pos ⟨⟨by decide, by decide⟩, g13⟩]; exact (if_neg h32).symm, trivial⟩
        · refine v_bipush (v := (-5)) hC dX11_setShare_35 (by decide) ?_
          refine v_iret hC dX11_setShare_37 ?_
          exact ⟨by rw [if_pos ⟨⟨by decide, by decide⟩, g13⟩]; exact (if_pos h32).symm, trivial⟩
      · refine v_aload_n hC dX11_setShare_22 rfl rfl ?_
        refine v_iconst (v := 4) hC dX11_setShare_23 (by decide) ?_
        refine v_iload_n hC dX11_setShare_24 rfl rfl ?_
        refine v_iadd hC dX11_setShare_25 ?_
        refine cVi1 hC (c_X11_number (v := 40) hW ht (j := 6) (ix_e (by decide) (by decide) (by decide)) (by rw [l6]; rfl)) yv_X11_number rfl ht mw_4_165 ⟨Nat.le_of_ble_eq_true rfl, Nat.le_of_ble_eq_true rfl⟩ ⟨Nat.le_of_ble_eq_true rfl, Nat.le_of_ble_eq_true rfl⟩ (Nat.le_of_ble_eq_true rfl) dX11_setShare_26 (fun r26 M28 hq => ?_)
        obtain ⟨rfl, hm⟩ := hq
        have hm2 := hm.symm
        clear hm
        subst hm2
        refine v_ist3 hC dX11_setShare_29 (by decide) (kk := ?_)
        refine v_iload_n hC dX11_setShare_30 rfl rfl ?_
        refine v_iload_n hC dX11_setShare_31 rfl rfl ?_
        refine v_icmp_ne hC dX11_setShare_32 (tgt := 38) (by decide) (fun h32 => ?_) (fun h32 => ?_)
        · refine v_aload_n hC dX11_setShare_38 rfl rfl ?_
          refine cVv0 hC (c_X11_record0 hW ht h279) yv_X11_record rfl ht mw_4_173 ⟨Nat.le_of_ble_eq_true rfl, Nat.le_of_ble_eq_true rfl⟩ ⟨Nat.le_of_ble_eq_true rfl, Nat.le_of_ble_eq_true rfl⟩ (Nat.le_of_ble_eq_true rfl) dX11_setShare_39 (fun M41 hq39 => ?_)
          have hWx : Wt M41 := hW.fx hq39.1
          have ht2 : m_t M41 h = 12 := (hq39.1.2.1 h).trans ht
          refine v_aload_n hC dX11_setShare_42 rfl rfl ?_
          refine gf_11_0 hC ht2 (wf_276 hWx ht2) mw_4_120 dX11_setShare_43 ?_
          refine v_iconst (v := 4) hC dX11_setShare_46 (by decide) ?_
          refine v_iload_n hC dX11_setShare_47 rfl rfl ?_
          refine v_iadd hC dX11_setShare_48 ?_
          refine v_iload_n hC dX11_setShare_49 rfl rfl ?_
          refine v_i2l hC dX11_setShare_50 ?_
          refine v_last 31 hC (wf_276 hWx ht2) (by decide) (by decide) (ix_q (j := 6) (wz_31 hWx (wf_276 hWx ht2)) (by decide)) dX11_setShare_51 ?_
          refine v_iload_n hC dX11_setShare_52 rfl rfl ?_
          refine v_iret hC dX11_setShare_53 ?_
          exact ⟨by rw [if_pos ⟨⟨by decide, by decide⟩, g13⟩]; exact (if_neg h32).symm, trivial⟩
        · refine v_bipush (v := (-5)) hC dX11_setShare_35 (by decide) ?_
          refine v_iret hC dX11_setShare_37 ?_
          exact ⟨by rw [if_pos ⟨⟨by decide, by decide⟩, g13⟩]; exact (if_pos h32).symm, trivial⟩
      · refine v_aload_n hC dX11_setShare_22 rfl rfl ?_
        refine v_iconst (v := 4) hC dX11_setShare_23 (by decide) ?_
        refine v_iload_n hC dX11_setShare_24 rfl rfl ?_
        refine v_iadd hC dX11_setShare_25 ?_
        refine cVi1 hC (c_X11_number (v := 60) hW ht (j := 7) (ix_e (by decide) (by decide) (by decide)) (by rw [l7]; rfl)) yv_X11_number rfl ht mw_4_165 ⟨Nat.le_of_ble_eq_true rfl, Nat.le_of_ble_eq_true rfl⟩ ⟨Nat.le_of_ble_eq_true rfl, Nat.le_of_ble_eq_true rfl⟩ (Nat.le_of_ble_eq_true rfl) dX11_setShare_26 (fun r26 M28 hq => ?_)
        obtain ⟨rfl, hm⟩ := hq
        have hm2 := hm.symm
        clear hm
        subst hm2
        refine v_ist3 hC dX11_setShare_29 (by decide) (kk := ?_)
        refine v_iload_n hC dX11_setShare_30 rfl rfl ?_
        refine v_iload_n hC dX11_setShare_31 rfl rfl ?_
        refine v_icmp_ne hC dX11_setShare_32 (tgt := 38) (by decide) (fun h32 => ?_) (fun h32 => ?_)
        · refine v_aload_n hC dX11_setShare_38 rfl rfl ?_
          refine cVv0 hC (c_X11_record0 hW ht h279) yv_X11_record rfl ht mw_4_173 ⟨Nat.le_of_ble_eq_true rfl, Nat.le_of_ble_eq_true rfl⟩ ⟨Nat.le_of_ble_eq_true rfl, Nat.le_of_ble_eq_true rfl⟩ (Nat.le_of_ble_eq_true rfl) dX11_setShare_39 (fun M41 hq39 => ?_)
          have hWx : Wt M41 := hW.fx hq39.1
          have ht2 : m_t M41 h = 12 := (hq39.1.2.1 h).trans ht
          refine v_aload_n hC dX11_setShare_42 rfl rfl ?_
          refine gf_11_0 hC ht2 (wf_276 hWx ht2) mw_4_120 dX11_setShare_43 ?_
          refine v_iconst (v := 4) hC dX11_setShare_46 (by decide) ?_
          refine v_iload_n hC dX11_setShare_47 rfl rfl ?_
          refine v_iadd hC dX11_setShare_48 ?_
          refine v_iload_n hC dX11_setShare_49 rfl rfl ?_
          refine v_i2l hC dX11_setShare_50 ?_
          refine v_last 31 hC (wf_276 hWx ht2) (by decide) (by decide) (ix_q (j := 7) (wz_31 hWx (wf_276 hWx ht2)) (by decide)) dX11_setShare_51 ?_
          refine v_iload_n hC dX11_setShare_52 rfl rfl ?_
          refine v_iret hC dX11_setShare_53 ?_
          exact ⟨by rw [if_pos ⟨⟨by decide, by decide⟩, g13⟩]; exact (if_neg h32).symm, trivial⟩
        · refine v_bipush (v := (-5)) hC dX11_setShare_35 (by decide) ?_
          refine v_iret hC dX11_setShare_37 ?_
          exact ⟨by rw [if_pos ⟨⟨by decide, by decide⟩, g13⟩]; exact (if_pos h32).symm, trivial⟩
      · refine v_aload_n hC dX11_setShare_22 rfl rfl ?_
        refine v_iconst (v := 4) hC dX11_setShare_23 (by decide) ?_
        refine v_iload_n hC dX11_setShare_24 rfl rfl ?_
        refine v_iadd hC dX11_setShare_25 ?_
        refine cVi1 hC (c_X11_number (v := 80) hW ht (j := 8) (ix_e (by decide) (by decide) (by decide)) (by rw [l8]; rfl)) yv_X11_number rfl ht mw_4_165 ⟨Nat.le_of_ble_eq_true rfl, Nat.le_of_ble_eq_true rfl⟩ ⟨Nat.le_of_ble_eq_true rfl, Nat.le_of_ble_eq_true rfl⟩ (Nat.le_of_ble_eq_true rfl) dX11_setShare_26 (fun r26 M28 hq => ?_)
        obtain ⟨rfl, hm⟩ := hq
        have hm2 := hm.symm
        clear hm
        subst hm2
        refine v_ist3 hC dX11_setShare_29 (by decide) (kk := ?_)
        refine v_iload_n hC dX11_setShare_30 rfl rfl ?_
        refine v_iload_n hC dX11_setShare_31 rfl rfl ?_
        refine v_icmp_ne hC dX11_setShare_32 (tgt := 38) (by decide) (fun h32 => ?_) (fun h32 => ?_)
        · refine v_aload_n hC dX11_setShare_38 rfl rfl ?_
          refine cVv0 hC (c_X11_record0 hW ht h279) yv_X11_record rfl ht mw_4_173 ⟨Nat.le_of_ble_eq_true rfl, Nat.le_of_ble_eq_true rfl⟩ ⟨Nat.le_of_ble_eq_true rfl, Nat.le_of_ble_eq_true rfl⟩ (Nat.le_of_ble_eq_true rfl) dX11_setShare_39 (fun M41 hq39 => ?_)
          have hWx : Wt M41 := hW.fx hq39.1
          have ht2 : m_t M41 h = 12 := (hq39.1.2.1 h).trans ht
          refine v_aload_n hC dX11_setShare_42 rfl rfl ?_
          refine gf_11_0 hC ht2 (wf_276 hWx ht2) mw_4_120 dX11_setShare_43 ?_
          refine v_iconst (v := 4) hC dX11_setShare_46 (by decide) ?_
          refine v_iload_n hC dX11_setShare_47 rfl rfl ?_
          refine v_iadd hC dX11_setShare_48 ?_
          refine v_iload_n hC dX11_setShare_49 rfl rfl ?_
          refine v_i2l hC dX11_setShare_50 ?_
          refine v_last 31 hC (wf_276 hWx ht2) (by decide) (by decide) (ix_q (j := 8) (wz_31 hWx (wf_276 hWx ht2)) (by decide)) dX11_setShare_51 ?_
          refine v_iload_n hC dX11_setShare_52 rfl rfl ?_
          refine v_iret hC dX11_setShare_53 ?_
          exact ⟨by rw [if_pos ⟨⟨by decide, by decide⟩, g13⟩]; exact (if_neg h32).symm, trivial⟩
        · refine v_bipush (v := (-5)) hC dX11_setShare_35 (by decide) ?_
          refine v_iret hC dX11_setShare_37 ?_
          exact ⟨by rw [if_pos ⟨⟨by decide, by decide⟩, g13⟩]; exact (if_pos h32).symm, trivial⟩
      · refine v_aload_n hC dX11_setShare_22 rfl rfl ?_
        refine v_iconst (v := 4) hC dX11_setShare_23 (by decide) ?_
        refine v_iload_n hC dX11_setShare_24 rfl rfl ?_
        refine v_iadd hC dX11_setShare_25 ?_
        refine cVi1 hC (c_X11_number (v := 100) hW ht (j := 9) (ix_e (by decide) (by decide) (by decide)) (by rw [l9]; rfl)) yv_X11_number rfl ht mw_4_165 ⟨Nat.le_of_ble_eq_true rfl, Nat.le_of_ble_eq_true rfl⟩ ⟨Nat.le_of_ble_eq_true rfl, Nat.le_of_ble_eq_true rfl⟩ (Nat.le_of_ble_eq_true rfl) dX11_setShare_26 (fun r26 M28 hq => ?_)
        obtain ⟨rfl, hm⟩ := hq
        have hm2 := hm.symm
        clear hm
        subst hm2
        refine v_ist3 hC dX11_setShare_29 (by decide) (kk := ?_)
        refine v_iload_n hC dX11_setShare_30 rfl rfl ?_
        refine v_iload_n hC dX11_setShare_31 rfl rfl ?_
        refine v_icmp_ne hC dX11_setShare_32 (tgt := 38) (by decide) (fun h32 => ?_) (fun h32 => ?_)
        · refine v_aload_n hC dX11_setShare_38 rfl rfl ?_
          refine cVv0 hC (c_X11_record0 hW ht h279) yv_X11_record rfl ht mw_4_173 ⟨Nat.le_of_ble_eq_true rfl, Nat.le_of_ble_eq_true rfl⟩ ⟨Nat.le_of_ble_eq_true rfl, Nat.le_of_ble_eq_true rfl⟩ (Nat.le_of_ble_eq_true rfl) dX11_setShare_39 (fun M41 hq39 => ?_)
          have hWx : Wt M41 := hW.fx hq39.1
          have ht2 : m_t M41 h = 12 := (hq39.1.2.1 h).trans ht
          refine v_aload_n hC dX11_setShare_42 rfl rfl ?_
          refine gf_11_0 hC ht2 (wf_276 hWx ht2) mw_4_120 dX11_setShare_43 ?_
          refine v_iconst (v := 4) hC dX11_setShare_46 (by decide) ?_
          refine v_iload_n hC dX11_setShare_47 rfl rfl ?_
          refine v_iadd hC dX11_setShare_48 ?_
          refine v_iload_n hC dX11_setShare_49 rfl rfl ?_
          refine v_i2l hC dX11_setShare_50 ?_
          refine v_last 31 hC (wf_276 hWx ht2) (by decide) (by decide) (ix_q (j := 9) (wz_31 hWx (wf_276 hWx ht2)) (by decide)) dX11_setShare_51 ?_
          refine v_iload_n hC dX11_setShare_52 rfl rfl ?_
          refine v_iret hC dX11_setShare_53 ?_
          exact ⟨by rw [if_pos ⟨⟨by decide, by decide⟩, g13⟩]; exact (if_neg h32).symm, trivial⟩
        · refine v_bipush (v := (-5)) hC dX11_setShare_35 (by decide) ?_
          refine v_iret hC dX11_setShare_37 ?_
          exact ⟨by rw [if_pos ⟨⟨by decide, by decide⟩, g13⟩]; exact (if_pos h32).symm, trivial⟩
    · refine v_if_ne hC dX11_setShare_16 (tgt := 22) (by decide) (fun hx => absurd hx (by decide)) (fun _ => ?_)
      refine v_bipush (v := (-2)) hC dX11_setShare_19 (by decide) ?_
      refine v_iret hC dX11_setShare_21 ?_
      exact ⟨by rw [if_neg (fun q => by first | exact g3 ⟨q.1.1, i_le5 q.1.2⟩ | exact g13 q.2)], trivial⟩
  · refine v_if_eq hC dX11_setShare_6 (tgt := 19) (by decide) (fun _ => ?_) (fun hx => absurd hx (by decide))
    refine v_bipush (v := (-2)) hC dX11_setShare_19 (by decide) ?_
    refine v_iret hC dX11_setShare_21 ?_
    exact ⟨by rw [if_neg (fun q => by first | exact g3 ⟨q.1.1, i_le5 q.1.2⟩ | exact g13 q.2)], trivial⟩

set_option maxHeartbeats 4000000 in
set_option maxRecDepth 100000 in
theorem c_X11_sum0 {l : Launch} {G : Gd} {M : Me} {h : Nat} {x y z : Int32} (hW : Wt M) (ht : m_t M h = 12) (l0 : m_l M 31 (m_r M 276 h 0) 0 = 0) : CQ (Qi G (fun r M2 => r = 0 ∧ M2 = M)) l G yX11_sum cX11_sum 6 ((some .int)) 0 0 0 0 [.ref h, .int x, .int y, .int z] M := by
  refine c_of ([some (.ref h), some (.int x), some (.int y), some (.int z), none, none] : Lo) RX11 "sum" (by decide) rfl rfl (Nat.le_of_ble_eq_true rfl) rfl (fun p e s m below meth c hC nw => ?_)
  refine v_iconst (v := 0) hC dX11_sum_0 (by decide) ?_
  refine v_ist4 hC dX11_sum_1 (by decide) (kk := ?_)
  refine v_iconst (v := 0) hC dX11_sum_3 (by decide) ?_
  refine v_ist5 hC dX11_sum_4 (by decide) (kk := ?_)
  refine v_iload hC dX11_sum_6 rfl ?_
  refine v_i2l hC dX11_sum_8 ?_
  refine v_aload_n hC dX11_sum_9 rfl rfl ?_
  refine gf_11_0 hC ht (wf_276 hW ht) mw_4_120 dX11_sum_10 ?_
  refine v_iconst (v := 0) hC dX11_sum_13 (by decide) ?_
  refine v_lald 31 hC (wf_276 hW ht) (by decide) (by decide) (ix_q (j := 0) (wz_31 hW (wf_276 hW ht)) (by decide)) dX11_sum_14 ?_
  rw [l0]
  refine v_lcmp hC dX11_sum_15 ?_
  refine v_if_ge hC dX11_sum_16 (tgt := 79) (by decide) (fun _ => ?_) (fun hx => absurd hx (by decide))
  refine v_iload hC dX11_sum_79 rfl ?_
  refine v_iret hC dX11_sum_81 ?_
  exact ⟨rfl, rfl⟩

set_option maxHeartbeats 4000000 in
set_option maxRecDepth 100000 in
theorem c_X11_openDisputes0 {l : Launch} {G : Gd} {M : Me} {h : Nat} (hW : Wt M) (ht : m_t M h = 12) (l3 : m_l M 31 (m_r M 276 h 0) 3 = 0) : CQ (Qi G (fun r M2 => r = 0 ∧ M2 = M)) l G yX11_openDisputes cX11_openDisputes 3 ((some .int)) 0 0 0 0 [.ref h] M := by
  refine c_of ([some (.ref h), none, none] : Lo) RX11 "openDisputes" (by decide) rfl rfl (Nat.le_of_ble_eq_true rfl) rfl (fun p e s m below meth c hC nw => ?_)
  refine v_iconst (v := 0) hC dX11_openDisputes_0 (by decide) ?_
  refine v_ist1 hC dX11_openDisputes_1 (by decide) (kk := ?_)
  refine v_iconst (v := 0) hC dX11_openDisputes_2 (by decide) ?_
  refine v_ist2 hC dX11_openDisputes_3 (by decide) (kk := ?_)
  refine v_iload_n hC dX11_openDisputes_4 rfl rfl ?_
  refine v_i2l hC dX11_openDisputes_5 ?_
  refine v_aload_n hC dX11_openDisputes_6 rfl rfl ?_
  refine gf_11_0 hC ht (wf_276 hW ht) mw_4_120 dX11_openDisputes_7 ?_
  refine v_iconst (v := 3) hC dX11_openDisputes_10 (by decide) ?_
  refine v_lald 31 hC (wf_276 hW ht) (by decide) (by decide) (ix_q (j := 3) (wz_31 hW (wf_276 hW ht)) (by decide)) dX11_openDisputes_11 ?_
  rw [l3]
  refine v_lcmp hC dX11_openDisputes_12 ?_
  refine v_if_ge hC dX11_openDisputes_13 (tgt := 47) (by decide) (fun _ => ?_) (fun hx => absurd hx (by decide))
  refine v_iload_n hC dX11_openDisputes_47 rfl rfl ?_
  refine v_iret hC dX11_openDisputes_48 ?_
  exact ⟨rfl, rfl⟩

set_option maxHeartbeats 4000000 in
set_option maxRecDepth 100000 in
theorem c_X11_allPaid0 {l : Launch} {G : Gd} {M : Me} {h : Nat} (hW : Wt M) (ht : m_t M h = 12) (l1 : m_l M 31 (m_r M 276 h 0) 1 = 0) : CQ (Qi G (fun r M2 => r = 0 ∧ M2 = M)) l G yX11_allPaid cX11_allPaid 3 ((some .int)) 0 0 0 0 [.ref h] M := by
  refine c_of ([some (.ref h), none, none] : Lo) RX11 "allPaid" (by decide) rfl rfl (Nat.le_of_ble_eq_true rfl) rfl (fun p e s m below meth c hC nw => ?_)
  refine v_iconst (v := 0) hC dX11_allPaid_0 (by decide) ?_
  refine v_ist1 hC dX11_allPaid_1 (by decide) (kk := ?_)
  refine v_iconst (v := 0) hC dX11_allPaid_2 (by decide) ?_
  refine v_ist2 hC dX11_allPaid_3 (by decide) (kk := ?_)
  refine v_iload_n hC dX11_allPaid_4 rfl rfl ?_
  refine v_i2l hC dX11_allPaid_5 ?_
  refine v_aload_n hC dX11_allPaid_6 rfl rfl ?_
  refine gf_11_0 hC ht (wf_276 hW ht) mw_4_120 dX11_allPaid_7 ?_
  refine v_iconst (v := 1) hC dX11_allPaid_10 (by decide) ?_
  refine v_lald 31 hC (wf_276 hW ht) (by decide) (by decide) (ix_q (j := 1) (wz_31 hW (wf_276 hW ht)) (by decide)) dX11_allPaid_11 ?_
  rw [l1]
  refine v_lcmp hC dX11_allPaid_12 ?_
  refine v_if_ge hC dX11_allPaid_13 (tgt := 36) (by decide) (fun _ => ?_) (fun hx => absurd hx (by decide))
  refine v_iload_n hC dX11_allPaid_36 rfl rfl ?_
  refine v_iret hC dX11_allPaid_37 ?_
  exact ⟨rfl, rfl⟩

set_option maxHeartbeats 4000000 in
set_option maxRecDepth 100000 in
theorem c_X11_allInWay0 {l : Launch} {G : Gd} {M : Me} {h : Nat} {x : Int32} (hW : Wt M) (ht : m_t M h = 12) (l0 : m_l M 31 (m_r M 276 h 0) 0 = 0) : CQ (Qi G (fun r M2 => r = 0 ∧ M2 = M)) l G yX11_allInWay cX11_allInWay 4 ((some .int)) 0 0 0 0 [.ref h, .int x] M := by
  refine c_of ([some (.ref h), some (.int x), none, none] : Lo) RX11 "allInWay" (by decide) rfl rfl (Nat.le_of_ble_eq_true rfl) rfl (fun p e s m below meth c hC nw => ?_)
  refine v_iconst (v := 0) hC dX11_allInWay_0 (by decide) ?_
  refine v_ist2 hC dX11_allInWay_1 (by decide) (kk := ?_)
  refine v_iconst (v := 0) hC dX11_allInWay_2 (by decide) ?_
  refine v_ist3 hC dX11_allInWay_3 (by decide) (kk := ?_)
  refine v_iload_n hC dX11_allInWay_4 rfl rfl ?_
  refine v_i2l hC dX11_allInWay_5 ?_
  refine v_aload_n hC dX11_allInWay_6 rfl rfl ?_
  refine gf_11_0 hC ht (wf_276 hW ht) mw_4_120 dX11_allInWay_7 ?_
  refine v_iconst (v := 0) hC dX11_allInWay_10 (by decide) ?_
  refine v_lald 31 hC (wf_276 hW ht) (by decide) (by decide) (ix_q (j := 0) (wz_31 hW (wf_276 hW ht)) (by decide)) dX11_allInWay_11 ?_
  rw [l0]
  refine v_lcmp hC dX11_allInWay_12 ?_
  refine v_if_ge hC dX11_allInWay_13 (tgt := 31) (by decide) (fun _ => ?_) (fun hx => absurd hx (by decide))
  refine v_iload_n hC dX11_allInWay_31 rfl rfl ?_
  refine v_iret hC dX11_allInWay_32 ?_
  exact ⟨rfl, rfl⟩

set_option maxHeartbeats 4000000 in
set_option maxRecDepth 100000 in
theorem c_X11_count0 {l : Launch} {G : Gd} {M : Me} {h : Nat} {x : Int32} (hW : Wt M) (hs : FsN M h) : CQ (Qi G (fun r M2 => r = (if x.toInt < 0 ∨ 16 < x.toInt then -2 else 0) ∧ M2 = M)) l G yX11_count cX11_count 2 ((some .int)) 1 25 0 0 [.ref h, .int x] M := by
  refine c_of ([some (.ref h), some (.int x)] : Lo) RX11 "count" (by decide) rfl rfl (Nat.le_of_ble_eq_true rfl) rfl (fun p e s m below meth c hC nw => ?_)
  obtain ⟨ht, h279, h280, h282, ⟨l0, l1, l2, l3⟩, l4, l5, l6, l7, l8, l9⟩ := hs
  refine v_iload_n hC dX11_count_0 rfl rfl ?_
  by_cases e0 : x = 0
  · subst e0
    refine v_tsi hC dX11_count_1 (by decide) (by decide) (off := 83) (by rfl) (tgt := 84) (by decide) ?_
    refine v_aload_n hC dX11_count_84 rfl rfl ?_
    refine v_iconst (v := 0) hC dX11_count_85 (by decide) ?_
    refine cVi1 hC (c_X11_number (v := 0) hW ht (j := 0) (ix_e (by decide) (by decide) (by decide)) (by rw [l0]; rfl)) yv_X11_number rfl ht mw_4_165 ⟨Nat.le_of_ble_eq_true rfl, Nat.le_of_ble_eq_true rfl⟩ ⟨Nat.le_of_ble_eq_true rfl, Nat.le_of_ble_eq_true rfl⟩ (Nat.le_of_ble_eq_true rfl) dX11_count_86 (fun r86 M88 hq => ?_)
    obtain ⟨rfl, hm⟩ := hq
    have hm2 := hm.symm
    clear hm
    subst hm2
    refine v_iret hC dX11_count_89 ?_
    exact ⟨by decide, rfl⟩
  by_cases e1 : x = 1
  · subst e1
    refine v_tsi hC dX11_count_1 (by decide) (by decide) (off := 89) (by rfl) (tgt := 90) (by decide) ?_
    refine v_aload_n hC dX11_count_90 rfl rfl ?_
    refine v_iconst (v := 0) hC dX11_count_91 (by decide) ?_
    refine v_iconst (v := 2) hC dX11_count_92 (by decide) ?_
    refine v_iconst (v := 0) hC dX11_count_93 (by decide) ?_
    refine cVi3 hC (c_X11_sum0 hW ht l0) yv_X11_sum rfl ht mw_6_27 ⟨Nat.le_of_ble_eq_true rfl, Nat.le_of_ble_eq_true rfl⟩ ⟨Nat.le_of_ble_eq_true rfl, Nat.le_of_ble_eq_true rfl⟩ (Nat.le_of_ble_eq_true rfl) dX11_count_94 (fun r94 M96 hq => ?_)
    obtain ⟨rfl, hm⟩ := hq
    have hm2 := hm.symm
    clear hm
    subst hm2
    refine v_iret hC dX11_count_97 ?_
    exact ⟨by decide, rfl⟩
  by_cases e2 : x = 2
  · subst e2
    refine v_tsi hC dX11_count_1 (by decide) (by decide) (off := 97) (by rfl) (tgt := 98) (by decide) ?_
    refine v_aload_n hC dX11_count_98 rfl rfl ?_
    refine v_iconst (v := 1) hC dX11_count_99 (by decide) ?_
    refine cVi1 hC (c_X11_number (v := 0) hW ht (j := 1) (ix_e (by decide) (by decide) (by decide)) (by rw [l1]; rfl)) yv_X11_number rfl ht mw_4_165 ⟨Nat.le_of_ble_eq_true rfl, Nat.le_of_ble_eq_true rfl⟩ ⟨Nat.le_of_ble_eq_true rfl, Nat.le_of_ble_eq_true rfl⟩ (Nat.le_of_ble_eq_true rfl) dX11_count_100 (fun r100 M102 hq => ?_)
    obtain ⟨rfl, hm⟩ := hq
    have hm2 := hm.symm
    clear hm
    subst hm2
    refine v_iret hC dX11_count_103 ?_
    exact ⟨by decide, rfl⟩
  by_cases e3 : x = 3
  · subst e3
    refine v_tsi hC dX11_count_1 (by decide) (by decide) (off := 103) (by rfl) (tgt := 104) (by decide) ?_
    refine v_aload_n hC dX11_count_104 rfl rfl ?_
    refine v_iconst (v := 2) hC dX11_count_105 (by decide) ?_
    refine cVi1 hC (c_X11_number (v := 0) hW ht (j := 2) (ix_e (by decide) (by decide) (by decide)) (by rw [l2]; rfl)) yv_X11_number rfl ht mw_4_165 ⟨Nat.le_of_ble_eq_true rfl, Nat.le_of_ble_eq_true rfl⟩ ⟨Nat.le_of_ble_eq_true rfl, Nat.le_of_ble_eq_true rfl⟩ (Nat.le_of_ble_eq_true rfl) dX11_count_106 (fun r106 M108 hq => ?_)
    obtain ⟨rfl, hm⟩ := hq
    have hm2 := hm.symm
    clear hm
    subst hm2
    refine v_iret hC dX11_count_109 ?_
    exact ⟨by decide, rfl⟩
  by_cases e4 : x = 4
  · subst e4
    refine v_tsi hC dX11_count_1 (by decide) (by decide) (off := 109) (by rfl) (tgt := 110) (by decide) ?_
    refine v_aload_n hC dX11_count_110 rfl rfl ?_
    refine v_iconst (v := 3) hC dX11_count_111 (by decide) ?_
    refine cVi1 hC (c_X11_number (v := 0) hW ht (j := 3) (ix_e (by decide) (by decide) (by decide)) (by rw [l3]; rfl)) yv_X11_number rfl ht mw_4_165 ⟨Nat.le_of_ble_eq_true rfl, Nat.le_of_ble_eq_true rfl⟩ ⟨Nat.le_of_ble_eq_true rfl, Nat.le_of_ble_eq_true rfl⟩ (Nat.le_of_ble_eq_true rfl) dX11_count_112 (fun r112 M114 hq => ?_)
    obtain ⟨rfl, hm⟩ := hq
    have hm2 := hm.symm
    clear hm
    subst hm2
    refine v_iret hC dX11_count_115 ?_
    exact ⟨by decide, rfl⟩
  by_cases e5 : x = 5
  · subst e5
    refine v_tsi hC dX11_count_1 (by decide) (by decide) (off := 115) (by rfl) (tgt := 116) (by decide) ?_
    refine v_aload_n hC dX11_count_116 rfl rfl ?_
    refine cVi0 hC (c_X11_openDisputes0 hW ht l3) yv_X11_openDisputes rfl ht mw_6_31 ⟨Nat.le_of_ble_eq_true rfl, Nat.le_of_ble_eq_true rfl⟩ ⟨Nat.le_of_ble_eq_true rfl, Nat.le_of_ble_eq_true rfl⟩ (Nat.le_of_ble_eq_true rfl) dX11_count_117 (fun r117 M119 hq => ?_)
    obtain ⟨rfl, hm⟩ := hq
    have hm2 := hm.symm
    clear hm
    subst hm2
    refine v_iret hC dX11_count_120 ?_
    exact ⟨by decide, rfl⟩
  by_cases e6 : x = 6
  · subst e6
    refine v_tsi hC dX11_count_1 (by decide) (by decide) (off := 120) (by rfl) (tgt := 121) (by decide) ?_
    refine v_aload_n hC dX11_count_121 rfl rfl ?_
    refine v_iconst (v := 0) hC dX11_count_122 (by decide) ?_
    refine v_iconst (v := 2) hC dX11_count_123 (by decide) ?_
    refine v_iconst (v := 1) hC dX11_count_124 (by decide) ?_
    refine cVi3 hC (c_X11_sum0 hW ht l0) yv_X11_sum rfl ht mw_6_27 ⟨Nat.le_of_ble_eq_true rfl, Nat.le_of_ble_eq_true rfl⟩ ⟨Nat.le_of_ble_eq_true rfl, Nat.le_of_ble_eq_true rfl⟩ (Nat.le_of_ble_eq_true rfl) dX11_count_125 (fun r125 M127 hq => ?_)
    obtain ⟨rfl, hm⟩ := hq
    have hm2 := hm.symm
    clear hm
    subst hm2
    refine v_iret hC dX11_count_128 ?_
    exact ⟨by decide, rfl⟩
  by_cases e7 : x = 7
  · subst e7
    refine v_tsi hC dX11_count_1 (by decide) (by decide) (off := 128) (by rfl) (tgt := 129) (by decide) ?_
    refine v_aload_n hC dX11_count_129 rfl rfl ?_
    refine v_iconst (v := 3) hC dX11_count_130 (by decide) ?_
    refine v_iconst (v := 3) hC dX11_count_131 (by decide) ?_
    refine v_iconst (v := 1) hC dX11_count_132 (by decide) ?_
    refine cVi3 hC (c_X11_sum0 hW ht l0) yv_X11_sum rfl ht mw_6_27 ⟨Nat.le_of_ble_eq_true rfl, Nat.le_of_ble_eq_true rfl⟩ ⟨Nat.le_of_ble_eq_true rfl, Nat.le_of_ble_eq_true rfl⟩ (Nat.le_of_ble_eq_true rfl) dX11_count_133 (fun r133 M135 hq => ?_)
    obtain ⟨rfl, hm⟩ := hq
    have hm2 := hm.symm
    clear hm
    subst hm2
    refine v_iret hC dX11_count_136 ?_
    exact ⟨by decide, rfl⟩
  by_cases e8 : x = 8
  · subst e8
    refine v_tsi hC dX11_count_1 (by decide) (by decide) (off := 136) (by rfl) (tgt := 137) (by decide) ?_
    refine v_aload_n hC dX11_count_137 rfl rfl ?_
    refine cVi0 hC (c_X11_allPaid0 hW ht l1) yv_X11_allPaid rfl ht mw_6_35 ⟨Nat.le_of_ble_eq_true rfl, Nat.le_of_ble_eq_true rfl⟩ ⟨Nat.le_of_ble_eq_true rfl, Nat.le_of_ble_eq_true rfl⟩ (Nat.le_of_ble_eq_true rfl) dX11_count_138 (fun r138 M140 hq => ?_)
    obtain ⟨rfl, hm⟩ := hq
    have hm2 := hm.symm
    clear hm
    subst hm2
    refine v_iret hC dX11_count_141 ?_
    exact ⟨by decide, rfl⟩
  by_cases e9 : x = 9
  · subst e9
    refine v_tsi hC dX11_count_1 (by decide) (by decide) (off := 141) (by rfl) (tgt := 142) (by decide) ?_
    refine v_aload_n hC dX11_count_142 rfl rfl ?_
    refine v_iconst (v := 0) hC dX11_count_143 (by decide) ?_
    refine v_iconst (v := 2) hC dX11_count_144 (by decide) ?_
    refine v_iconst (v := 2) hC dX11_count_145 (by decide) ?_
    refine cVi3 hC (c_X11_sum0 hW ht l0) yv_X11_sum rfl ht mw_6_27 ⟨Nat.le_of_ble_eq_true rfl, Nat.le_of_ble_eq_true rfl⟩ ⟨Nat.le_of_ble_eq_true rfl, Nat.le_of_ble_eq_true rfl⟩ (Nat.le_of_ble_eq_true rfl) dX11_count_146 (fun r146 M148 hq => ?_)
    obtain ⟨rfl, hm⟩ := hq
    have hm2 := hm.symm
    clear hm
    subst hm2
    refine v_iret hC dX11_count_149 ?_
    exact ⟨by decide, rfl⟩
  by_cases e10 : x = 10
  · subst e10
    refine v_tsi hC dX11_count_1 (by decide) (by decide) (off := 159) (by rfl) (tgt := 160) (by decide) ?_
    refine v_iload_n hC dX11_count_160 rfl rfl ?_
    refine v_bipush (v := 10) hC dX11_count_161 (by decide) ?_
    refine v_bipush (v := 14) hC dX11_count_163 (by decide) ?_
    refine cSi3 hC (c_X11_in ) ys_X11_in mw_4_181 ⟨Nat.le_of_ble_eq_true rfl, Nat.le_of_ble_eq_true rfl⟩ ⟨Nat.le_of_ble_eq_true rfl, Nat.le_of_ble_eq_true rfl⟩ (Nat.le_of_ble_eq_true rfl) dX11_count_165 (fun r165 M167 hq => ?_)
    obtain ⟨hm, hq2⟩ := hq
    have hm2 := hm.symm
    clear hm
    subst hm2
    obtain ⟨g165, rfl⟩ | ⟨g165, rfl⟩ := hq2
    · refine v_if_eq hC dX11_count_168 (tgt := 182) (by decide) (fun hx => absurd hx (by decide)) (fun _ => ?_)
      refine v_aload_n hC dX11_count_171 rfl rfl ?_
      refine v_iload_n hC dX11_count_172 rfl rfl ?_
      refine v_bipush (v := 10) hC dX11_count_173 (by decide) ?_
      refine v_isub hC dX11_count_175 ?_
      refine cVi1 hC (c_X11_allInWay0 hW ht l0) yv_X11_allInWay rfl ht mw_6_39 ⟨Nat.le_of_ble_eq_true rfl, Nat.le_of_ble_eq_true rfl⟩ ⟨Nat.le_of_ble_eq_true rfl, Nat.le_of_ble_eq_true rfl⟩ (Nat.le_of_ble_eq_true rfl) dX11_count_176 (fun r176 M178 hq => ?_)
      obtain ⟨rfl, hm⟩ := hq
      have hm2 := hm.symm
      clear hm
      subst hm2
      refine v_goto hC dX11_count_179 (tgt := 184) (by decide) ?_
      refine v_iret hC dX11_count_184 ?_
      exact ⟨by decide, rfl⟩
    · exact absurd (by decide) g165
  by_cases e11 : x = 11
  · subst e11
    refine v_tsi hC dX11_count_1 (by decide) (by decide) (off := 159) (by rfl) (tgt := 160) (by decide) ?_
    refine v_iload_n hC dX11_count_160 rfl rfl ?_
    refine v_bipush (v := 10) hC dX11_count_161 (by decide) ?_
    refine v_bipush (v := 14) hC dX11_count_163 (by decide) ?_
    refine cSi3 hC (c_X11_in ) ys_X11_in mw_4_181 ⟨Nat.le_of_ble_eq_true rfl, Nat.le_of_ble_eq_true rfl⟩ ⟨Nat.le_of_ble_eq_true rfl, Nat.le_of_ble_eq_true rfl⟩ (Nat.le_of_ble_eq_true rfl) dX11_count_165 (fun r165 M167 hq => ?_)
    obtain ⟨hm, hq2⟩ := hq
    have hm2 := hm.symm
    clear hm
    subst hm2
    obtain ⟨g165, rfl⟩ | ⟨g165, rfl⟩ := hq2
    · refine v_if_eq hC dX11_count_168 (tgt := 182) (by decide) (fun hx => absurd hx (by decide)) (fun _ => ?_)
      refine v_aload_n hC dX11_count_171 rfl rfl ?_
      refine v_iload_n hC dX11_count_172 rfl rfl ?_
      refine v_bipush (v := 10) hC dX11_count_173 (by decide) ?_
      refine v_isub hC dX11_count_175 ?_
      refine cVi1 hC (c_X11_allInWay0 hW ht l0) yv_X11_allInWay rfl ht mw_6_39 ⟨Nat.le_of_ble_eq_true rfl, Nat.le_of_ble_eq_true rfl⟩ ⟨Nat.le_of_ble_eq_true rfl, Nat.le_of_ble_eq_true rfl⟩ (Nat.le_of_ble_eq_true rfl) dX11_count_176 (fun r176 M178 hq => ?_)
      obtain ⟨rfl, hm⟩ := hq
      have hm2 := hm.symm
      clear hm
      subst hm2
      refine v_goto hC dX11_count_179 (tgt := 184) (by decide) ?_
      refine v_iret hC dX11_count_184 ?_
      exact ⟨by decide, rfl⟩
    · exact absurd (by decide) g165
  by_cases e12 : x = 12
  · subst e12
    refine v_tsi hC dX11_count_1 (by decide) (by decide) (off := 159) (by rfl) (tgt := 160) (by decide) ?_
    refine v_iload_n hC dX11_count_160 rfl rfl ?_
    refine v_bipush (v := 10) hC dX11_count_161 (by decide) ?_
    refine v_bipush (v := 14) hC dX11_count_163 (by decide) ?_
    refine cSi3 hC (c_X11_in ) ys_X11_in mw_4_181 ⟨Nat.le_of_ble_eq_true rfl, Nat.le_of_ble_eq_true rfl⟩ ⟨Nat.le_of_ble_eq_true rfl, Nat.le_of_ble_eq_true rfl⟩ (Nat.le_of_ble_eq_true rfl) dX11_count_165 (fun r165 M167 hq => ?_)
    obtain ⟨hm, hq2⟩ := hq
    have hm2 := hm.symm
    clear hm
    subst hm2
    obtain ⟨g165, rfl⟩ | ⟨g165, rfl⟩ := hq2
    · refine v_if_eq hC dX11_count_168 (tgt := 182) (by decide) (fun hx => absurd hx (by decide)) (fun _ => ?_)
      refine v_aload_n hC dX11_count_171 rfl rfl ?_
      refine v_iload_n hC dX11_count_172 rfl rfl ?_
      refine v_bipush (v := 10) hC dX11_count_173 (by decide) ?_
      refine v_isub hC dX11_count_175 ?_
      refine cVi1 hC (c_X11_allInWay0 hW ht l0) yv_X11_allInWay rfl ht mw_6_39 ⟨Nat.le_of_ble_eq_true rfl, Nat.le_of_ble_eq_true rfl⟩ ⟨Nat.le_of_ble_eq_true rfl, Nat.le_of_ble_eq_true rfl⟩ (Nat.le_of_ble_eq_true rfl) dX11_count_176 (fun r176 M178 hq => ?_)
      obtain ⟨rfl, hm⟩ := hq
      have hm2 := hm.symm
      clear hm
      subst hm2
      refine v_goto hC dX11_count_179 (tgt := 184) (by decide) ?_
      refine v_iret hC dX11_count_184 ?_
      exact ⟨by decide, rfl⟩
    · exact absurd (by decide) g165
  by_cases e13 : x = 13
  · subst e13
    refine v_tsi hC dX11_count_1 (by decide) (by decide) (off := 159) (by rfl) (tgt := 160) (by decide) ?_
    refine v_iload_n hC dX11_count_160 rfl rfl ?_
    refine v_bipush (v := 10) hC dX11_count_161 (by decide) ?_
    refine v_bipush (v := 14) hC dX11_count_163 (by decide) ?_
    refine cSi3 hC (c_X11_in ) ys_X11_in mw_4_181 ⟨Nat.le_of_ble_eq_true rfl, Nat.le_of_ble_eq_true rfl⟩ ⟨Nat.le_of_ble_eq_true rfl, Nat.le_of_ble_eq_true rfl⟩ (Nat.le_of_ble_eq_true rfl) dX11_count_165 (fun r165 M167 hq => ?_)
    obtain ⟨hm, hq2⟩ := hq
    have hm2 := hm.symm
    clear hm
    subst hm2
    obtain ⟨g165, rfl⟩ | ⟨g165, rfl⟩ := hq2
    · refine v_if_eq hC dX11_count_168 (tgt := 182) (by decide) (fun hx => absurd hx (by decide)) (fun _ => ?_)
      refine v_aload_n hC dX11_count_171 rfl rfl ?_
      refine v_iload_n hC dX11_count_172 rfl rfl ?_
      refine v_bipush (v := 10) hC dX11_count_173 (by decide) ?_
      refine v_isub hC dX11_count_175 ?_
      refine cVi1 hC (c_X11_allInWay0 hW ht l0) yv_X11_allInWay rfl ht mw_6_39 ⟨Nat.le_of_ble_eq_true rfl, Nat.le_of_ble_eq_true rfl⟩ ⟨Nat.le_of_ble_eq_true rfl, Nat.le_of_ble_eq_true rfl⟩ (Nat.le_of_ble_eq_true rfl) dX11_count_176 (fun r176 M178 hq => ?_)
      obtain ⟨rfl, hm⟩ := hq
      have hm2 := hm.symm
      clear hm
      subst hm2
      refine v_goto hC dX11_count_179 (tgt := 184) (by decide) ?_
      refine v_iret hC dX11_count_184 ?_
      exact ⟨by decide, rfl⟩
    · exact absurd (by decide) g165
  by_cases e14 : x = 14
  · subst e14
    refine v_tsi hC dX11_count_1 (by decide) (by decide) (off := 159) (by rfl) (tgt := 160) (by decide) ?_
    refine v_iload_n hC dX11_count_160 rfl rfl ?_
    refine v_bipush (v := 10) hC dX11_count_161 (by decide) ?_
    refine v_bipush (v := 14) hC dX11_count_163 (by decide) ?_
    refine cSi3 hC (c_X11_in ) ys_X11_in mw_4_181 ⟨Nat.le_of_ble_eq_true rfl, Nat.le_of_ble_eq_true rfl⟩ ⟨Nat.le_of_ble_eq_true rfl, Nat.le_of_ble_eq_true rfl⟩ (Nat.le_of_ble_eq_true rfl) dX11_count_165 (fun r165 M167 hq => ?_)
    obtain ⟨hm, hq2⟩ := hq
    have hm2 := hm.symm
    clear hm
    subst hm2
    obtain ⟨g165, rfl⟩ | ⟨g165, rfl⟩ := hq2
    · refine v_if_eq hC dX11_count_168 (tgt := 182) (by decide) (fun hx => absurd hx (by decide)) (fun _ => ?_)
      refine v_aload_n hC dX11_count_171 rfl rfl ?_
      refine v_iload_n hC dX11_count_172 rfl rfl ?_
      refine v_bipush (v := 10) hC dX11_count_173 (by decide) ?_
      refine v_isub hC dX11_count_175 ?_
      refine cVi1 hC (c_X11_allInWay0 hW ht l0) yv_X11_allInWay rfl ht mw_6_39 ⟨Nat.le_of_ble_eq_true rfl, Nat.le_of_ble_eq_true rfl⟩ ⟨Nat.le_of_ble_eq_true rfl, Nat.le_of_ble_eq_true rfl⟩ (Nat.le_of_ble_eq_true rfl) dX11_count_176 (fun r176 M178 hq => ?_)
      obtain ⟨rfl, hm⟩ := hq
      have hm2 := hm.symm
      clear hm
      subst hm2
      refine v_goto hC dX11_count_179 (tgt := 184) (by decide) ?_
      refine v_iret hC dX11_count_184 ?_
      exact ⟨by decide, rfl⟩
    · exact absurd (by decide) g165
  by_cases e15 : x = 15
  · subst e15
    refine v_tsi hC dX11_count_1 (by decide) (by decide) (off := 149) (by rfl) (tgt := 150) (by decide) ?_
    refine v_aload_n hC dX11_count_150 rfl rfl ?_
    refine gf_11_3 hC ht mw_4_123 dX11_count_151 ?_
    rw [h279]
    refine v_iret hC dX11_count_154 ?_
    exact ⟨by decide, rfl⟩
  by_cases e16 : x = 16
  · subst e16
    refine v_tsi hC dX11_count_1 (by decide) (by decide) (off := 154) (by rfl) (tgt := 155) (by decide) ?_
    refine v_aload_n hC dX11_count_155 rfl rfl ?_
    refine gf_11_6 hC ht mw_4_126 dX11_count_156 ?_
    rw [h282]
    refine v_iret hC dX11_count_159 ?_
    exact ⟨by decide, rfl⟩
  have hout : x.toInt < 0 ∨ 16 < x.toInt := by
    have q0 := lv_neT e0 (a := 0) rfl
    have q1 := lv_neT e1 (a := 1) rfl
    have q2 := lv_neT e2 (a := 2) rfl
    have q3 := lv_neT e3 (a := 3) rfl
    have q4 := lv_neT e4 (a := 4) rfl
    have q5 := lv_neT e5 (a := 5) rfl
    have q6 := lv_neT e6 (a := 6) rfl
    have q7 := lv_neT e7 (a := 7) rfl
    have q8 := lv_neT e8 (a := 8) rfl
    have q9 := lv_neT e9 (a := 9) rfl
    have q10 := lv_neT e10 (a := 10) rfl
    have q11 := lv_neT e11 (a := 11) rfl
    have q12 := lv_neT e12 (a := 12) rfl
    have q13 := lv_neT e13 (a := 13) rfl
    have q14 := lv_neT e14 (a := 14) rfl
    have q15 := lv_neT e15 (a := 15) rfl
    have q16 := lv_neT e16 (a := 16) rfl
    omega
  refine v_tso hC dX11_count_1 hout (tgt := 160) (by decide) ?_
  refine v_iload_n hC dX11_count_160 rfl rfl ?_
  refine v_bipush (v := 10) hC dX11_count_161 (by decide) ?_
  refine v_bipush (v := 14) hC dX11_count_163 (by decide) ?_
  refine cSi3 hC (c_X11_in ) ys_X11_in mw_4_181 ⟨Nat.le_of_ble_eq_true rfl, Nat.le_of_ble_eq_true rfl⟩ ⟨Nat.le_of_ble_eq_true rfl, Nat.le_of_ble_eq_true rfl⟩ (Nat.le_of_ble_eq_true rfl) dX11_count_165 (fun r165 M167 hq => ?_)
  obtain ⟨hm, hq2⟩ := hq
  have hm2 := hm.symm
  clear hm
  subst hm2
  obtain ⟨g165, rfl⟩ | ⟨g165, rfl⟩ := hq2
  · exact (i_out g165 hout (by decide) (by decide)).elim
  · refine v_if_eq hC dX11_count_168 (tgt := 182) (by decide) (fun _ => ?_) (fun hx => absurd hx (by decide))
    refine v_bipush (v := (-2)) hC dX11_count_182 (by decide) ?_
    refine v_iret hC dX11_count_184 ?_
    exact ⟨by rw [if_pos hout], rfl⟩
