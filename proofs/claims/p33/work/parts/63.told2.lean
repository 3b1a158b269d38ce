theorem ly_D2x {M : Me} {S d : Nat} (h : LY M S) (hd : d < 10) : pD M (S + 43) d = cA S 13 d := ly_D2 h hd
set_option maxHeartbeats 4000000 in
set_option maxRecDepth 100000 in
theorem c_X10_distance {l : Launch} {G : Gd} {M : Me} {h n : Nat} {x : Xs} {y z w : Int32} (hW : Wt M) (hB : BR M h n x) : CQ (Qi G (fun r M2 => r = e_distance (x_u x) y z w ∧ Bx M M2)) l G yX10_distance cX10_distance 4 ((some .int)) 2 48 0 0 [.ref h, .int y, .int z, .int w] M := by
  refine c_of ([some (.ref h), some (.int y), some (.int z), some (.int w)] : Lo) RX10 "distance" (by decide) rfl rfl (Nat.le_of_ble_eq_true rfl) rfl (fun p e s m below meth c hC nw => ?_)
  have hR := hB.2.1
  have hnn := hB.1.1.2.2.2.2.2.2
  have hu := hR.2.1
  have u1 := hu.1
  have u2 := hu.2.1
  have u3 := hu.2.2.1
  have u4 := hu.2.2.2.1
  refine v_aload_n hC dX10_distance_0 rfl rfl ?_
  refine gf_10_1 hC hB.1.1.1 (wf_261 hW hB.1.1.1) mw_2_79 dX10_distance_1 ?_
  first | rw [hB.1.2.1.2.1] | erw [hB.1.2.1.2.1]
  refine v_iload_n hC dX10_distance_4 rfl rfl ?_
  refine v_iload_n hC dX10_distance_5 rfl rfl ?_
  refine cVi2 hC (c_X7_hasSegment hW hR.1.1.1 hR) yv_X7_hasSegment rfl hB.1.2.2.1.1.1.1 mw_3_93 ⟨Nat.le_of_ble_eq_true rfl, Nat.le_of_ble_eq_true rfl⟩ ⟨Nat.le_of_ble_eq_true rfl, Nat.le_of_ble_eq_true rfl⟩ (Nat.le_of_ble_eq_true rfl) dX10_distance_6 (fun r6 M8 hq => ?_)
  obtain ⟨hm, hq2⟩ := hq
  have hm2 := hm.symm
  clear hm
  subst hm2
  obtain ⟨g6, rfl⟩ | ⟨g6, rfl⟩ := hq2
  · refine v_if_eq hC dX10_distance_9 (tgt := 26) (by decide) (fun hx => absurd hx (by decide)) (fun _ => ?_)
    obtain ⟨f, t, hf, ht9, rfl, rfl⟩ := g6
    have h8 : f < 8 := by have := hu.1; omega
    have hF : m_t M (cA (n + 7) 4 f) = 10 := by rw [← ly_F2 hR.1 h8]; exact we_51 hW (wf_215 hW hR.1.1.1) h8
    have h12s := hu.2.2.2.2 f hf
    have h12 : t < 12 := by omega
    have hG : SgR M (m_r M 52 (m_r M 250 (cA (n + 7) 4 f) 0) t) (q_g (x_u x) 0 f t) := (hR.fs2 hf).2.2 t ht9
    refine v_aload_n hC dX10_distance_12 rfl rfl ?_
    refine gf_10_1 hC hB.1.1.1 (wf_261 hW hB.1.1.1) mw_2_79 dX10_distance_13 ?_
    first | rw [hB.1.2.1.2.1] | erw [hB.1.2.1.2.1]
    refine gf_7_6 hC hB.1.2.2.1.1.1.1 (wf_218 hW hB.1.2.2.1.1.1.1) mw_2_41 dX10_distance_16 ?_
    refine v_iload_n hC dX10_distance_19 rfl rfl ?_
    refine cVi1 hC (c_X4_hasEntry (wf_218 hW hR.1.1.1) hR.ne.1 hu.2.2.1) yv_X4_hasEntry rfl (wf_218 hW hB.1.2.2.1.1.1.1) mw_4_29 ⟨Nat.le_of_ble_eq_true rfl, Nat.le_of_ble_eq_true rfl⟩ ⟨Nat.le_of_ble_eq_true rfl, Nat.le_of_ble_eq_true rfl⟩ (Nat.le_of_ble_eq_true rfl) dX10_distance_20 (fun r20 M22 hq => ?_)
    obtain ⟨hm, hq2⟩ := hq
    have hm2 := hm.symm
    clear hm
    subst hm2
    obtain ⟨g20, rfl⟩ | ⟨g20, rfl⟩ := hq2
    · refine v_if_ne hC dX10_distance_23 (tgt := 28) (by decide) (fun _ => ?_) (fun hx => absurd hx (by decide))
      obtain ⟨x1, he1, rfl⟩ := g20
      refine v_aload_n hC dX10_distance_28 rfl rfl ?_
      refine gf_10_1 hC hB.1.1.1 (wf_261 hW hB.1.1.1) mw_2_79 dX10_distance_29 ?_
      first | rw [hB.1.2.1.2.1] | erw [hB.1.2.1.2.1]
      refine gf_7_6 hC hB.1.2.2.1.1.1.1 (wf_218 hW hB.1.2.2.1.1.1.1) mw_2_41 dX10_distance_32 ?_
      refine v_aload_n hC dX10_distance_35 rfl rfl ?_
      refine gf_10_1 hC hB.1.1.1 (wf_261 hW hB.1.1.1) mw_2_79 dX10_distance_36 ?_
      first | rw [hB.1.2.1.2.1] | erw [hB.1.2.1.2.1]
      refine gf_7_3 hC hB.1.2.2.1.1.1.1 (wf_215 hW hB.1.2.2.1.1.1.1) mw_2_35 dX10_distance_39 ?_
      refine v_iload_n hC dX10_distance_42 rfl rfl ?_
      refine v_aald 51 _ hC (wf_215 hW hB.1.2.2.1.1.1.1) (by decide) rfl (ix_c (wz_51 hW (wf_215 hW hR.1.1.1)) h8) (we_51 hW (wf_215 hW hB.1.2.2.1.1.1.1) (by omega)) dX10_distance_43 ?_
      rw [ly_F2 hR.1 h8]
      refine gf_9_6 hC hF (wf_250 hW hF) mw_1_151 dX10_distance_44 ?_
      refine v_iload_n hC dX10_distance_47 rfl rfl ?_
      refine v_aald 52 _ hC (wf_250 hW hF) (by decide) rfl (ix_c (wz_52 hW (wf_250 hW hF)) h12) hG.1 dX10_distance_48 ?_
      refine v_iload_n hC dX10_distance_49 rfl rfl ?_
      refine cVi2 hC (c_X4_distanceTo hW (wf_218 hW hR.1.1.1) hR.es hG he1) yv_X4_distanceTo rfl (wf_218 hW hB.1.2.2.1.1.1.1) mw_4_30 ⟨Nat.le_of_ble_eq_true rfl, Nat.le_of_ble_eq_true rfl⟩ ⟨Nat.le_of_ble_eq_true rfl, Nat.le_of_ble_eq_true rfl⟩ (Nat.le_of_ble_eq_true rfl) dX10_distance_50 (fun r50 M52 hq => ?_)
      obtain ⟨rfl, hB9⟩ := hq
      refine v_iret hC dX10_distance_53 ?_
      exact ⟨by rw [e_distance, inN_s hf]; show _ = (match inN (nI t) (n_s (x_u x) f) with | none => _ | some s => _); rw [inN_s ht9 (by omega)]; show _ = (match inN (nI x1) (n_e (x_u x)) with | none => _ | some e => _); rw [inN_s he1], hB9.x⟩
    · refine v_if_ne hC dX10_distance_23 (tgt := 28) (by decide) (fun hx => absurd hx (by decide)) (fun _ => ?_)
      refine v_iconst (v := (-1)) hC dX10_distance_26 (by decide) ?_
      refine v_iret hC dX10_distance_27 ?_
      first
        | exact ⟨by rw [e_distance, inN_s hf]; show _ = (match inN (nI t) (n_s (x_u x) f) with | none => _ | some s => _); rw [inN_s ht9 (by omega)]; show _ = (match inN w (n_e (x_u x)) with | none => _ | some e => _); rw [inN_o g20], Bx.rf⟩
        | (exact ⟨by
             rw [e_distance]
             by_cases w1 : rgI y (n_f (x_u x))
             · obtain ⟨f, hf, rfl⟩ := w1
               rw [inN_s hf]
               by_cases w2 : rgI z (n_s (x_u x) f)
               · obtain ⟨t, ht9, rfl⟩ := w2
                 exact absurd ⟨f, t, hf, ht9, rfl, rfl⟩ g6
               · show _ = (match inN z (n_s (x_u x) f) with | none => _ | some s => _)
                 rw [inN_o w2 (by have := hu.2.2.2.2 f hf; omega)]
             · rw [inN_o w1], Bx.rf⟩)
  · refine v_if_eq hC dX10_distance_9 (tgt := 26) (by decide) (fun _ => ?_) (fun hx => absurd hx (by decide))
    refine v_iconst (v := (-1)) hC dX10_distance_26 (by decide) ?_
    refine v_iret hC dX10_distance_27 ?_
    first
      | exact ⟨by rw [e_distance, inN_s hf]; show _ = (match inN (nI t) (n_s (x_u x) f) with | none => _ | some s => _); rw [inN_s ht9 (by omega)]; show _ = (match inN w (n_e (x_u x)) with | none => _ | some e => _); rw [inN_o g20], Bx.rf⟩
      | (exact ⟨by
           rw [e_distance]
           by_cases w1 : rgI y (n_f (x_u x))
           · obtain ⟨f, hf, rfl⟩ := w1
             rw [inN_s hf]
             by_cases w2 : rgI z (n_s (x_u x) f)
             · obtain ⟨t, ht9, rfl⟩ := w2
               exact absurd ⟨f, t, hf, ht9, rfl, rfl⟩ g6
             · show _ = (match inN z (n_s (x_u x) f) with | none => _ | some s => _)
               rw [inN_o w2 (by have := hu.2.2.2.2 f hf; omega)]
           · rw [inN_o w1], Bx.rf⟩)

set_option maxHeartbeats 4000000 in
set_option maxRecDepth 100000 in
theorem c_X10_wordsIn {l : Launch} {G : Gd} {M : Me} {h n : Nat} {x : Xs} {y z : Int32} (hW : Wt M) (hB : BR M h n x) (hO : WfO (x_u x)) : CQ (Qi G (fun r M2 => r = e_wordsIn (x_u x) y z ∧ Bx M M2)) l G yX10_wordsIn cX10_wordsIn 3 ((some .int)) 5 119 0 0 [.ref h, .int y, .int z] M := by
  refine c_of ([some (.ref h), some (.int y), some (.int z)] : Lo) RX10 "wordsIn" (by decide) rfl rfl (Nat.le_of_ble_eq_true rfl) rfl (fun p e s m below meth c hC nw => ?_)
  have hR := hB.2.1
  have hnn := hB.1.1.2.2.2.2.2.2
  have hu := hR.2.1
  have u1 := hu.1
  have u2 := hu.2.1
  have u3 := hu.2.2.1
  have u4 := hu.2.2.2.1
  refine v_aload_n hC dX10_wordsIn_0 rfl rfl ?_
  refine gf_10_1 hC hB.1.1.1 (wf_261 hW hB.1.1.1) mw_2_79 dX10_wordsIn_1 ?_
  first | rw [hB.1.2.1.2.1] | erw [hB.1.2.1.2.1]
  refine v_iload_n hC dX10_wordsIn_4 rfl rfl ?_
  refine cVi1 hC (c_X7_hasFile hR.1.1.1 hR.2.2.2.1.1 hu.1) yv_X7_hasFile rfl hB.1.2.2.1.1.1.1 mw_2_193 ⟨Nat.le_of_ble_eq_true rfl, Nat.le_of_ble_eq_true rfl⟩ ⟨Nat.le_of_ble_eq_true rfl, Nat.le_of_ble_eq_true rfl⟩ (Nat.le_of_ble_eq_true rfl) dX10_wordsIn_5 (fun r5 M7 hq => ?_)
  obtain ⟨hm, hq2⟩ := hq
  have hm2 := hm.symm
  clear hm
  subst hm2
  obtain ⟨g5, rfl⟩ | ⟨g5, rfl⟩ := hq2
  · refine v_if_ne hC dX10_wordsIn_8 (tgt := 13) (by decide) (fun _ => ?_) (fun hx => absurd hx (by decide))
    obtain ⟨f, hf, rfl⟩ := g5
    have h8 : f < 8 := by have := hu.1; omega
    have hF : m_t M (cA (n + 7) 4 f) = 10 := by rw [← ly_F2 hR.1 h8]; exact we_51 hW (wf_215 hW hR.1.1.1) h8
    refine v_iload_n hC dX10_wordsIn_13 rfl rfl ?_
    refine cSi1 hC (c_X10_isBand ) ys_X10_isBand mw_2_165 ⟨Nat.le_of_ble_eq_true rfl, Nat.le_of_ble_eq_true rfl⟩ ⟨Nat.le_of_ble_eq_true rfl, Nat.le_of_ble_eq_true rfl⟩ (Nat.le_of_ble_eq_true rfl) dX10_wordsIn_14 (fun r14 M16 hq => ?_)
    obtain ⟨hm, hq2⟩ := hq
    have hm2 := hm.symm
    clear hm
    subst hm2
    obtain ⟨g14, rfl⟩ | ⟨g14, rfl⟩ := hq2
    · refine v_if_ne hC dX10_wordsIn_17 (tgt := 23) (by decide) (fun _ => ?_) (fun hx => absurd hx (by decide))
      obtain ⟨b1, hb1, rfl⟩ := g14
      refine v_aload_n hC dX10_wordsIn_23 rfl rfl ?_
      refine gf_10_1 hC hB.1.1.1 (wf_261 hW hB.1.1.1) mw_2_79 dX10_wordsIn_24 ?_
      first | rw [hB.1.2.1.2.1] | erw [hB.1.2.1.2.1]
      refine gf_7_3 hC hB.1.2.2.1.1.1.1 (wf_215 hW hB.1.2.2.1.1.1.1) mw_2_35 dX10_wordsIn_27 ?_
      refine v_iload_n hC dX10_wordsIn_30 rfl rfl ?_
      refine v_aald 51 _ hC (wf_215 hW hB.1.2.2.1.1.1.1) (by decide) rfl (ix_c (wz_51 hW (wf_215 hW hR.1.1.1)) h8) (we_51 hW (wf_215 hW hB.1.2.2.1.1.1.1) (by omega)) dX10_wordsIn_31 ?_
      rw [ly_F2 hR.1 h8]
      refine cVi0 hC (c_X9_isInHand hF) yv_X9_isInHand rfl hF mw_3_22 ⟨Nat.le_of_ble_eq_true rfl, Nat.le_of_ble_eq_true rfl⟩ ⟨Nat.le_of_ble_eq_true rfl, Nat.le_of_ble_eq_true rfl⟩ (Nat.le_of_ble_eq_true rfl) dX10_wordsIn_32 (fun r32 M34 hq => ?_)
      obtain ⟨hm, hq2⟩ := hq
      have hm2 := hm.symm
      clear hm
      subst hm2
      obtain ⟨g32, rfl⟩ | ⟨g32, rfl⟩ := hq2
      · rw [(hR.f42 hf).1] at g32
        refine v_if_ne hC dX10_wordsIn_35 (tgt := 41) (by decide) (fun _ => ?_) (fun hx => absurd hx (by decide))
        refine v_aload_n hC dX10_wordsIn_41 rfl rfl ?_
        refine gf_10_1 hC hB.1.1.1 (wf_261 hW hB.1.1.1) mw_2_79 dX10_wordsIn_42 ?_
        first | rw [hB.1.2.1.2.1] | erw [hB.1.2.1.2.1]
        refine v_iload_n hC dX10_wordsIn_45 rfl rfl ?_
        refine cVv1 hC (c_X7_sumBandWords hW hR.1.1.1 hR hO hf) yv_X7_sumBandWords rfl hB.1.2.2.1.1.1.1 mw_4_39 ⟨Nat.le_of_ble_eq_true rfl, Nat.le_of_ble_eq_true rfl⟩ ⟨Nat.le_of_ble_eq_true rfl, Nat.le_of_ble_eq_true rfl⟩ (Nat.le_of_ble_eq_true rfl) dX10_wordsIn_46 (fun M48 hq => ?_)
        obtain ⟨hB9, hw9⟩ := hq
        have hW9 := hW.bx hB9
        have hR9 : CR M48 (n + 7) (x_u x) := by obtain ⟨q, rfl⟩ := hB9; exact hR.sc
        have hB8 := hB.bx hB9
        have hkt9 : Kt M M48 := by obtain ⟨q, rfl⟩ := hB9; exact fun _ _ => rfl
        refine v_aload_n hC dX10_wordsIn_49 rfl rfl ?_
        refine gf_10_1 hC (hkt9.u hB.1.1.1) (wf_261 hW9 (hkt9.u hB.1.1.1)) mw_2_79 dX10_wordsIn_50 ?_
        rw [hB8.1.2.1.2.1]
        refine gf_7_7 hC hB8.1.2.2.1.1.1.1 (wf_219 hW9 hB8.1.2.2.1.1.1.1) mw_2_43 dX10_wordsIn_53 ?_
        refine v_iload_n hC dX10_wordsIn_56 rfl rfl ?_
        refine v_iald 22 hC (wf_219 hW9 hB8.1.2.2.1.1.1.1) (by decide) (by decide) (ix_c (wz_22 hW9 (wf_219 hW9 hR9.1.1.1)) hb1) dX10_wordsIn_57 ?_
        rw [hw9 b1 hb1]
        refine v_iret hC dX10_wordsIn_58 ?_
        exact ⟨by rw [e_wordsIn, inN_s hf]; show _ = (match inN (nI b1) 6 with | none => _ | some b => _); rw [inN_s hb1]; exact (if_pos g32).symm, hB9⟩
      · rw [(hR.f42 hf).1] at g32
        refine v_if_ne hC dX10_wordsIn_35 (tgt := 41) (by decide) (fun hx => absurd hx (by decide)) (fun _ => ?_)
        refine v_bipush (v := (-5)) hC dX10_wordsIn_38 (by decide) ?_
        refine v_iret hC dX10_wordsIn_40 ?_
        exact ⟨by rw [e_wordsIn, inN_s hf]; show _ = (match inN (nI b1) 6 with | none => _ | some b => _); rw [inN_s hb1]; exact (if_neg g32).symm, Bx.rf⟩
    · refine v_if_ne hC dX10_wordsIn_17 (tgt := 23) (by decide) (fun hx => absurd hx (by decide)) (fun _ => ?_)
      refine v_bipush (v := (-2)) hC dX10_wordsIn_20 (by decide) ?_
      refine v_iret hC dX10_wordsIn_22 ?_
      exact ⟨by rw [e_wordsIn, inN_s hf]; show _ = (match inN z 6 with | none => _ | some b => _); rw [inN_o g14], Bx.rf⟩
  · refine v_if_ne hC dX10_wordsIn_8 (tgt := 13) (by decide) (fun hx => absurd hx (by decide)) (fun _ => ?_)
    refine v_iconst (v := (-1)) hC dX10_wordsIn_11 (by decide) ?_
    refine v_iret hC dX10_wordsIn_12 ?_
    exact ⟨((by rw [e_wordsIn, inN_o g5] : e_wordsIn (x_u x) y z = -1)).symm, Bx.rf⟩

set_option maxHeartbeats 4000000 in
set_option maxRecDepth 100000 in
theorem c_X10_allWords {l : Launch} {G : Gd} {M : Me} {h n : Nat} {x : Xs} {y : Int32} (hW : Wt M) (hB : BR M h n x) (hO : WfO (x_u x)) : CQ (Qi G (fun r M2 => r = e_allWords (x_u x) y ∧ Bx M M2)) l G yX10_allWords cX10_allWords 4 ((some .int)) 5 119 0 0 [.ref h, .int y] M := by
  refine c_of ([some (.ref h), some (.int y), none, none] : Lo) RX10 "allWords" (by decide) rfl rfl (Nat.le_of_ble_eq_true rfl) rfl (fun p e s m below meth c hC nw => ?_)
  have hR := hB.2.1
  have hnn := hB.1.1.2.2.2.2.2.2
  have hu := hR.2.1
  have u1 := hu.1
  have u2 := hu.2.1
  have u3 := hu.2.2.1
  have u4 := hu.2.2.2.1
  have hR0 := hR
  have hB0 := hB
  have loop : ∀ (b1 : Nat), b1 < 6 → y = nI b1 → ∀ (k i : Nat) (M1 : Me), i + k = 9 → i ≤ n_f (x_u x) → Bx M M1 → V p l e (rmk 5 119 0 0) s m ([.ref h, .int y] : List Value).toArray below meth c 4 G (MQ below (Qi G (fun r M2 => r = e_allWords (x_u x) y ∧ Bx M M2)) ([.ref h, .int y] : List Value).toArray s 0 0 (fr_ G)) M1 0 0 14 ([some (.ref h), some (.int (nI b1)), some (.int (sm (T_aw (x_u x) b1) i)), some (.int (nI i))] : Lo) [] := by
    intro b1 hb1 ey k
    induction k with
    | zero => intro i M1 w1 w2; omega
    | succ k ih =>
      intro i M1 w1 w2 hBx
      obtain ⟨b, rfl⟩ := hBx
      have hW : Wt (s_c M b) := hW
      have hR : CR (s_c M b) (n + 7) (x_u x) := hR0.sc
      have hB := hB0.bx (M2 := s_c M b) ⟨b, rfl⟩
      refine v_iload_n hC dX10_allWords_14 rfl rfl ?_
      refine v_aload_n hC dX10_allWords_15 rfl rfl ?_
      refine gf_10_1 hC hB.1.1.1 (wf_261 hW hB.1.1.1) mw_2_79 dX10_allWords_16 ?_
      first | rw [hB.1.2.1.2.1] | erw [hB.1.2.1.2.1]
      refine gf_7_4 hC hB.1.2.2.1.1.1.1 mw_2_37 dX10_allWords_19 ?_
      rw [hR.2.2.2.1.1]
      refine v_icmp_ge hC dX10_allWords_22 (tgt := 66) (by decide) (fun h22 => ?_) (fun h22 => ?_)
      · have hi := lp_ge h22
        refine v_iload_n hC dX10_allWords_66 rfl rfl ?_
        refine v_iret hC dX10_allWords_67 ?_
        have hie : i = n_f (x_u x) := by omega
        exact ⟨by rw [ey, e_allWords, inN_s hb1, hie], ⟨b, rfl⟩⟩
      · have hi := lp_lt h22
        have hi8 : i < 8 := by omega
        refine v_aload_n hC dX10_allWords_25 rfl rfl ?_
        refine gf_10_1 hC hB.1.1.1 (wf_261 hW hB.1.1.1) mw_2_79 dX10_allWords_26 ?_
        first | rw [hB.1.2.1.2.1] | erw [hB.1.2.1.2.1]
        refine gf_7_3 hC hB.1.2.2.1.1.1.1 (wf_215 hW hB.1.2.2.1.1.1.1) mw_2_35 dX10_allWords_29 ?_
        refine v_iload_n hC dX10_allWords_32 rfl rfl ?_
        refine v_aald 51 _ hC (wf_215 hW hB.1.2.2.1.1.1.1) (by decide) rfl (ix_c (wz_51 hW (wf_215 hW hR.1.1.1)) hi8) (we_51 hW (wf_215 hW hB.1.2.2.1.1.1.1) (by omega)) dX10_allWords_33 ?_
        rw [ly_F2 hR.1 hi8]
        refine cVi0 hC (c_X9_isInHand (by rw [← ly_F2 hR.1 hi8]; exact we_51 hW (wf_215 hW hR.1.1.1) hi8)) yv_X9_isInHand rfl (by rw [← ly_F2 hR.1 hi8]; exact we_51 hW (wf_215 hW hR.1.1.1) hi8) mw_3_22 ⟨Nat.le_of_ble_eq_true rfl, Nat.le_of_ble_eq_true rfl⟩ ⟨Nat.le_of_ble_eq_true rfl, Nat.le_of_ble_eq_true rfl⟩ (Nat.le_of_ble_eq_true rfl) dX10_allWords_34 (fun r34 M36 hq => ?_)
        obtain ⟨hm, hq2⟩ := hq
        have hm2 := hm.symm
        clear hm
        subst hm2
        obtain ⟨g34, rfl⟩ | ⟨g34, rfl⟩ := hq2
        · rw [(hR.f42 hi).1] at g34
          refine v_if_eq hC dX10_allWords_37 (tgt := 60) (by decide) (fun hx => absurd hx (by decide)) (fun _ => ?_)
          refine v_aload_n hC dX10_allWords_40 rfl rfl ?_
          refine gf_10_1 hC hB.1.1.1 (wf_261 hW hB.1.1.1) mw_2_79 dX10_allWords_41 ?_
          first | rw [hB.1.2.1.2.1] | erw [hB.1.2.1.2.1]
          refine v_iload_n hC dX10_allWords_44 rfl rfl ?_
          refine cVv1 hC (c_X7_sumBandWords hW hR.1.1.1 hR hO hi) yv_X7_sumBandWords rfl hB.1.2.2.1.1.1.1 mw_4_39 ⟨Nat.le_of_ble_eq_true rfl, Nat.le_of_ble_eq_true rfl⟩ ⟨Nat.le_of_ble_eq_true rfl, Nat.le_of_ble_eq_true rfl⟩ (Nat.le_of_ble_eq_true rfl) dX10_allWords_45 (fun M47 hq => ?_)
          obtain ⟨hB9, hw9⟩ := hq
          obtain ⟨b2, rfl⟩ := Bx.tr ⟨b, rfl⟩ hB9
          have hW : Wt (s_c M b2) := hW
          have hR : CR (s_c M b2) (n + 7) (x_u x) := hR0.sc
          have hB := hB0.bx (M2 := s_c M b2) ⟨b2, rfl⟩
          refine v_iload_n hC dX10_allWords_48 rfl rfl ?_
          refine v_aload_n hC dX10_allWords_49 rfl rfl ?_
          refine gf_10_1 hC hB.1.1.1 (wf_261 hW hB.1.1.1) mw_2_79 dX10_allWords_50 ?_
          first | rw [hB.1.2.1.2.1] | erw [hB.1.2.1.2.1]
          refine gf_7_7 hC hB.1.2.2.1.1.1.1 (wf_219 hW hB.1.2.2.1.1.1.1) mw_2_43 dX10_allWords_53 ?_
          refine v_iload_n hC dX10_allWords_56 rfl rfl ?_
          refine v_iald 22 hC (wf_219 hW hB.1.2.2.1.1.1.1) (by decide) (by decide) (ix_c (wz_22 hW (wf_219 hW hR.1.1.1)) hb1) dX10_allWords_57 ?_
          rw [hw9 b1 hb1]
          refine v_iadd hC dX10_allWords_58 ?_
          rw [show sm (T_aw (x_u x) b1) i + wbn (x_u x) i b1 = sm (T_aw (x_u x) b1) (i + 1) from by rw [sm_s, T_aw, if_pos g34]]
          refine v_ist2 hC dX10_allWords_59 (by decide) (kk := ?_)
          first
            | (have zz : ¬ iH (x_u x) i := g34
               rw [show sm (T_aw (x_u x) b1) i = sm (T_aw (x_u x) b1) (i + 1) from by rw [sm_s, T_aw, if_neg zz, Int32.add_zero]])
            | skip
          refine v_inc3 hC dX10_allWords_60 ((nI_succ i).symm) (by decide) (kk := ?_)
          refine v_goto hC dX10_allWords_63 (tgt := 14) (by decide) ?_
          first
            | exact ih (i + 1) _ (by omega) (by omega) ⟨b2, rfl⟩
            | exact ih (i + 1) _ (by omega) (by omega) ⟨b, rfl⟩
        · rw [(hR.f42 hi).1] at g34
          refine v_if_eq hC dX10_allWords_37 (tgt := 60) (by decide) (fun _ => ?_) (fun hx => absurd hx (by decide))
          first
            | (have zz : ¬ iH (x_u x) i := g34
               rw [show sm (T_aw (x_u x) b1) i = sm (T_aw (x_u x) b1) (i + 1) from by rw [sm_s, T_aw, if_neg zz, Int32.add_zero]])
            | skip
          refine v_inc3 hC dX10_allWords_60 ((nI_succ i).symm) (by decide) (kk := ?_)
          refine v_goto hC dX10_allWords_63 (tgt := 14) (by decide) ?_
          first
            | exact ih (i + 1) _ (by omega) (by omega) ⟨b2, rfl⟩
            | exact ih (i + 1) _ (by omega) (by omega) ⟨b, rfl⟩
  refine v_iload_n hC dX10_allWords_0 rfl rfl ?_
  refine cSi1 hC (c_X10_isBand ) ys_X10_isBand mw_2_165 ⟨Nat.le_of_ble_eq_true rfl, Nat.le_of_ble_eq_true rfl⟩ ⟨Nat.le_of_ble_eq_true rfl, Nat.le_of_ble_eq_true rfl⟩ (Nat.le_of_ble_eq_true rfl) dX10_allWords_1 (fun r1 M3 hq => ?_)
  obtain ⟨hm, hq2⟩ := hq
  have hm2 := hm.symm
  clear hm
  subst hm2
  obtain ⟨g1, rfl⟩ | ⟨g1, rfl⟩ := hq2
  · refine v_if_ne hC dX10_allWords_4 (tgt := 10) (by decide) (fun _ => ?_) (fun hx => absurd hx (by decide))
    obtain ⟨b1, hb1, rfl⟩ := g1
    refine v_iconst (v := 0) hC dX10_allWords_10 (by decide) ?_
    refine v_ist2 hC dX10_allWords_11 (by decide) (kk := ?_)
    refine v_iconst (v := 0) hC dX10_allWords_12 (by decide) ?_
    refine v_ist3 hC dX10_allWords_13 (by decide) (kk := ?_)
    exact loop b1 hb1 rfl 9 0 M (by omega) (by omega) Bx.rf
  · refine v_if_ne hC dX10_allWords_4 (tgt := 10) (by decide) (fun hx => absurd hx (by decide)) (fun _ => ?_)
    refine v_bipush (v := (-2)) hC dX10_allWords_7 (by decide) ?_
    refine v_iret hC dX10_allWords_9 ?_
    exact ⟨((by rw [e_allWords, inN_o g1] : e_allWords (x_u x) y = -2)).symm, Bx.rf⟩

set_option maxHeartbeats 4000000 in
set_option maxRecDepth 100000 in
theorem c_X10_price {l : Launch} {G : Gd} {M : Me} {h n : Nat} {x : Xs} {y z : Int32} (hW : Wt M) (hB : BR M h n x) (hO : WfO (x_u x)) : CQ (Qi G (fun r M2 => r = e_price (x_u x) y z ∧ Bx M M2)) l G yX10_price cX10_price 3 ((some .int)) 6 143 0 0 [.ref h, .int y, .int z] M := by
  refine c_of ([some (.ref h), some (.int y), some (.int z)] : Lo) RX10 "price" (by decide) rfl rfl (Nat.le_of_ble_eq_true rfl) rfl (fun p e s m below meth c hC nw => ?_)
  have hR := hB.2.1
  have hnn := hB.1.1.2.2.2.2.2.2
  have hu := hR.2.1
  have u1 := hu.1
  have u2 := hu.2.1
  have u3 := hu.2.2.1
  have u4 := hu.2.2.2.1
  refine v_aload_n hC dX10_price_0 rfl rfl ?_
  refine gf_10_1 hC hB.1.1.1 (wf_261 hW hB.1.1.1) mw_2_79 dX10_price_1 ?_
  first | rw [hB.1.2.1.2.1] | erw [hB.1.2.1.2.1]
  refine v_iload_n hC dX10_price_4 rfl rfl ?_
  refine cVi1 hC (c_X7_hasFile hR.1.1.1 hR.2.2.2.1.1 hu.1) yv_X7_hasFile rfl hB.1.2.2.1.1.1.1 mw_2_193 ⟨Nat.le_of_ble_eq_true rfl, Nat.le_of_ble_eq_true rfl⟩ ⟨Nat.le_of_ble_eq_true rfl, Nat.le_of_ble_eq_true rfl⟩ (Nat.le_of_ble_eq_true rfl) dX10_price_5 (fun r5 M7 hq => ?_)
  obtain ⟨hm, hq2⟩ := hq
  have hm2 := hm.symm
  clear hm
  subst hm2
  obtain ⟨g5, rfl⟩ | ⟨g5, rfl⟩ := hq2
  · refine v_if_eq hC dX10_price_8 (tgt := 22) (by decide) (fun hx => absurd hx (by decide)) (fun _ => ?_)
    refine v_aload_n hC dX10_price_11 rfl rfl ?_
    refine gf_10_1 hC hB.1.1.1 (wf_261 hW hB.1.1.1) mw_2_79 dX10_price_12 ?_
    first | rw [hB.1.2.1.2.1] | erw [hB.1.2.1.2.1]
    refine v_iload_n hC dX10_price_15 rfl rfl ?_
    refine cVi1 hC (c_X7_hasPerson hR.1.1.1 hR.2.2.2.1.2.1 hu.2.1) yv_X7_hasPerson rfl hB.1.2.2.1.1.1.1 mw_2_143 ⟨Nat.le_of_ble_eq_true rfl, Nat.le_of_ble_eq_true rfl⟩ ⟨Nat.le_of_ble_eq_true rfl, Nat.le_of_ble_eq_true rfl⟩ (Nat.le_of_ble_eq_true rfl) dX10_price_16 (fun r16 M18 hq => ?_)
    obtain ⟨hm, hq2⟩ := hq
    have hm2 := hm.symm
    clear hm
    subst hm2
    obtain ⟨g16, rfl⟩ | ⟨g16, rfl⟩ := hq2
    · refine v_if_ne hC dX10_price_19 (tgt := 24) (by decide) (fun _ => ?_) (fun hx => absurd hx (by decide))
      obtain ⟨f, hf, rfl⟩ := g5
      obtain ⟨p0, hp, rfl⟩ := g16
      have hp6 : p0 < 6 := by omega
      have h8 : f < 8 := by have := hu.1; omega
      have hF : m_t M (cA (n + 7) 4 f) = 10 := by rw [← ly_F2 hR.1 h8]; exact we_51 hW (wf_215 hW hR.1.1.1) h8
      refine v_aload_n hC dX10_price_24 rfl rfl ?_
      refine gf_10_1 hC hB.1.1.1 (wf_261 hW hB.1.1.1) mw_2_79 dX10_price_25 ?_
      first | rw [hB.1.2.1.2.1] | erw [hB.1.2.1.2.1]
      refine gf_7_3 hC hB.1.2.2.1.1.1.1 (wf_215 hW hB.1.2.2.1.1.1.1) mw_2_35 dX10_price_28 ?_
      refine v_iload_n hC dX10_price_31 rfl rfl ?_
      refine v_aald 51 _ hC (wf_215 hW hB.1.2.2.1.1.1.1) (by decide) rfl (ix_c (wz_51 hW (wf_215 hW hR.1.1.1)) h8) (we_51 hW (wf_215 hW hB.1.2.2.1.1.1.1) (by omega)) dX10_price_32 ?_
      rw [ly_F2 hR.1 h8]
      refine cVi0 hC (c_X9_isInHand hF) yv_X9_isInHand rfl hF mw_3_22 ⟨Nat.le_of_ble_eq_true rfl, Nat.le_of_ble_eq_true rfl⟩ ⟨Nat.le_of_ble_eq_true rfl, Nat.le_of_ble_eq_true rfl⟩ (Nat.le_of_ble_eq_true rfl) dX10_price_33 (fun r33 M35 hq => ?_)
      obtain ⟨hm, hq2⟩ := hq
      have hm2 := hm.symm
      clear hm
      subst hm2
      obtain ⟨g33, rfl⟩ | ⟨g33, rfl⟩ := hq2
      · rw [(hR.f42 hf).1] at g33
        refine v_if_ne hC dX10_price_36 (tgt := 42) (by decide) (fun _ => ?_) (fun hx => absurd hx (by decide))
        refine v_aload_n hC dX10_price_42 rfl rfl ?_
        refine gf_10_1 hC hB.1.1.1 (wf_261 hW hB.1.1.1) mw_2_79 dX10_price_43 ?_
        first | rw [hB.1.2.1.2.1] | erw [hB.1.2.1.2.1]
        refine v_iload_n hC dX10_price_46 rfl rfl ?_
        refine v_aload_n hC dX10_price_47 rfl rfl ?_
        refine gf_10_1 hC hB.1.1.1 (wf_261 hW hB.1.1.1) mw_2_79 dX10_price_48 ?_
        first | rw [hB.1.2.1.2.1] | erw [hB.1.2.1.2.1]
        refine gf_7_1 hC hB.1.2.2.1.1.1.1 (wf_213 hW hB.1.2.2.1.1.1.1) mw_2_31 dX10_price_51 ?_
        refine v_iload_n hC dX10_price_54 rfl rfl ?_
        refine v_aald 50 _ hC (wf_213 hW hB.1.2.2.1.1.1.1) (by decide) rfl (ix_c (wz_50 hW (wf_213 hW hR.1.1.1)) hp6) (we_50 hW (wf_213 hW hB.1.2.2.1.1.1.1) (by omega)) dX10_price_55 ?_
        rw [ly_P2 hR.1 hp6]
        refine gf_5_0 hC (by rw [← ly_P2 hR.1 hp6]; exact we_50 hW (wf_213 hW hR.1.1.1) hp6) mw_1_104 dX10_price_56 ?_
        rw [(hR.pe2 hp).1]
        refine cVi2 hC (c_X7_priceFor hW hR.1.1.1 hR hO hf) yv_X7_priceFor rfl hB.1.2.2.1.1.1.1 mw_3_38 ⟨Nat.le_of_ble_eq_true rfl, Nat.le_of_ble_eq_true rfl⟩ ⟨Nat.le_of_ble_eq_true rfl, Nat.le_of_ble_eq_true rfl⟩ (Nat.le_of_ble_eq_true rfl) dX10_price_59 (fun r59 M61 hq => ?_)
        obtain ⟨rfl, hB9⟩ := hq
        refine v_iret hC dX10_price_62 ?_
        exact ⟨by rw [e_price, inN_s hf, inN_s hp]; exact (if_pos g33).symm, hB9⟩
      · rw [(hR.f42 hf).1] at g33
        refine v_if_ne hC dX10_price_36 (tgt := 42) (by decide) (fun hx => absurd hx (by decide)) (fun _ => ?_)
        refine v_bipush (v := (-5)) hC dX10_price_39 (by decide) ?_
        refine v_iret hC dX10_price_41 ?_
        exact ⟨by rw [e_price, inN_s hf, inN_s hp]; exact (if_neg g33).symm, Bx.rf⟩
    · refine v_if_ne hC dX10_price_19 (tgt := 24) (by decide) (fun hx => absurd hx (by decide)) (fun _ => ?_)
      refine v_iconst (v := (-1)) hC dX10_price_22 (by decide) ?_
      refine v_iret hC dX10_price_23 ?_
      exact ⟨by
        rw [e_price]
        first
          | rw [inN_o g5]
          | (rw [inN_o g16]
             split
             · rename_i q; cases q
             · rfl), Bx.rf⟩
  · refine v_if_eq hC dX10_price_8 (tgt := 22) (by decide) (fun _ => ?_) (fun hx => absurd hx (by decide))
    refine v_iconst (v := (-1)) hC dX10_price_22 (by decide) ?_
    refine v_iret hC dX10_price_23 ?_
    exact ⟨by
      rw [e_price]
      first
        | rw [inN_o g5]
        | (rw [inN_o g16]
           split
           · rename_i q; cases q
           · rfl), Bx.rf⟩

set_option maxHeartbeats 4000000 in
set_option maxRecDepth 100000 in
theorem c_X10_firstReviewer {l : Launch} {G : Gd} {M : Me} {h n : Nat} {x : Xs} {y : Int32} (hW : Wt M) (hB : BR M h n x) : CQ (Qi G (fun r M2 => r = e_firstReviewer (x_u x) y ∧ Bx M M2)) l G yX10_firstReviewer cX10_firstReviewer 3 ((some .int)) 2 44 0 0 [.ref h, .int y] M := by
  refine c_of ([some (.ref h), some (.int y), none] : Lo) RX10 "firstReviewer" (by decide) rfl rfl (Nat.le_of_ble_eq_true rfl) rfl (fun p e s m below meth c hC nw => ?_)
  have hR := hB.2.1
  have hnn := hB.1.1.2.2.2.2.2.2
  have hu := hR.2.1
  have u1 := hu.1
  have u2 := hu.2.1
  have u3 := hu.2.2.1
  have u4 := hu.2.2.2.1
  have loop : ∀ (f : Nat), f < n_f (x_u x) → y = nI f → ∀ (k i : Nat), i + k = 7 → i ≤ n_p (x_u x) → (∀ j, j < i → ¬ myB (x_u x) f (nI j) = true) → V p l e (rmk 2 44 0 0) s m ([.ref h, .int y] : List Value).toArray below meth c 3 G (MQ below (Qi G (fun r M2 => r = e_firstReviewer (x_u x) y ∧ Bx M M2)) ([.ref h, .int y] : List Value).toArray s 0 0 (fr_ G)) M 0 0 15 ([some (.ref h), some (.int (nI f)), some (.int (nI i))] : Lo) [] := by
    intro f hf ey k
    induction k with
    | zero => intro i w1 w2; omega
    | succ k ih =>
      intro i w1 w2 hI
      refine v_iload_n hC dX10_firstReviewer_15 rfl rfl ?_
      refine v_aload_n hC dX10_firstReviewer_16 rfl rfl ?_
      refine gf_10_1 hC hB.1.1.1 (wf_261 hW hB.1.1.1) mw_2_79 dX10_firstReviewer_17 ?_
      first | rw [hB.1.2.1.2.1] | erw [hB.1.2.1.2.1]
      refine gf_7_2 hC hB.1.2.2.1.1.1.1 mw_2_33 dX10_firstReviewer_20 ?_
      rw [hR.2.2.2.1.2.1]
      refine v_icmp_ge hC dX10_firstReviewer_23 (tgt := 46) (by decide) (fun h23 => ?_) (fun h23 => ?_)
      · have hi := lp_ge h23
        refine v_bipush (v := (-5)) hC dX10_firstReviewer_46 (by decide) ?_
        refine v_iret hC dX10_firstReviewer_48 ?_
        exact ⟨by rw [ey, e_firstReviewer, inN_s hf]; show _ = eN _; rw [fsN_o (fun j hj => hI j (by omega))]; rfl, Bx.rf⟩
      · have hi := lp_lt h23
        refine v_aload_n hC dX10_firstReviewer_26 rfl rfl ?_
        refine gf_10_1 hC hB.1.1.1 (wf_261 hW hB.1.1.1) mw_2_79 dX10_firstReviewer_27 ?_
        first | rw [hB.1.2.1.2.1] | erw [hB.1.2.1.2.1]
        refine v_iload_n hC dX10_firstReviewer_30 rfl rfl ?_
        refine v_iload_n hC dX10_firstReviewer_31 rfl rfl ?_
        refine cVi2 hC (c_X7_mayReview hW hR.1.1.1 hR hf) yv_X7_mayReview rfl hB.1.2.2.1.1.1.1 mw_3_136 ⟨Nat.le_of_ble_eq_true rfl, Nat.le_of_ble_eq_true rfl⟩ ⟨Nat.le_of_ble_eq_true rfl, Nat.le_of_ble_eq_true rfl⟩ (Nat.le_of_ble_eq_true rfl) dX10_firstReviewer_32 (fun r32 M34 hq => ?_)
        obtain ⟨hm, hq2⟩ := hq
        have hm2 := hm.symm
        clear hm
        subst hm2
        obtain ⟨g32, rfl⟩ | ⟨g32, rfl⟩ := hq2
        · refine v_if_eq hC dX10_firstReviewer_35 (tgt := 40) (by decide) (fun hx => absurd hx (by decide)) (fun _ => ?_)
          refine v_iload_n hC dX10_firstReviewer_38 rfl rfl ?_
          refine v_iret hC dX10_firstReviewer_39 ?_
          exact ⟨by rw [ey, e_firstReviewer, inN_s hf]; show _ = eN _; rw [fsN_s hi ((myR_b (by omega)).mp g32) hI]; rfl, Bx.rf⟩
        · refine v_if_eq hC dX10_firstReviewer_35 (tgt := 40) (by decide) (fun _ => ?_) (fun hx => absurd hx (by decide))
          refine v_inc2 hC dX10_firstReviewer_40 ((nI_succ i).symm) (by decide) (kk := ?_)
          refine v_goto hC dX10_firstReviewer_43 (tgt := 15) (by decide) ?_
          exact ih (i + 1) (by omega) (by omega) (fun j hj => by
            by_cases q : j = i
            · subst q; exact fun z => g32 ((myR_b (by omega)).mpr z)
            · exact hI j (by omega))
  refine v_aload_n hC dX10_firstReviewer_0 rfl rfl ?_
  refine gf_10_1 hC hB.1.1.1 (wf_261 hW hB.1.1.1) mw_2_79 dX10_firstReviewer_1 ?_
  first | rw [hB.1.2.1.2.1] | erw [hB.1.2.1.2.1]
  refine v_iload_n hC dX10_firstReviewer_4 rfl rfl ?_
  refine cVi1 hC (c_X7_hasFile hR.1.1.1 hR.2.2.2.1.1 hu.1) yv_X7_hasFile rfl hB.1.2.2.1.1.1.1 mw_2_193 ⟨Nat.le_of_ble_eq_true rfl, Nat.le_of_ble_eq_true rfl⟩ ⟨Nat.le_of_ble_eq_true rfl, Nat.le_of_ble_eq_true rfl⟩ (Nat.le_of_ble_eq_true rfl) dX10_firstReviewer_5 (fun r5 M7 hq => ?_)
  obtain ⟨hm, hq2⟩ := hq
  have hm2 := hm.symm
  clear hm
  subst hm2
  obtain ⟨g5, rfl⟩ | ⟨g5, rfl⟩ := hq2
  · refine v_if_ne hC dX10_firstReviewer_8 (tgt := 13) (by decide) (fun _ => ?_) (fun hx => absurd hx (by decide))
    obtain ⟨f, hf, rfl⟩ := g5
    refine v_iconst (v := 0) hC dX10_firstReviewer_13 (by decide) ?_
    refine v_ist2 hC dX10_firstReviewer_14 (by decide) (kk := ?_)
    exact loop f hf rfl 7 0 (by omega) (by omega) (fun j hj => absurd hj (Nat.not_lt_zero j))
  · refine v_if_ne hC dX10_firstReviewer_8 (tgt := 13) (by decide) (fun hx => absurd hx (by decide)) (fun _ => ?_)
    refine v_iconst (v := (-1)) hC dX10_firstReviewer_11 (by decide) ?_
    refine v_iret hC dX10_firstReviewer_12 ?_
    exact ⟨((by rw [e_firstReviewer, inN_o g5] : e_firstReviewer (x_u x) y = -1)).symm, Bx.rf⟩

set_option maxHeartbeats 4000000 in
set_option maxRecDepth 100000 in
theorem c_X10_entry {l : Launch} {G : Gd} {M : Me} {h n : Nat} {x : Xs} {y z : Int32} (hW : Wt M) (hB : BR M h n x) : CQ (Qi G (fun r M2 => r = e_entry (x_u x) y z ∧ Bx M M2)) l G yX10_entry cX10_entry 4 ((some .int)) 3 68 0 0 [.ref h, .int y, .int z] M := by
  refine c_of ([some (.ref h), some (.int y), some (.int z), none] : Lo) RX10 "entry" (by decide) rfl rfl (Nat.le_of_ble_eq_true rfl) rfl (fun p e s m below meth c hC nw => ?_)
  have hR := hB.2.1
  have hnn := hB.1.1.2.2.2.2.2.2
  have hu := hR.2.1
  have u1 := hu.1
  have u2 := hu.2.1
  have u3 := hu.2.2.1
  have u4 := hu.2.2.2.1
  have hM5 : m_t M (n + 7 + 43) = 5 := by rw [← ly_M hR.1]; exact wf_218 hW hR.1.1.1
  refine v_aload_n hC dX10_entry_0 rfl rfl ?_
  refine gf_10_1 hC hB.1.1.1 (wf_261 hW hB.1.1.1) mw_2_79 dX10_entry_1 ?_
  first | rw [hB.1.2.1.2.1] | erw [hB.1.2.1.2.1]
  refine gf_7_6 hC hB.1.2.2.1.1.1.1 (wf_218 hW hB.1.2.2.1.1.1.1) mw_2_41 dX10_entry_4 ?_
  rw [ly_M hR.1]
  refine v_iload_n hC dX10_entry_7 rfl rfl ?_
  refine cVi1 hC (c_X4_hasEntry hM5 hR.2.2.2.1.2.2.1 hu.2.2.1) yv_X4_hasEntry rfl hM5 mw_4_29 ⟨Nat.le_of_ble_eq_true rfl, Nat.le_of_ble_eq_true rfl⟩ ⟨Nat.le_of_ble_eq_true rfl, Nat.le_of_ble_eq_true rfl⟩ (Nat.le_of_ble_eq_true rfl) dX10_entry_8 (fun r8 M10 hq => ?_)
  obtain ⟨hm, hq2⟩ := hq
  have hm2 := hm.symm
  clear hm
  subst hm2
  obtain ⟨g8, rfl⟩ | ⟨g8, rfl⟩ := hq2
  · refine v_if_ne hC dX10_entry_11 (tgt := 16) (by decide) (fun _ => ?_) (fun hx => absurd hx (by decide))
    obtain ⟨x1, he1, rfl⟩ := g8
    have h40 : x1 < 40 := by omega
    have hE1 : m_t M (cA (n + 7) 11 x1) = 2 := by rw [← ly_E2 hR.1 h40]; exact we_53 hW (wf_165 hW hM5) h40
    refine v_aload_n hC dX10_entry_16 rfl rfl ?_
    refine gf_10_1 hC hB.1.1.1 (wf_261 hW hB.1.1.1) mw_2_79 dX10_entry_17 ?_
    first | rw [hB.1.2.1.2.1] | erw [hB.1.2.1.2.1]
    refine gf_7_6 hC hB.1.2.2.1.1.1.1 (wf_218 hW hB.1.2.2.1.1.1.1) mw_2_41 dX10_entry_20 ?_
    rw [ly_M hR.1]
    refine gf_4_1 hC hM5 (wf_165 hW hM5) mw_2_9 dX10_entry_23 ?_
    refine v_iload_n hC dX10_entry_26 rfl rfl ?_
    refine v_aald 53 _ hC (wf_165 hW hM5) (by decide) rfl (ix_c (wz_53 hW (wf_165 hW hM5)) h40) (we_53 hW (wf_165 hW hM5) (by omega)) dX10_entry_27 ?_
    rw [ly_E2 hR.1 h40]
    refine v_ast3 hC dX10_entry_28 (by decide) (kk := ?_)
    refine v_iload_n hC dX10_entry_29 rfl rfl ?_
    by_cases e0 : z = 0
    · subst e0
      refine v_tsi hC dX10_entry_30 (by decide) (by decide) (off := 34) (by rfl) (tgt := 64) (by decide) ?_
      refine v_aload_n hC dX10_entry_64 rfl rfl ?_
      refine gf_1_0 hC hE1 (wf_116 hW hE1) mw_1_197 dX10_entry_65 ?_
      refine gf_6_2 hC (wf_116 hW hE1) mw_1_53 dX10_entry_68 ?_
      rw [(hR.en2 he1).2.2.2.2.1]
      refine v_iret hC dX10_entry_71 ?_
      exact ⟨by rw [e_entry, inN_s he1]; exact (if_pos rfl).symm, Bx.rf⟩
    by_cases e1 : z = 1
    · subst e1
      refine v_tsi hC dX10_entry_30 (by decide) (by decide) (off := 42) (by rfl) (tgt := 72) (by decide) ?_
      refine v_aload_n hC dX10_entry_72 rfl rfl ?_
      refine gf_1_1 hC hE1 mw_1_201 dX10_entry_73 ?_
      rw [(hR.en2 he1).1]
      refine v_iret hC dX10_entry_76 ?_
      exact ⟨by rw [e_entry, inN_s he1]; exact ((if_neg (by decide)).trans (if_pos rfl)).symm, Bx.rf⟩
    by_cases e2 : z = 2
    · subst e2
      refine v_tsi hC dX10_entry_30 (by decide) (by decide) (off := 47) (by rfl) (tgt := 77) (by decide) ?_
      refine v_aload_n hC dX10_entry_77 rfl rfl ?_
      refine gf_1_2 hC hE1 mw_1_205 dX10_entry_78 ?_
      rw [(hR.en2 he1).2.1]
      refine v_if_eq hC dX10_entry_81 (tgt := 88) (by decide) (fun h81 => ?_) (fun h81 => ?_)
      · refine v_iconst (v := 0) hC dX10_entry_88 (by decide) ?_
        refine v_iret hC dX10_entry_89 ?_
        exact ⟨by rw [e_entry, inN_s he1]; exact (((if_neg (by decide)).trans ((if_neg (by decide)).trans (if_pos rfl))).trans (if_pos h81)).symm, Bx.rf⟩
      · refine v_iconst (v := 1) hC dX10_entry_84 (by decide) ?_
        refine v_goto hC dX10_entry_85 (tgt := 89) (by decide) ?_
        refine v_iret hC dX10_entry_89 ?_
        exact ⟨by rw [e_entry, inN_s he1]; exact (((if_neg (by decide)).trans ((if_neg (by decide)).trans (if_pos rfl))).trans (if_neg h81)).symm, Bx.rf⟩
    by_cases e3 : z = 3
    · subst e3
      refine v_tsi hC dX10_entry_30 (by decide) (by decide) (off := 60) (by rfl) (tgt := 90) (by decide) ?_
      refine v_aload_n hC dX10_entry_90 rfl rfl ?_
      refine gf_10_1 hC hB.1.1.1 (wf_261 hW hB.1.1.1) mw_2_79 dX10_entry_91 ?_
      first | rw [hB.1.2.1.2.1] | erw [hB.1.2.1.2.1]
      refine gf_7_6 hC hB.1.2.2.1.1.1.1 (wf_218 hW hB.1.2.2.1.1.1.1) mw_2_41 dX10_entry_94 ?_
      rw [ly_M hR.1]
      refine v_iload_n hC dX10_entry_97 rfl rfl ?_
      refine cVi1 hC (c_X4_openDispute hW hM5 hR.2.2.2.1.2.2.2 hu.2.2.2.1) yv_X4_openDispute rfl hM5 mw_4_56 ⟨Nat.le_of_ble_eq_true rfl, Nat.le_of_ble_eq_true rfl⟩ ⟨Nat.le_of_ble_eq_true rfl, Nat.le_of_ble_eq_true rfl⟩ (Nat.le_of_ble_eq_true rfl) dX10_entry_98 (fun r98 M100 hq => ?_)
      obtain ⟨hf9, hm⟩ := hq
      have hm2 := hm.symm
      clear hm
      subst hm2
      have hE9 : opD (x_u x) (nI x1) r98 := hf9.congr (fun j hj => by rw [ly_D2x hR.1 (by omega), (hR.di2 hj).1, (hR.di2 hj).2.2.2])
      refine v_iret hC dX10_entry_101 ?_
      exact ⟨by rw [e_entry, inN_s he1]; exact (opD.n hE9).trans ((if_neg (by decide)).trans ((if_neg (by decide)).trans ((if_neg (by decide)).trans (if_pos rfl)))).symm, Bx.rf⟩
    by_cases e4 : z = 4
    · subst e4
      refine v_tsi hC dX10_entry_30 (by decide) (by decide) (off := 72) (by rfl) (tgt := 102) (by decide) ?_
      refine v_aload_n hC dX10_entry_102 rfl rfl ?_
      refine gf_10_1 hC hB.1.1.1 (wf_261 hW hB.1.1.1) mw_2_79 dX10_entry_103 ?_
      first | rw [hB.1.2.1.2.1] | erw [hB.1.2.1.2.1]
      refine v_aload_n hC dX10_entry_106 rfl rfl ?_
      refine gf_1_0 hC hE1 (wf_116 hW hE1) mw_1_197 dX10_entry_107 ?_
      refine cVi1 hC (c_X7_countAlikeInHand hW hR.1.1.1 hR (hR.en2 he1).2.2) yv_X7_countAlikeInHand rfl hB.1.2.2.1.1.1.1 mw_4_57 ⟨Nat.le_of_ble_eq_true rfl, Nat.le_of_ble_eq_true rfl⟩ ⟨Nat.le_of_ble_eq_true rfl, Nat.le_of_ble_eq_true rfl⟩ (Nat.le_of_ble_eq_true rfl) dX10_entry_110 (fun r110 M112 hq => ?_)
      obtain ⟨rfl, hm⟩ := hq
      have hm2 := hm.symm
      clear hm
      subst hm2
      refine v_iret hC dX10_entry_113 ?_
      exact ⟨by rw [e_entry, inN_s he1]; exact ((if_neg (by decide)).trans ((if_neg (by decide)).trans ((if_neg (by decide)).trans ((if_neg (by decide)).trans (if_pos rfl))))).symm, Bx.rf⟩
    have hout : z.toInt < 0 ∨ 4 < z.toInt := by
      have q0 := lv_neT e0 (a := 0) rfl
      have q1 := lv_neT e1 (a := 1) rfl
      have q2 := lv_neT e2 (a := 2) rfl
      have q3 := lv_neT e3 (a := 3) rfl
      have q4 := lv_neT e4 (a := 4) rfl
      omega
    refine v_tso hC dX10_entry_30 hout (tgt := 114) (by decide) ?_
    refine v_bipush (v := (-2)) hC dX10_entry_114 (by decide) ?_
    refine v_iret hC dX10_entry_116 ?_
    exact ⟨by rw [e_entry, inN_s he1]; exact ((if_neg e0).trans ((if_neg e1).trans ((if_neg e2).trans ((if_neg e3).trans (if_neg e4))))).symm, Bx.rf⟩
  · refine v_if_ne hC dX10_entry_11 (tgt := 16) (by decide) (fun hx => absurd hx (by decide)) (fun _ => ?_)
    refine v_iconst (v := (-1)) hC dX10_entry_14 (by decide) ?_
    refine v_iret hC dX10_entry_15 ?_
    exact ⟨((by rw [e_entry, inN_o g8] : e_entry (x_u x) y z = -1)).symm, Bx.rf⟩

set_option maxHeartbeats 4000000 in
set_option maxRecDepth 100000 in
theorem c_X10_dispute {l : Launch} {G : Gd} {M : Me} {h n : Nat} {x : Xs} {y z : Int32} (hW : Wt M) (hB : BR M h n x) : CQ (Qi G (fun r M2 => r = e_dispute (x_u x) y z ∧ Bx M M2)) l G yX10_dispute cX10_dispute 4 ((some .int)) 1 21 0 0 [.ref h, .int y, .int z] M := by
  refine c_of ([some (.ref h), some (.int y), some (.int z), none] : Lo) RX10 "dispute" (by decide) rfl rfl (Nat.le_of_ble_eq_true rfl) rfl (fun p e s m below meth c hC nw => ?_)
  have hR := hB.2.1
  have hnn := hB.1.1.2.2.2.2.2.2
  have hu := hR.2.1
  have u1 := hu.1
  have u2 := hu.2.1
  have u3 := hu.2.2.1
  have u4 := hu.2.2.2.1
  have hM5 : m_t M (n + 7 + 43) = 5 := by rw [← ly_M hR.1]; exact wf_218 hW hR.1.1.1
  refine v_aload_n hC dX10_dispute_0 rfl rfl ?_
  refine gf_10_1 hC hB.1.1.1 (wf_261 hW hB.1.1.1) mw_2_79 dX10_dispute_1 ?_
  first | rw [hB.1.2.1.2.1] | erw [hB.1.2.1.2.1]
  refine gf_7_6 hC hB.1.2.2.1.1.1.1 (wf_218 hW hB.1.2.2.1.1.1.1) mw_2_41 dX10_dispute_4 ?_
  rw [ly_M hR.1]
  refine v_iload_n hC dX10_dispute_7 rfl rfl ?_
  refine cVi1 hC (c_X4_hasDispute hM5 hR.2.2.2.1.2.2.2 hu.2.2.2.1) yv_X4_hasDispute rfl hM5 mw_3_179 ⟨Nat.le_of_ble_eq_true rfl, Nat.le_of_ble_eq_true rfl⟩ ⟨Nat.le_of_ble_eq_true rfl, Nat.le_of_ble_eq_true rfl⟩ (Nat.le_of_ble_eq_true rfl) dX10_dispute_8 (fun r8 M10 hq => ?_)
  obtain ⟨hm, hq2⟩ := hq
  have hm2 := hm.symm
  clear hm
  subst hm2
  obtain ⟨g8, rfl⟩ | ⟨g8, rfl⟩ := hq2
  · refine v_if_ne hC dX10_dispute_11 (tgt := 16) (by decide) (fun _ => ?_) (fun hx => absurd hx (by decide))
    obtain ⟨d, hd, rfl⟩ := g8
    have h10 : d < 10 := by omega
    have hD1 : m_t M (cA (n + 7) 13 d) = 1 := by rw [← ly_D2 hR.1 h10]; exact we_54 hW (wf_167 hW hM5) h10
    refine v_aload_n hC dX10_dispute_16 rfl rfl ?_
    refine gf_10_1 hC hB.1.1.1 (wf_261 hW hB.1.1.1) mw_2_79 dX10_dispute_17 ?_
    first | rw [hB.1.2.1.2.1] | erw [hB.1.2.1.2.1]
    refine gf_7_6 hC hB.1.2.2.1.1.1.1 (wf_218 hW hB.1.2.2.1.1.1.1) mw_2_41 dX10_dispute_20 ?_
    rw [ly_M hR.1]
    refine gf_4_3 hC hM5 (wf_167 hW hM5) mw_2_14 dX10_dispute_23 ?_
    refine v_iload_n hC dX10_dispute_26 rfl rfl ?_
    refine v_aald 54 _ hC (wf_167 hW hM5) (by decide) rfl (ix_c (wz_54 hW (wf_167 hW hM5)) h10) (we_54 hW (wf_167 hW hM5) (by omega)) dX10_dispute_27 ?_
    rw [ly_D2 hR.1 h10]
    refine v_ast3 hC dX10_dispute_28 (by decide) (kk := ?_)
    refine v_iload_n hC dX10_dispute_29 rfl rfl ?_
    by_cases e0 : z = 0
    · subst e0
      refine v_tsi hC dX10_dispute_30 (by decide) (by decide) (off := 34) (by rfl) (tgt := 64) (by decide) ?_
      refine v_aload_n hC dX10_dispute_64 rfl rfl ?_
      refine gf_0_0 hC hD1 mw_1_227 dX10_dispute_65 ?_
      rw [(hR.di2 hd).1]
      refine v_iret hC dX10_dispute_68 ?_
      exact ⟨by rw [e_dispute, inN_s hd]; exact (if_pos rfl).symm, Bx.rf⟩
    by_cases e1 : z = 1
    · subst e1
      refine v_tsi hC dX10_dispute_30 (by decide) (by decide) (off := 39) (by rfl) (tgt := 69) (by decide) ?_
      refine v_aload_n hC dX10_dispute_69 rfl rfl ?_
      refine gf_0_1 hC hD1 mw_1_230 dX10_dispute_70 ?_
      rw [(hR.di2 hd).2.1]
      refine v_iret hC dX10_dispute_73 ?_
      exact ⟨by rw [e_dispute, inN_s hd]; exact ((if_neg (by decide)).trans (if_pos rfl)).symm, Bx.rf⟩
    by_cases e2 : z = 2
    · subst e2
      refine v_tsi hC dX10_dispute_30 (by decide) (by decide) (off := 44) (by rfl) (tgt := 74) (by decide) ?_
      refine v_aload_n hC dX10_dispute_74 rfl rfl ?_
      refine gf_0_2 hC hD1 mw_1_233 dX10_dispute_75 ?_
      rw [(hR.di2 hd).2.2.1]
      refine v_iret hC dX10_dispute_78 ?_
      exact ⟨by rw [e_dispute, inN_s hd]; exact ((if_neg (by decide)).trans ((if_neg (by decide)).trans (if_pos rfl))).symm, Bx.rf⟩
    by_cases e3 : z = 3
    · subst e3
      refine v_tsi hC dX10_dispute_30 (by decide) (by decide) (off := 49) (by rfl) (tgt := 79) (by decide) ?_
      refine v_aload_n hC dX10_dispute_79 rfl rfl ?_
      refine cVi0 hC (c_X0_isSettled hD1) yv_X0_isSettled rfl hD1 mw_3_183 ⟨Nat.le_of_ble_eq_true rfl, Nat.le_of_ble_eq_true rfl⟩ ⟨Nat.le_of_ble_eq_true rfl, Nat.le_of_ble_eq_true rfl⟩ (Nat.le_of_ble_eq_true rfl) dX10_dispute_80 (fun r80 M82 hq => ?_)
      obtain ⟨hm, hq2⟩ := hq
      have hm2 := hm.symm
      clear hm
      subst hm2
      obtain ⟨g80, rfl⟩ | ⟨g80, rfl⟩ := hq2
      · rw [(hR.di2 hd).2.2.2] at g80
        refine v_if_eq hC dX10_dispute_83 (tgt := 90) (by decide) (fun hx => absurd hx (by decide)) (fun _ => ?_)
        refine v_iconst (v := 1) hC dX10_dispute_86 (by decide) ?_
        refine v_goto hC dX10_dispute_87 (tgt := 91) (by decide) ?_
        refine v_iret hC dX10_dispute_91 ?_
        exact ⟨by rw [e_dispute, inN_s hd]; exact (((if_neg (by decide)).trans ((if_neg (by decide)).trans ((if_neg (by decide)).trans (if_pos rfl)))).trans (if_neg g80)).symm, Bx.rf⟩
      · rw [(hR.di2 hd).2.2.2] at g80
        refine v_if_eq hC dX10_dispute_83 (tgt := 90) (by decide) (fun _ => ?_) (fun hx => absurd hx (by decide))
        refine v_iconst (v := 0) hC dX10_dispute_90 (by decide) ?_
        refine v_iret hC dX10_dispute_91 ?_
        exact ⟨by rw [e_dispute, inN_s hd]; exact (((if_neg (by decide)).trans ((if_neg (by decide)).trans ((if_neg (by decide)).trans (if_pos rfl)))).trans (if_pos (Classical.not_not.mp g80))).symm, Bx.rf⟩
    by_cases e4 : z = 4
    · subst e4
      refine v_tsi hC dX10_dispute_30 (by decide) (by decide) (off := 62) (by rfl) (tgt := 92) (by decide) ?_
      refine v_aload_n hC dX10_dispute_92 rfl rfl ?_
      refine cVi0 hC (c_X0_isSettled hD1) yv_X0_isSettled rfl hD1 mw_3_183 ⟨Nat.le_of_ble_eq_true rfl, Nat.le_of_ble_eq_true rfl⟩ ⟨Nat.le_of_ble_eq_true rfl, Nat.le_of_ble_eq_true rfl⟩ (Nat.le_of_ble_eq_true rfl) dX10_dispute_93 (fun r93 M95 hq => ?_)
      obtain ⟨hm, hq2⟩ := hq
      have hm2 := hm.symm
      clear hm
      subst hm2
      obtain ⟨g93, rfl⟩ | ⟨g93, rfl⟩ := hq2
      · rw [(hR.di2 hd).2.2.2] at g93
        refine v_if_eq hC dX10_dispute_96 (tgt := 106) (by decide) (fun hx => absurd hx (by decide)) (fun _ => ?_)
        refine v_aload_n hC dX10_dispute_99 rfl rfl ?_
        refine gf_0_3 hC hD1 mw_1_236 dX10_dispute_100 ?_
        rw [(hR.di2 hd).2.2.2]
        refine v_goto hC dX10_dispute_103 (tgt := 108) (by decide) ?_
        refine v_iret hC dX10_dispute_108 ?_
        exact ⟨by rw [e_dispute, inN_s hd]; exact (((if_neg (by decide)).trans ((if_neg (by decide)).trans ((if_neg (by decide)).trans ((if_neg (by decide)).trans (if_pos rfl))))).trans (if_neg g93)).symm, Bx.rf⟩
      · rw [(hR.di2 hd).2.2.2] at g93
        refine v_if_eq hC dX10_dispute_96 (tgt := 106) (by decide) (fun _ => ?_) (fun hx => absurd hx (by decide))
        refine v_bipush (v := (-5)) hC dX10_dispute_106 (by decide) ?_
        refine v_iret hC dX10_dispute_108 ?_
        exact ⟨by rw [e_dispute, inN_s hd]; exact (((if_neg (by decide)).trans ((if_neg (by decide)).trans ((if_neg (by decide)).trans ((if_neg (by decide)).trans (if_pos rfl))))).trans (if_pos (Classical.not_not.mp g93))).symm, Bx.rf⟩
    have hout : z.toInt < 0 ∨ 4 < z.toInt := by
      have q0 := lv_neT e0 (a := 0) rfl
      have q1 := lv_neT e1 (a := 1) rfl
      have q2 := lv_neT e2 (a := 2) rfl
      have q3 := lv_neT e3 (a := 3) rfl
      have q4 := lv_neT e4 (a := 4) rfl
      omega
    refine v_tso hC dX10_dispute_30 hout (tgt := 109) (by decide) ?_
    refine v_bipush (v := (-2)) hC dX10_dispute_109 (by decide) ?_
    refine v_iret hC dX10_dispute_111 ?_
    exact ⟨by rw [e_dispute, inN_s hd]; exact ((if_neg e0).trans ((if_neg e1).trans ((if_neg e2).trans ((if_neg e3).trans (if_neg e4))))).symm, Bx.rf⟩
  · refine v_if_ne hC dX10_dispute_11 (tgt := 16) (by decide) (fun hx => absurd hx (by decide)) (fun _ => ?_)
    refine v_iconst (v := (-1)) hC dX10_dispute_14 (by decide) ?_
    refine v_iret hC dX10_dispute_15 ?_
    exact ⟨((by rw [e_dispute, inN_o g8] : e_dispute (x_u x) y z = -1)).symm, Bx.rf⟩

set_option maxHeartbeats 4000000 in
set_option maxRecDepth 100000 in
theorem c_X10_fileAt {l : Launch} {G : Gd} {M : Me} {h n : Nat} {x : Xs} {y : Int32} (hW : Wt M) (hB : BR M h n x) : CQ (Qi G (fun r M2 => r = e_fileAt (x_u x) y ∧ Bx M M2)) l G yX10_fileAt cX10_fileAt 2 ((some .int)) 0 0 0 0 [.ref h, .int y] M := by
  refine c_of ([some (.ref h), some (.int y)] : Lo) RX10 "fileAt" (by decide) rfl rfl (Nat.le_of_ble_eq_true rfl) rfl (fun p e s m below meth c hC nw => ?_)
  have hR := hB.2.1
  have hnn := hB.1.1.2.2.2.2.2.2
  have hu := hR.2.1
  have u1 := hu.1
  have u2 := hu.2.1
  have u3 := hu.2.2.1
  have u4 := hu.2.2.2.1
  have hO5 : m_t M (cA (n + 7) 17 0) = 21 := by rw [← ly_O hR.1]; exact wf_217 hW hR.1.1.1
  refine v_iload_n hC dX10_fileAt_0 rfl rfl ?_
  refine v_if_ge hC dX10_fileAt_1 (tgt := 7) (by decide) (fun h1 => ?_) (fun h1 => ?_)
  · refine v_iload_n hC dX10_fileAt_7 rfl rfl ?_
    refine v_aload_n hC dX10_fileAt_8 rfl rfl ?_
    refine gf_10_1 hC hB.1.1.1 (wf_261 hW hB.1.1.1) mw_2_79 dX10_fileAt_9 ?_
    first | rw [hB.1.2.1.2.1] | erw [hB.1.2.1.2.1]
    refine gf_7_4 hC hB.1.2.2.1.1.1.1 mw_2_37 dX10_fileAt_12 ?_
    rw [hR.2.2.2.1.1]
    refine v_icmp_ge hC dX10_fileAt_15 (tgt := 30) (by decide) (fun h15 => ?_) (fun h15 => ?_)
    · refine v_bipush (v := (-5)) hC dX10_fileAt_30 (by decide) ?_
      refine v_iret hC dX10_fileAt_32 ?_
      exact ⟨by rw [e_fileAt, if_neg (fun q => i_ab q h1), inN_o (rg_hi h15 (by omega))], Bx.rf⟩
    · obtain ⟨j9, hj9, ej⟩ := rg_in (fun q => i_ab q h1) h15 (by omega)
      refine v_aload_n hC dX10_fileAt_18 rfl rfl ?_
      refine gf_10_1 hC hB.1.1.1 (wf_261 hW hB.1.1.1) mw_2_79 dX10_fileAt_19 ?_
      first | rw [hB.1.2.1.2.1] | erw [hB.1.2.1.2.1]
      refine gf_7_5 hC hB.1.2.2.1.1.1.1 (wf_217 hW hB.1.2.2.1.1.1.1) mw_2_39 dX10_fileAt_22 ?_
      rw [ly_O hR.1]
      refine v_iload_n hC dX10_fileAt_25 rfl rfl ?_
      refine v_iald 21 hC hO5 (by decide) (by decide) (ix_q (wz_21 hW hO5) ej (by omega)) dX10_fileAt_26 ?_
      rw [hR.od2 hj9]
      refine v_goto hC dX10_fileAt_27 (tgt := 32) (by decide) ?_
      refine v_iret hC dX10_fileAt_32 ?_
      exact ⟨by rw [e_fileAt, if_neg (fun q => i_ab q h1), ej, inN_s hj9], Bx.rf⟩
  · refine v_bipush (v := (-2)) hC dX10_fileAt_4 (by decide) ?_
    refine v_iret hC dX10_fileAt_6 ?_
    exact ⟨by rw [e_fileAt, if_pos (i_nle h1)], Bx.rf⟩

set_option maxHeartbeats 4000000 in
set_option maxRecDepth 100000 in
theorem c_X10_count {l : Launch} {G : Gd} {M : Me} {h n : Nat} {x : Xs} {t : Nat} {tc : Nat → Int32} {y : Int32} (hW : Wt M) (hB : BR M h n x) (hT : TX M n t tc) : CQ (Qi G (fun r M2 => r = e_count (x_u x) (x_n x) t y ∧ Bx M M2)) l G yX10_count cX10_count 2 ((some .int)) 4 84 0 0 [.ref h, .int y] M := by
  refine c_of ([some (.ref h), some (.int y)] : Lo) RX10 "count" (by decide) rfl rfl (Nat.le_of_ble_eq_true rfl) rfl (fun p e s m below meth c hC nw => ?_)
  have hR := hB.2.1
  have hnn := hB.1.1.2.2.2.2.2.2
  have hu := hR.2.1
  have u1 := hu.1
  have u2 := hu.2.1
  have u3 := hu.2.2.1
  have u4 := hu.2.2.2.1
  have hM5 : m_t M (n + 7 + 43) = 5 := by rw [← ly_M hR.1]; exact wf_218 hW hR.1.1.1
  refine v_iload_n hC dX10_count_0 rfl rfl ?_
  by_cases e0 : y = 0
  · subst e0
    refine v_tsi hC dX10_count_1 (by decide) (by decide) (off := 83) (by rfl) (tgt := 84) (by decide) ?_
    refine v_aload_n hC dX10_count_84 rfl rfl ?_
    refine gf_10_1 hC hB.1.1.1 (wf_261 hW hB.1.1.1) mw_2_79 dX10_count_85 ?_
    first | rw [hB.1.2.1.2.1] | erw [hB.1.2.1.2.1]
    refine gf_7_4 hC hB.1.2.2.1.1.1.1 mw_2_37 dX10_count_88 ?_
    rw [hR.2.2.2.1.1]
    refine v_iret hC dX10_count_91 ?_
    exact ⟨by rw [e_count]; exact (if_pos rfl).symm, Bx.rf⟩
  by_cases e1 : y = 1
  · subst e1
    refine v_tsi hC dX10_count_1 (by decide) (by decide) (off := 91) (by rfl) (tgt := 92) (by decide) ?_
    refine v_aload_n hC dX10_count_92 rfl rfl ?_
    refine gf_10_1 hC hB.1.1.1 (wf_261 hW hB.1.1.1) mw_2_79 dX10_count_93 ?_
    first | rw [hB.1.2.1.2.1] | erw [hB.1.2.1.2.1]
    refine cVi0 hC (c_X7_countInHand hW hR.1.1.1 hR) yv_X7_countInHand rfl hB.1.2.2.1.1.1.1 mw_4_77 ⟨Nat.le_of_ble_eq_true rfl, Nat.le_of_ble_eq_true rfl⟩ ⟨Nat.le_of_ble_eq_true rfl, Nat.le_of_ble_eq_true rfl⟩ (Nat.le_of_ble_eq_true rfl) dX10_count_96 (fun r96 M98 hq => ?_)
    obtain ⟨rfl, hm⟩ := hq
    have hm2 := hm.symm
    clear hm
    subst hm2
    refine v_iret hC dX10_count_99 ?_
    exact ⟨by rw [e_count]; exact ((if_neg (by decide)).trans (if_pos rfl)).symm, Bx.rf⟩
  by_cases e2 : y = 2
  · subst e2
    refine v_tsi hC dX10_count_1 (by decide) (by decide) (off := 99) (by rfl) (tgt := 100) (by decide) ?_
    refine v_aload_n hC dX10_count_100 rfl rfl ?_
    refine gf_10_1 hC hB.1.1.1 (wf_261 hW hB.1.1.1) mw_2_79 dX10_count_101 ?_
    first | rw [hB.1.2.1.2.1] | erw [hB.1.2.1.2.1]
    refine gf_7_2 hC hB.1.2.2.1.1.1.1 mw_2_33 dX10_count_104 ?_
    rw [hR.2.2.2.1.2.1]
    refine v_iret hC dX10_count_107 ?_
    exact ⟨by rw [e_count]; exact ((if_neg (by decide)).trans ((if_neg (by decide)).trans (if_pos rfl))).symm, Bx.rf⟩
  by_cases e3 : y = 3
  · subst e3
    refine v_tsi hC dX10_count_1 (by decide) (by decide) (off := 107) (by rfl) (tgt := 108) (by decide) ?_
    refine v_aload_n hC dX10_count_108 rfl rfl ?_
    refine gf_10_1 hC hB.1.1.1 (wf_261 hW hB.1.1.1) mw_2_79 dX10_count_109 ?_
    first | rw [hB.1.2.1.2.1] | erw [hB.1.2.1.2.1]
    refine gf_7_6 hC hB.1.2.2.1.1.1.1 (wf_218 hW hB.1.2.2.1.1.1.1) mw_2_41 dX10_count_112 ?_
    rw [ly_M hR.1]
    refine gf_4_2 hC hM5 mw_2_11 dX10_count_115 ?_
    rw [hR.2.2.2.1.2.2.1]
    refine v_iret hC dX10_count_118 ?_
    exact ⟨by rw [e_count]; exact ((if_neg (by decide)).trans ((if_neg (by decide)).trans ((if_neg (by decide)).trans (if_pos rfl)))).symm, Bx.rf⟩
  by_cases e4 : y = 4
  · subst e4
    refine v_tsi hC dX10_count_1 (by decide) (by decide) (off := 118) (by rfl) (tgt := 119) (by decide) ?_
    refine v_aload_n hC dX10_count_119 rfl rfl ?_
    refine gf_10_1 hC hB.1.1.1 (wf_261 hW hB.1.1.1) mw_2_79 dX10_count_120 ?_
    first | rw [hB.1.2.1.2.1] | erw [hB.1.2.1.2.1]
    refine gf_7_6 hC hB.1.2.2.1.1.1.1 (wf_218 hW hB.1.2.2.1.1.1.1) mw_2_41 dX10_count_123 ?_
    rw [ly_M hR.1]
    refine gf_4_4 hC hM5 mw_2_16 dX10_count_126 ?_
    rw [hR.2.2.2.1.2.2.2]
    refine v_iret hC dX10_count_129 ?_
    exact ⟨by rw [e_count]; exact ((if_neg (by decide)).trans ((if_neg (by decide)).trans ((if_neg (by decide)).trans ((if_neg (by decide)).trans (if_pos rfl))))).symm, Bx.rf⟩
  by_cases e5 : y = 5
  · subst e5
    refine v_tsi hC dX10_count_1 (by decide) (by decide) (off := 129) (by rfl) (tgt := 130) (by decide) ?_
    refine v_aload_n hC dX10_count_130 rfl rfl ?_
    refine gf_10_1 hC hB.1.1.1 (wf_261 hW hB.1.1.1) mw_2_79 dX10_count_131 ?_
    first | rw [hB.1.2.1.2.1] | erw [hB.1.2.1.2.1]
    refine gf_7_6 hC hB.1.2.2.1.1.1.1 (wf_218 hW hB.1.2.2.1.1.1.1) mw_2_41 dX10_count_134 ?_
    refine cVi0 hC (c_X4_countOpenDisputes hW (wf_218 hW hR.1.1.1) hR) yv_X4_countOpenDisputes rfl (wf_218 hW hB.1.2.2.1.1.1.1) mw_4_81 ⟨Nat.le_of_ble_eq_true rfl, Nat.le_of_ble_eq_true rfl⟩ ⟨Nat.le_of_ble_eq_true rfl, Nat.le_of_ble_eq_true rfl⟩ (Nat.le_of_ble_eq_true rfl) dX10_count_137 (fun r137 M139 hq => ?_)
    obtain ⟨rfl, hm⟩ := hq
    have hm2 := hm.symm
    clear hm
    subst hm2
    refine v_iret hC dX10_count_140 ?_
    exact ⟨by rw [e_count]; exact ((if_neg (by decide)).trans ((if_neg (by decide)).trans ((if_neg (by decide)).trans ((if_neg (by decide)).trans ((if_neg (by decide)).trans (if_pos rfl)))))).symm, Bx.rf⟩
  by_cases e6 : y = 6
  · subst e6
    refine v_tsi hC dX10_count_1 (by decide) (by decide) (off := 140) (by rfl) (tgt := 141) (by decide) ?_
    refine v_aload_n hC dX10_count_141 rfl rfl ?_
    refine gf_10_1 hC hB.1.1.1 (wf_261 hW hB.1.1.1) mw_2_79 dX10_count_142 ?_
    first | rw [hB.1.2.1.2.1] | erw [hB.1.2.1.2.1]
    refine cVi0 hC (c_X7_wordsInHand hW hR.1.1.1 hR) yv_X7_wordsInHand rfl hB.1.2.2.1.1.1.1 mw_4_85 ⟨Nat.le_of_ble_eq_true rfl, Nat.le_of_ble_eq_true rfl⟩ ⟨Nat.le_of_ble_eq_true rfl, Nat.le_of_ble_eq_true rfl⟩ (Nat.le_of_ble_eq_true rfl) dX10_count_145 (fun r145 M147 hq => ?_)
    obtain ⟨rfl, hm⟩ := hq
    have hm2 := hm.symm
    clear hm
    subst hm2
    refine v_iret hC dX10_count_148 ?_
    exact ⟨by rw [e_count]; exact ((if_neg (by decide)).trans ((if_neg (by decide)).trans ((if_neg (by decide)).trans ((if_neg (by decide)).trans ((if_neg (by decide)).trans ((if_neg (by decide)).trans (if_pos rfl))))))).symm, Bx.rf⟩
  by_cases e7 : y = 7
  · subst e7
    refine v_tsi hC dX10_count_1 (by decide) (by decide) (off := 148) (by rfl) (tgt := 149) (by decide) ?_
    refine v_aload_n hC dX10_count_149 rfl rfl ?_
    refine gf_10_1 hC hB.1.1.1 (wf_261 hW hB.1.1.1) mw_2_79 dX10_count_150 ?_
    first | rw [hB.1.2.1.2.1] | erw [hB.1.2.1.2.1]
    refine cVi0 hC (c_X7_wordsDelivered hW hR.1.1.1 hR) yv_X7_wordsDelivered rfl hB.1.2.2.1.1.1.1 mw_4_89 ⟨Nat.le_of_ble_eq_true rfl, Nat.le_of_ble_eq_true rfl⟩ ⟨Nat.le_of_ble_eq_true rfl, Nat.le_of_ble_eq_true rfl⟩ (Nat.le_of_ble_eq_true rfl) dX10_count_153 (fun r153 M155 hq => ?_)
    obtain ⟨rfl, hm⟩ := hq
    have hm2 := hm.symm
    clear hm
    subst hm2
    refine v_iret hC dX10_count_156 ?_
    exact ⟨by rw [e_count]; exact ((if_neg (by decide)).trans ((if_neg (by decide)).trans ((if_neg (by decide)).trans ((if_neg (by decide)).trans ((if_neg (by decide)).trans ((if_neg (by decide)).trans ((if_neg (by decide)).trans (if_pos rfl)))))))).symm, Bx.rf⟩
  by_cases e8 : y = 8
  · subst e8
    refine v_tsi hC dX10_count_1 (by decide) (by decide) (off := 156) (by rfl) (tgt := 157) (by decide) ?_
    refine v_aload_n hC dX10_count_157 rfl rfl ?_
    refine gf_10_1 hC hB.1.1.1 (wf_261 hW hB.1.1.1) mw_2_79 dX10_count_158 ?_
    first | rw [hB.1.2.1.2.1] | erw [hB.1.2.1.2.1]
    refine cVi0 hC (c_X7_paidInAll hW hR.1.1.1 hR) yv_X7_paidInAll rfl hB.1.2.2.1.1.1.1 mw_4_93 ⟨Nat.le_of_ble_eq_true rfl, Nat.le_of_ble_eq_true rfl⟩ ⟨Nat.le_of_ble_eq_true rfl, Nat.le_of_ble_eq_true rfl⟩ (Nat.le_of_ble_eq_true rfl) dX10_count_161 (fun r161 M163 hq => ?_)
    obtain ⟨rfl, hm⟩ := hq
    have hm2 := hm.symm
    clear hm
    subst hm2
    refine v_iret hC dX10_count_164 ?_
    exact ⟨by rw [e_count]; exact ((if_neg (by decide)).trans ((if_neg (by decide)).trans ((if_neg (by decide)).trans ((if_neg (by decide)).trans ((if_neg (by decide)).trans ((if_neg (by decide)).trans ((if_neg (by decide)).trans ((if_neg (by decide)).trans (if_pos rfl))))))))).symm, Bx.rf⟩
  by_cases e9 : y = 9
  · subst e9
    refine v_tsi hC dX10_count_1 (by decide) (by decide) (off := 164) (by rfl) (tgt := 165) (by decide) ?_
    refine v_aload_n hC dX10_count_165 rfl rfl ?_
    refine gf_10_1 hC hB.1.1.1 (wf_261 hW hB.1.1.1) mw_2_79 dX10_count_166 ?_
    first | rw [hB.1.2.1.2.1] | erw [hB.1.2.1.2.1]
    refine cVi0 hC (c_X7_countInHandWithoutTarget hW hR.1.1.1 hR) yv_X7_countInHandWithoutTarget rfl hB.1.2.2.1.1.1.1 mw_4_98 ⟨Nat.le_of_ble_eq_true rfl, Nat.le_of_ble_eq_true rfl⟩ ⟨Nat.le_of_ble_eq_true rfl, Nat.le_of_ble_eq_true rfl⟩ (Nat.le_of_ble_eq_true rfl) dX10_count_169 (fun r169 M171 hq => ?_)
    obtain ⟨rfl, hm⟩ := hq
    have hm2 := hm.symm
    clear hm
    subst hm2
    refine v_iret hC dX10_count_172 ?_
    exact ⟨by rw [e_count]; exact ((if_neg (by decide)).trans ((if_neg (by decide)).trans ((if_neg (by decide)).trans ((if_neg (by decide)).trans ((if_neg (by decide)).trans ((if_neg (by decide)).trans ((if_neg (by decide)).trans ((if_neg (by decide)).trans ((if_neg (by decide)).trans (if_pos rfl)))))))))).symm, Bx.rf⟩
  by_cases e10 : y = 10
  · subst e10
    refine v_tsi hC dX10_count_1 (by decide) (by decide) (off := 172) (by rfl) (tgt := 173) (by decide) ?_
    refine v_aload_n hC dX10_count_173 rfl rfl ?_
    refine gf_10_1 hC hB.1.1.1 (wf_261 hW hB.1.1.1) mw_2_79 dX10_count_174 ?_
    first | rw [hB.1.2.1.2.1] | erw [hB.1.2.1.2.1]
    refine v_iload_n hC dX10_count_177 rfl rfl ?_
    refine v_bipush (v := 10) hC dX10_count_178 (by decide) ?_
    refine v_isub hC dX10_count_180 ?_
    refine cVi1 hC (c_X7_countInWay hW hR.1.1.1 hR) yv_X7_countInWay rfl hB.1.2.2.1.1.1.1 mw_4_103 ⟨Nat.le_of_ble_eq_true rfl, Nat.le_of_ble_eq_true rfl⟩ ⟨Nat.le_of_ble_eq_true rfl, Nat.le_of_ble_eq_true rfl⟩ (Nat.le_of_ble_eq_true rfl) dX10_count_181 (fun r181 M183 hq => ?_)
    obtain ⟨rfl, hm⟩ := hq
    have hm2 := hm.symm
    clear hm
    subst hm2
    refine v_iret hC dX10_count_184 ?_
    exact ⟨by rw [e_count]; exact ((if_neg (by decide)).trans ((if_neg (by decide)).trans ((if_neg (by decide)).trans ((if_neg (by decide)).trans ((if_neg (by decide)).trans ((if_neg (by decide)).trans ((if_neg (by decide)).trans ((if_neg (by decide)).trans ((if_neg (by decide)).trans ((if_neg (by decide)).trans (if_pos rfl))))))))))).symm, Bx.rf⟩
  by_cases e11 : y = 11
  · subst e11
    refine v_tsi hC dX10_count_1 (by decide) (by decide) (off := 172) (by rfl) (tgt := 173) (by decide) ?_
    refine v_aload_n hC dX10_count_173 rfl rfl ?_
    refine gf_10_1 hC hB.1.1.1 (wf_261 hW hB.1.1.1) mw_2_79 dX10_count_174 ?_
    first | rw [hB.1.2.1.2.1] | erw [hB.1.2.1.2.1]
    refine v_iload_n hC dX10_count_177 rfl rfl ?_
    refine v_bipush (v := 10) hC dX10_count_178 (by decide) ?_
    refine v_isub hC dX10_count_180 ?_
    refine cVi1 hC (c_X7_countInWay hW hR.1.1.1 hR) yv_X7_countInWay rfl hB.1.2.2.1.1.1.1 mw_4_103 ⟨Nat.le_of_ble_eq_true rfl, Nat.le_of_ble_eq_true rfl⟩ ⟨Nat.le_of_ble_eq_true rfl, Nat.le_of_ble_eq_true rfl⟩ (Nat.le_of_ble_eq_true rfl) dX10_count_181 (fun r181 M183 hq => ?_)
    obtain ⟨rfl, hm⟩ := hq
    have hm2 := hm.symm
    clear hm
    subst hm2
    refine v_iret hC dX10_count_184 ?_
    exact ⟨by rw [e_count]; exact ((if_neg (by decide)).trans ((if_neg (by decide)).trans ((if_neg (by decide)).trans ((if_neg (by decide)).trans ((if_neg (by decide)).trans ((if_neg (by decide)).trans ((if_neg (by decide)).trans ((if_neg (by decide)).trans ((if_neg (by decide)).trans ((if_neg (by decide)).trans ((if_neg (by decide)).trans (if_pos rfl)))))))))))).symm, Bx.rf⟩
  by_cases e12 : y = 12
  · subst e12
    refine v_tsi hC dX10_count_1 (by decide) (by decide) (off := 172) (by rfl) (tgt := 173) (by decide) ?_
    refine v_aload_n hC dX10_count_173 rfl rfl ?_
    refine gf_10_1 hC hB.1.1.1 (wf_261 hW hB.1.1.1) mw_2_79 dX10_count_174 ?_
    first | rw [hB.1.2.1.2.1] | erw [hB.1.2.1.2.1]
    refine v_iload_n hC dX10_count_177 rfl rfl ?_
    refine v_bipush (v := 10) hC dX10_count_178 (by decide) ?_
    refine v_isub hC dX10_count_180 ?_
    refine cVi1 hC (c_X7_countInWay hW hR.1.1.1 hR) yv_X7_countInWay rfl hB.1.2.2.1.1.1.1 mw_4_103 ⟨Nat.le_of_ble_eq_true rfl, Nat.le_of_ble_eq_true rfl⟩ ⟨Nat.le_of_ble_eq_true rfl, Nat.le_of_ble_eq_true rfl⟩ (Nat.le_of_ble_eq_true rfl) dX10_count_181 (fun r181 M183 hq => ?_)
    obtain ⟨rfl, hm⟩ := hq
    have hm2 := hm.symm
    clear hm
    subst hm2
    refine v_iret hC dX10_count_184 ?_
    exact ⟨by rw [e_count]; exact ((if_neg (by decide)).trans ((if_neg (by decide)).trans ((if_neg (by decide)).trans ((if_neg (by decide)).trans ((if_neg (by decide)).trans ((if_neg (by decide)).trans ((if_neg (by decide)).trans ((if_neg (by decide)).trans ((if_neg (by decide)).trans ((if_neg (by decide)).trans ((if_neg (by decide)).trans ((if_neg (by decide)).trans (if_pos rfl))))))))))))).symm, Bx.rf⟩
  by_cases e13 : y = 13
  · subst e13
    refine v_tsi hC dX10_count_1 (by decide) (by decide) (off := 172) (by rfl) (tgt := 173) (by decide) ?_
    refine v_aload_n hC dX10_count_173 rfl rfl ?_
    refine gf_10_1 hC hB.1.1.1 (wf_261 hW hB.1.1.1) mw_2_79 dX10_count_174 ?_
    first | rw [hB.1.2.1.2.1] | erw [hB.1.2.1.2.1]
    refine v_iload_n hC dX10_count_177 rfl rfl ?_
    refine v_bipush (v := 10) hC dX10_count_178 (by decide) ?_
    refine v_isub hC dX10_count_180 ?_
    refine cVi1 hC (c_X7_countInWay hW hR.1.1.1 hR) yv_X7_countInWay rfl hB.1.2.2.1.1.1.1 mw_4_103 ⟨Nat.le_of_ble_eq_true rfl, Nat.le_of_ble_eq_true rfl⟩ ⟨Nat.le_of_ble_eq_true rfl, Nat.le_of_ble_eq_true rfl⟩ (Nat.le_of_ble_eq_true rfl) dX10_count_181 (fun r181 M183 hq => ?_)
    obtain ⟨rfl, hm⟩ := hq
    have hm2 := hm.symm
    clear hm
    subst hm2
    refine v_iret hC dX10_count_184 ?_
    exact ⟨by rw [e_count]; exact ((if_neg (by decide)).trans ((if_neg (by decide)).trans ((if_neg (by decide)).trans ((if_neg (by decide)).trans ((if_neg (by decide)).trans ((if_neg (by decide)).trans ((if_neg (by decide)).trans ((if_neg (by decide)).trans ((if_neg (by decide)).trans ((if_neg (by decide)).trans ((if_neg (by decide)).trans ((if_neg (by decide)).trans ((if_neg (by decide)).trans (if_pos rfl)))))))))))))).symm, Bx.rf⟩
  by_cases e14 : y = 14
  · subst e14
    refine v_tsi hC dX10_count_1 (by decide) (by decide) (off := 172) (by rfl) (tgt := 173) (by decide) ?_
    refine v_aload_n hC dX10_count_173 rfl rfl ?_
    refine gf_10_1 hC hB.1.1.1 (wf_261 hW hB.1.1.1) mw_2_79 dX10_count_174 ?_
    first | rw [hB.1.2.1.2.1] | erw [hB.1.2.1.2.1]
    refine v_iload_n hC dX10_count_177 rfl rfl ?_
    refine v_bipush (v := 10) hC dX10_count_178 (by decide) ?_
    refine v_isub hC dX10_count_180 ?_
    refine cVi1 hC (c_X7_countInWay hW hR.1.1.1 hR) yv_X7_countInWay rfl hB.1.2.2.1.1.1.1 mw_4_103 ⟨Nat.le_of_ble_eq_true rfl, Nat.le_of_ble_eq_true rfl⟩ ⟨Nat.le_of_ble_eq_true rfl, Nat.le_of_ble_eq_true rfl⟩ (Nat.le_of_ble_eq_true rfl) dX10_count_181 (fun r181 M183 hq => ?_)
    obtain ⟨rfl, hm⟩ := hq
    have hm2 := hm.symm
    clear hm
    subst hm2
    refine v_iret hC dX10_count_184 ?_
    exact ⟨by rw [e_count]; exact ((if_neg (by decide)).trans ((if_neg (by decide)).trans ((if_neg (by decide)).trans ((if_neg (by decide)).trans ((if_neg (by decide)).trans ((if_neg (by decide)).trans ((if_neg (by decide)).trans ((if_neg (by decide)).trans ((if_neg (by decide)).trans ((if_neg (by decide)).trans ((if_neg (by decide)).trans ((if_neg (by decide)).trans ((if_neg (by decide)).trans ((if_neg (by decide)).trans (if_pos rfl))))))))))))))).symm, Bx.rf⟩
  by_cases e15 : y = 15
  · subst e15
    refine v_tsi hC dX10_count_1 (by decide) (by decide) (off := 184) (by rfl) (tgt := 185) (by decide) ?_
    refine v_aload_n hC dX10_count_185 rfl rfl ?_
    refine gf_10_3 hC hB.1.1.1 (wf_263 hW hB.1.1.1) mw_2_81 dX10_count_186 ?_
    first | rw [hB.1.2.1.2.2.2.1] | erw [hB.1.2.1.2.2.2.1]
    refine gf_2_1 hC hB.1.1.2.2.2.1 mw_2_72 dX10_count_189 ?_
    rw [hB.2.2.1.2.1]
    refine v_iret hC dX10_count_192 ?_
    exact ⟨by rw [e_count]; exact ((if_neg (by decide)).trans ((if_neg (by decide)).trans ((if_neg (by decide)).trans ((if_neg (by decide)).trans ((if_neg (by decide)).trans ((if_neg (by decide)).trans ((if_neg (by decide)).trans ((if_neg (by decide)).trans ((if_neg (by decide)).trans ((if_neg (by decide)).trans ((if_neg (by decide)).trans ((if_neg (by decide)).trans ((if_neg (by decide)).trans ((if_neg (by decide)).trans ((if_neg (by decide)).trans (if_pos rfl)))))))))))))))).symm, Bx.rf⟩
  by_cases e16 : y = 16
  · subst e16
    refine v_tsi hC dX10_count_1 (by decide) (by decide) (off := 192) (by rfl) (tgt := 193) (by decide) ?_
    refine v_aload_n hC dX10_count_193 rfl rfl ?_
    refine gf_10_0 hC hB.1.1.1 (wf_260 hW hB.1.1.1) mw_2_78 dX10_count_194 ?_
    first | rw [hB.1.2.1.1] | erw [hB.1.2.1.1]
    refine gf_8_1 hC hB.1.1.2.1 mw_1_71 dX10_count_197 ?_
    rw [hT.2.1]
    refine v_iret hC dX10_count_200 ?_
    exact ⟨by rw [e_count]; exact ((if_neg (by decide)).trans ((if_neg (by decide)).trans ((if_neg (by decide)).trans ((if_neg (by decide)).trans ((if_neg (by decide)).trans ((if_neg (by decide)).trans ((if_neg (by decide)).trans ((if_neg (by decide)).trans ((if_neg (by decide)).trans ((if_neg (by decide)).trans ((if_neg (by decide)).trans ((if_neg (by decide)).trans ((if_neg (by decide)).trans ((if_neg (by decide)).trans ((if_neg (by decide)).trans ((if_neg (by decide)).trans (if_pos rfl))))))))))))))))).symm, Bx.rf⟩
  have hout : y.toInt < 0 ∨ 16 < y.toInt := by
    have q0 := lv_neT e0 (a := 0) rfl
    have q1 := lv_neT e1 (a := 1) rfl
    have q2 := lv_neT e2 (a := 2) rfl
    have q3 := lv_neT e3 (a := 3) rfl
    have q4 := lv_neT e4 (a := 4) rfl
    have q5 := lv_neT e5 (a := 5) rfl
    have q6 := lv_neT e6 (a := 6) rfl
    have q7 := lv_neT e7 (a := 7) rfl
    have q8 := lv_neT e8 (a := 8) rfl
    have q9 := lv_neT e9 (a := 9) rfl
    have q10 := lv_neT e10 (a := 10) rfl
    have q11 := lv_neT e11 (a := 11) rfl
    have q12 := lv_neT e12 (a := 12) rfl
    have q13 := lv_neT e13 (a := 13) rfl
    have q14 := lv_neT e14 (a := 14) rfl
    have q15 := lv_neT e15 (a := 15) rfl
    have q16 := lv_neT e16 (a := 16) rfl
    omega
  refine v_tso hC dX10_count_1 hout (tgt := 201) (by decide) ?_
  refine v_bipush (v := (-2)) hC dX10_count_201 (by decide) ?_
  refine v_iret hC dX10_count_203 ?_
  exact ⟨by rw [e_count]; exact ((if_neg e0).trans ((if_neg e1).trans ((if_neg e2).trans ((if_neg e3).trans ((if_neg e4).trans ((if_neg e5).trans ((if_neg e6).trans ((if_neg e7).trans ((if_neg e8).trans ((if_neg e9).trans ((if_neg e10).trans ((if_neg e11).trans ((if_neg e12).trans ((if_neg e13).trans ((if_neg e14).trans ((if_neg e15).trans (if_neg e16))))))))))))))))).symm, Bx.rf⟩
