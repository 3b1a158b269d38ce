theorem CR.wy2 {M : Me} {S f : Nat} {u : Si} {x : Int32} (h : CR M S u) (hf : f < n_f u) : sm (f_wy M (cA S 4 f) x) (n_s u f) = y_f u x f := by
  have q := h.wy (x := x) hf
  rw [ly_F h.1 (by have := h.2.1.1; omega)] at q
  exact q
theorem y_f_e {u v : Si} {f : Nat} {x : Int32} (h : ∀ i, q_i v 10 f i = q_i u 10 f i) (hn : n_s v f = n_s u f) : y_f v x f = y_f u x f := by
  unfold y_f
  rw [hn]
  exact sm_congr fun i _ => by rw [h]
/-- every dispute is for an entry -/
def WfD (u : Si) : Prop := ∀ d, d < n_d u → ∃ e, e < n_e u ∧ q_i u 13 d 0 = nI e
def WfI (u : Si) : Prop := ∀ j j2, j < n_f u → j2 < n_f u → q_i u 17 0 j = q_i u 17 0 j2 → j = j2
set_option maxHeartbeats 4000000 in
set_option maxRecDepth 100000 in
theorem c_X10_withdraw {l : Launch} {G : Gd} {M : Me} {h n : Nat} {x : Xs} {y : Int32} (hW : Wt M) (hB : BR M h n x) (hz : hzU (x_u x)) : CQ (Qi G (fun r M2 => r = (d_withdraw (x_u x) y).1 ∧ BR M2 h n (acX x (d_withdraw (x_u x) y).2) ∧ Tk M M2 n ∧ Cf M M2 h n ∧ Wt M2)) l G yX10_withdraw cX10_withdraw 3 ((some .int)) 4 88 0 0 [.ref h, .int y] M := by
  refine c_of ([some (.ref h), some (.int y), none] : Lo) RX10 "withdraw" (by decide) rfl rfl (Nat.le_of_ble_eq_true rfl) rfl (fun p e s m below meth c hC nw => ?_)
  have hR := hB.2.1
  have hnn := hB.1.1.2.2.2.2.2.2
  have hu := hR.2.1
  have u1 := hu.1
  have u2 := hu.2.1
  have u3 := hu.2.2.1
  have u4 := hu.2.2.2.1
  refine v_aload_n hC dX10_withdraw_0 rfl rfl ?_
  refine gf_10_1 hC hB.1.1.1 (wf_261 hW hB.1.1.1) mw_2_79 dX10_withdraw_1 ?_
  first | rw [hB.1.2.1.2.1] | erw [hB.1.2.1.2.1]
  refine v_iload_n hC dX10_withdraw_4 rfl rfl ?_
  refine cVi1 hC (c_X7_hasFile hR.1.1.1 hR.2.2.2.1.1 hu.1) yv_X7_hasFile rfl hB.1.2.2.1.1.1.1 mw_2_193 ⟨Nat.le_of_ble_eq_true rfl, Nat.le_of_ble_eq_true rfl⟩ ⟨Nat.le_of_ble_eq_true rfl, Nat.le_of_ble_eq_true rfl⟩ (Nat.le_of_ble_eq_true rfl) dX10_withdraw_5 (fun r5 M7 hq => ?_)
  obtain ⟨hm, hq2⟩ := hq
  have hm2 := hm.symm
  clear hm
  subst hm2
  obtain ⟨g5, rfl⟩ | ⟨g5, rfl⟩ := hq2
  · refine v_if_ne hC dX10_withdraw_8 (tgt := 13) (by decide) (fun _ => ?_) (fun hx => absurd hx (by decide))
    obtain ⟨f, hf, rfl⟩ := g5
    have h8 : f < 8 := by have := hu.1; omega
    have hF : m_t M (cA (n + 7) 4 f) = 10 := by rw [← ly_F2 hR.1 h8]; exact we_51 hW (wf_215 hW hR.1.1.1) h8
    refine v_aload_n hC dX10_withdraw_13 rfl rfl ?_
    refine gf_10_1 hC hB.1.1.1 (wf_261 hW hB.1.1.1) mw_2_79 dX10_withdraw_14 ?_
    first | rw [hB.1.2.1.2.1] | erw [hB.1.2.1.2.1]
    refine gf_7_3 hC hB.1.2.2.1.1.1.1 (wf_215 hW hB.1.2.2.1.1.1.1) mw_2_35 dX10_withdraw_17 ?_
    refine v_iload_n hC dX10_withdraw_20 rfl rfl ?_
    refine v_aald 51 _ hC (wf_215 hW hB.1.2.2.1.1.1.1) (by decide) rfl (ix_c (wz_51 hW (wf_215 hW hR.1.1.1)) h8) (we_51 hW (wf_215 hW hB.1.2.2.1.1.1.1) (by omega)) dX10_withdraw_21 ?_
    rw [ly_F2 hR.1 h8]
    refine v_ast2 hC dX10_withdraw_22 (by decide) (kk := ?_)
    refine v_aload_n hC dX10_withdraw_23 rfl rfl ?_
    refine cVi0 hC (c_X9_isInHand hF) yv_X9_isInHand rfl hF mw_3_22 ⟨Nat.le_of_ble_eq_true rfl, Nat.le_of_ble_eq_true rfl⟩ ⟨Nat.le_of_ble_eq_true rfl, Nat.le_of_ble_eq_true rfl⟩ (Nat.le_of_ble_eq_true rfl) dX10_withdraw_24 (fun r24 M26 hq => ?_)
    obtain ⟨hm, hq2⟩ := hq
    have hm2 := hm.symm
    clear hm
    subst hm2
    obtain ⟨g24, rfl⟩ | ⟨g24, rfl⟩ := hq2
    · rw [(hR.f42 hf).1] at g24
      refine v_if_ne hC dX10_withdraw_27 (tgt := 33) (by decide) (fun _ => ?_) (fun hx => absurd hx (by decide))
      refine v_aload_n hC dX10_withdraw_33 rfl rfl ?_
      refine gf_10_3 hC hB.1.1.1 (wf_263 hW hB.1.1.1) mw_2_81 dX10_withdraw_34 ?_
      first | rw [hB.1.2.1.2.2.2.1] | erw [hB.1.2.1.2.2.2.1]
      refine v_aload_n hC dX10_withdraw_37 rfl rfl ?_
      refine gf_10_1 hC hB.1.1.1 (wf_261 hW hB.1.1.1) mw_2_79 dX10_withdraw_38 ?_
      first | rw [hB.1.2.1.2.1] | erw [hB.1.2.1.2.1]
      refine cVv1 hC (c_X2_push hW hB hz) yv_X2_push rfl hB.1.1.2.2.2.1 mw_2_98 ⟨Nat.le_of_ble_eq_true rfl, Nat.le_of_ble_eq_true rfl⟩ ⟨Nat.le_of_ble_eq_true rfl, Nat.le_of_ble_eq_true rfl⟩ (Nat.le_of_ble_eq_true rfl) dX10_withdraw_41 (fun M43 hq => ?_)
      obtain ⟨hB2, hcf2, hW2, htk2, hx2, hsk2⟩ := hq
      have nw2 := hx2.nw nw
      have hkt2 := hx2.kt
      have hR2 := hB2.pushed
      have hnn2 := hB2.1.1.2.2.2.2.2.2
      refine v_aload_n hC dX10_withdraw_44 rfl rfl ?_
      refine v_iconst (v := 4) hC dX10_withdraw_45 (by decide) ?_
      refine pf_9_0 hC (hkt2.u hF) mw_1_131 dX10_withdraw_46 ?_
      refine v_aload_n hC dX10_withdraw_49 rfl rfl ?_
      refine v_bipush (v := (-5)) hC dX10_withdraw_50 (by decide) ?_
      refine pf_9_3 hC (hkt2.u hF) mw_1_140 dX10_withdraw_52 ?_
      have hR3 := CR.wA (v := -5) 7 f 0 (CR.wA (v := 4) 4 f 0 hR2 (cp_f h8 4 (by decide) (by decide)) rfl) (cp_f h8 7 (by decide) (by decide)) (A := cA (n + 7) 4 f) rfl
      have r4 := cA_r (S := n + 7) (cp_f h8 4 (by decide) (by decide))
      have hr3 := ((Rg.rf (M := M43)).si r4 (k := 244) (j := 0) (v := 4) (by decide)).si r4 (k := 247) (j := 0) (v := -5) (by decide)
      refine v_aload_n hC dX10_withdraw_55 rfl rfl ?_
      refine gf_9_5 hC (hkt2.u hF) mw_1_146 dX10_withdraw_56 ?_
      erw [hR2.2.2.2.2.1 f hf]
      refine v_aload_n hC dX10_withdraw_59 rfl rfl ?_
      refine cVi0 hC (c_X9_countWithoutTarget hW2 (hkt2.u hF) (hR3.fs2 hf)) yv_X9_countWithoutTarget rfl (hkt2.u hF) mw_3_26 ⟨Nat.le_of_ble_eq_true rfl, Nat.le_of_ble_eq_true rfl⟩ ⟨Nat.le_of_ble_eq_true rfl, Nat.le_of_ble_eq_true rfl⟩ (Nat.le_of_ble_eq_true rfl) dX10_withdraw_60 (fun r60 M62 hq => ?_)
      obtain ⟨rfl, hm⟩ := hq
      have hm2 := hm.symm
      clear hm
      subst hm2
      refine v_isub hC dX10_withdraw_63 ?_
      refine v_iret hC dX10_withdraw_64 ?_
      have hD : d_withdraw (x_u x) (nI f) = (nI (n_s (x_u x) f) - y_f (x_u x) 0 f, some (withU (x_u x) f)) := by rw [d_withdraw, inN_s hf]; exact if_neg (fun q => q g24)
      rw [hD]; exact ⟨congrArg (fun q => nI (n_s (x_u x) f) - q) ((hR3.wy2 hf).trans (y_f_e (fun _ => rfl) rfl)), hB2.act nw2 hW2 hr3 hR3, Tk.tr htk2 (hr3.tk hnn2 (Nat.le_refl _)), hcf2.tr (hr3.cf (Nat.le_refl _) (by omega)), hW2⟩
    · rw [(hR.f42 hf).1] at g24
      refine v_if_ne hC dX10_withdraw_27 (tgt := 33) (by decide) (fun hx => absurd hx (by decide)) (fun _ => ?_)
      refine v_bipush (v := (-4)) hC dX10_withdraw_30 (by decide) ?_
      refine v_iret hC dX10_withdraw_32 ?_
      have hD : d_withdraw (x_u x) (nI f) = (-4, none) := by rw [d_withdraw, inN_s hf]; exact if_pos g24
      rw [hD]; exact ⟨rfl, hB, Tk.rf, Cf.rf, hW⟩
  · refine v_if_ne hC dX10_withdraw_8 (tgt := 13) (by decide) (fun hx => absurd hx (by decide)) (fun _ => ?_)
    refine v_iconst (v := (-1)) hC dX10_withdraw_11 (by decide) ?_
    refine v_iret hC dX10_withdraw_12 ?_
    have hD : d_withdraw (x_u x) y = (-1, none) := by rw [d_withdraw, inN_o g5]
    rw [hD]; exact ⟨rfl, hB, Tk.rf, Cf.rf, hW⟩

set_option maxHeartbeats 4000000 in
set_option maxRecDepth 100000 in
theorem c_X10_deliver {l : Launch} {G : Gd} {M : Me} {h n : Nat} {x : Xs} {y : Int32} (hW : Wt M) (hB : BR M h n x) (hz : hzU (x_u x)) : CQ (Qi G (fun r M2 => r = (d_deliver (x_u x) y).1 ∧ BR M2 h n (acX x (d_deliver (x_u x) y).2) ∧ Tk M M2 n ∧ Cf M M2 h n ∧ Wt M2)) l G yX10_deliver cX10_deliver 3 ((some .int)) 4 88 0 0 [.ref h, .int y] M := by
  refine c_of ([some (.ref h), some (.int y), none] : Lo) RX10 "deliver" (by decide) rfl rfl (Nat.le_of_ble_eq_true rfl) rfl (fun p e s m below meth c hC nw => ?_)
  have hR := hB.2.1
  have hnn := hB.1.1.2.2.2.2.2.2
  have hu := hR.2.1
  have u1 := hu.1
  have u2 := hu.2.1
  have u3 := hu.2.2.1
  have u4 := hu.2.2.2.1
  refine v_aload_n hC dX10_deliver_0 rfl rfl ?_
  refine gf_10_1 hC hB.1.1.1 (wf_261 hW hB.1.1.1) mw_2_79 dX10_deliver_1 ?_
  first | rw [hB.1.2.1.2.1] | erw [hB.1.2.1.2.1]
  refine v_iload_n hC dX10_deliver_4 rfl rfl ?_
  refine cVi1 hC (c_X7_hasFile hR.1.1.1 hR.2.2.2.1.1 hu.1) yv_X7_hasFile rfl hB.1.2.2.1.1.1.1 mw_2_193 ⟨Nat.le_of_ble_eq_true rfl, Nat.le_of_ble_eq_true rfl⟩ ⟨Nat.le_of_ble_eq_true rfl, Nat.le_of_ble_eq_true rfl⟩ (Nat.le_of_ble_eq_true rfl) dX10_deliver_5 (fun r5 M7 hq => ?_)
  obtain ⟨hm, hq2⟩ := hq
  have hm2 := hm.symm
  clear hm
  subst hm2
  obtain ⟨g5, rfl⟩ | ⟨g5, rfl⟩ := hq2
  · refine v_if_ne hC dX10_deliver_8 (tgt := 13) (by decide) (fun _ => ?_) (fun hx => absurd hx (by decide))
    obtain ⟨f, hf, rfl⟩ := g5
    have h8 : f < 8 := by have := hu.1; omega
    have hF : m_t M (cA (n + 7) 4 f) = 10 := by rw [← ly_F2 hR.1 h8]; exact we_51 hW (wf_215 hW hR.1.1.1) h8
    refine v_aload_n hC dX10_deliver_13 rfl rfl ?_
    refine gf_10_1 hC hB.1.1.1 (wf_261 hW hB.1.1.1) mw_2_79 dX10_deliver_14 ?_
    first | rw [hB.1.2.1.2.1] | erw [hB.1.2.1.2.1]
    refine gf_7_3 hC hB.1.2.2.1.1.1.1 (wf_215 hW hB.1.2.2.1.1.1.1) mw_2_35 dX10_deliver_17 ?_
    refine v_iload_n hC dX10_deliver_20 rfl rfl ?_
    refine v_aald 51 _ hC (wf_215 hW hB.1.2.2.1.1.1.1) (by decide) rfl (ix_c (wz_51 hW (wf_215 hW hR.1.1.1)) h8) (we_51 hW (wf_215 hW hB.1.2.2.1.1.1.1) (by omega)) dX10_deliver_21 ?_
    rw [ly_F2 hR.1 h8]
    refine v_ast2 hC dX10_deliver_22 (by decide) (kk := ?_)
    refine v_aload_n hC dX10_deliver_23 rfl rfl ?_
    refine gf_9_0 hC hF mw_1_131 dX10_deliver_24 ?_
    rw [(hR.f42 hf).1]
    refine v_iconst (v := 2) hC dX10_deliver_27 (by decide) ?_
    refine v_icmp_eq hC dX10_deliver_28 (tgt := 34) (by decide) (fun h28 => ?_) (fun h28 => ?_)
    · refine v_aload_n hC dX10_deliver_34 rfl rfl ?_
      refine gf_10_3 hC hB.1.1.1 (wf_263 hW hB.1.1.1) mw_2_81 dX10_deliver_35 ?_
      first | rw [hB.1.2.1.2.2.2.1] | erw [hB.1.2.1.2.2.2.1]
      refine v_aload_n hC dX10_deliver_38 rfl rfl ?_
      refine gf_10_1 hC hB.1.1.1 (wf_261 hW hB.1.1.1) mw_2_79 dX10_deliver_39 ?_
      first | rw [hB.1.2.1.2.1] | erw [hB.1.2.1.2.1]
      refine cVv1 hC (c_X2_push hW hB hz) yv_X2_push rfl hB.1.1.2.2.2.1 mw_2_98 ⟨Nat.le_of_ble_eq_true rfl, Nat.le_of_ble_eq_true rfl⟩ ⟨Nat.le_of_ble_eq_true rfl, Nat.le_of_ble_eq_true rfl⟩ (Nat.le_of_ble_eq_true rfl) dX10_deliver_42 (fun M44 hq => ?_)
      obtain ⟨hB2, hcf2, hW2, htk2, hx2, hsk2⟩ := hq
      have nw2 := hx2.nw nw
      have hkt2 := hx2.kt
      have hR2 := hB2.pushed
      have hnn2 := hB2.1.1.2.2.2.2.2.2
      refine v_aload_n hC dX10_deliver_45 rfl rfl ?_
      refine v_iconst (v := 3) hC dX10_deliver_46 (by decide) ?_
      refine pf_9_0 hC (hkt2.u hF) mw_1_131 dX10_deliver_47 ?_
      have hR3 : CR (s_i M44 244 (cA (n + 7) 4 f) 0 3) (n + 7) (delU (x_u x) f) := CR.wA (v := 3) 4 f 0 hR2 (cp_f h8 4 (by decide) (by decide)) rfl
      have r4 := cA_r (S := n + 7) (cp_f h8 4 (by decide) (by decide))
      have hr3 := (Rg.rf (M := M44)).si r4 (k := 244) (j := 0) (v := 3) (by decide)
      refine v_aload_n hC dX10_deliver_50 rfl rfl ?_
      refine cVi0 hC (c_X9_cost hW2 (hkt2.u hF) (hR3.fs2 hf)) yv_X9_cost rfl (hkt2.u hF) mw_3_163 ⟨Nat.le_of_ble_eq_true rfl, Nat.le_of_ble_eq_true rfl⟩ ⟨Nat.le_of_ble_eq_true rfl, Nat.le_of_ble_eq_true rfl⟩ (Nat.le_of_ble_eq_true rfl) dX10_deliver_51 (fun r51 M53 hq => ?_)
      obtain ⟨hr, hm⟩ := hq
      have hm2 := hm.symm
      clear hm
      subst hm2
      rw [show m_i _ 244 (cA (n + 7) 4 f) 0 = q_i (delU (x_u x) f) 4 f 0 from (hR3.f42 hf).1, show m_i _ 247 (cA (n + 7) 4 f) 0 = q_i (delU (x_u x) f) 7 f 0 from (hR3.f42 hf).2.2.2.1] at hr
      refine v_iret hC dX10_deliver_54 ?_
      have hD : d_deliver (x_u x) (nI f) = (k_f (delU (x_u x) f) f, some (delU (x_u x) f)) := by rw [d_deliver, inN_s hf]; exact if_neg (fun q => q h28)
      rw [hD]; exact ⟨hr, hB2.act nw2 hW2 hr3 hR3, Tk.tr htk2 (hr3.tk hnn2 (Nat.le_refl _)), hcf2.tr (hr3.cf (Nat.le_refl _) (by omega)), hW2⟩
    · refine v_bipush (v := (-4)) hC dX10_deliver_31 (by decide) ?_
      refine v_iret hC dX10_deliver_33 ?_
      have hD : d_deliver (x_u x) (nI f) = (-4, none) := by rw [d_deliver, inN_s hf]; exact if_pos h28
      rw [hD]; exact ⟨rfl, hB, Tk.rf, Cf.rf, hW⟩
  · refine v_if_ne hC dX10_deliver_8 (tgt := 13) (by decide) (fun hx => absurd hx (by decide)) (fun _ => ?_)
    refine v_iconst (v := (-1)) hC dX10_deliver_11 (by decide) ?_
    refine v_iret hC dX10_deliver_12 ?_
    have hD : d_deliver (x_u x) y = (-1, none) := by rw [d_deliver, inN_o g5]
    rw [hD]; exact ⟨rfl, hB, Tk.rf, Cf.rf, hW⟩

set_option maxHeartbeats 4000000 in
set_option maxRecDepth 100000 in
theorem c_X10_reject {l : Launch} {G : Gd} {M : Me} {h n : Nat} {x : Xs} {y z : Int32} (hW : Wt M) (hB : BR M h n x) (hz : hzU (x_u x)) : CQ (Qi G (fun r M2 => r = (d_reject (x_u x) y z).1 ∧ BR M2 h n (acX x (d_reject (x_u x) y z).2) ∧ Tk M M2 n ∧ Cf M M2 h n ∧ Wt M2)) l G yX10_reject cX10_reject 4 ((some .int)) 4 88 0 0 [.ref h, .int y, .int z] M := by
  refine c_of ([some (.ref h), some (.int y), some (.int z), none] : Lo) RX10 "reject" (by decide) rfl rfl (Nat.le_of_ble_eq_true rfl) rfl (fun p e s m below meth c hC nw => ?_)
  have hR := hB.2.1
  have hnn := hB.1.1.2.2.2.2.2.2
  have hu := hR.2.1
  have u1 := hu.1
  have u2 := hu.2.1
  have u3 := hu.2.2.1
  have u4 := hu.2.2.2.1
  refine v_aload_n hC dX10_reject_0 rfl rfl ?_
  refine gf_10_1 hC hB.1.1.1 (wf_261 hW hB.1.1.1) mw_2_79 dX10_reject_1 ?_
  first | rw [hB.1.2.1.2.1] | erw [hB.1.2.1.2.1]
  refine v_iload_n hC dX10_reject_4 rfl rfl ?_
  refine v_iload_n hC dX10_reject_5 rfl rfl ?_
  refine cVi2 hC (c_X7_hasSegment hW hR.1.1.1 hR) yv_X7_hasSegment rfl hB.1.2.2.1.1.1.1 mw_3_93 ⟨Nat.le_of_ble_eq_true rfl, Nat.le_of_ble_eq_true rfl⟩ ⟨Nat.le_of_ble_eq_true rfl, Nat.le_of_ble_eq_true rfl⟩ (Nat.le_of_ble_eq_true rfl) dX10_reject_6 (fun r6 M8 hq => ?_)
  obtain ⟨hm, hq2⟩ := hq
  have hm2 := hm.symm
  clear hm
  subst hm2
  obtain ⟨g6, rfl⟩ | ⟨g6, rfl⟩ := hq2
  · refine v_if_ne hC dX10_reject_9 (tgt := 14) (by decide) (fun _ => ?_) (fun hx => absurd hx (by decide))
    obtain ⟨f, t, hf, ht9, rfl, rfl⟩ := g6
    have h8 : f < 8 := by have := hu.1; omega
    have hF : m_t M (cA (n + 7) 4 f) = 10 := by rw [← ly_F2 hR.1 h8]; exact we_51 hW (wf_215 hW hR.1.1.1) h8
    have h12s := hu.2.2.2.2 f hf
    have h12 : t < 12 := by omega
    refine v_aload_n hC dX10_reject_14 rfl rfl ?_
    refine gf_10_1 hC hB.1.1.1 (wf_261 hW hB.1.1.1) mw_2_79 dX10_reject_15 ?_
    first | rw [hB.1.2.1.2.1] | erw [hB.1.2.1.2.1]
    refine gf_7_3 hC hB.1.2.2.1.1.1.1 (wf_215 hW hB.1.2.2.1.1.1.1) mw_2_35 dX10_reject_18 ?_
    refine v_iload_n hC dX10_reject_21 rfl rfl ?_
    refine v_aald 51 _ hC (wf_215 hW hB.1.2.2.1.1.1.1) (by decide) rfl (ix_c (wz_51 hW (wf_215 hW hR.1.1.1)) h8) (we_51 hW (wf_215 hW hB.1.2.2.1.1.1.1) (by omega)) dX10_reject_22 ?_
    rw [ly_F2 hR.1 h8]
    refine v_ast3 hC dX10_reject_23 (by decide) (kk := ?_)
    refine v_aload_n hC dX10_reject_24 rfl rfl ?_
    refine gf_9_0 hC hF mw_1_131 dX10_reject_25 ?_
    rw [(hR.f42 hf).1]
    refine v_iconst (v := 2) hC dX10_reject_28 (by decide) ?_
    refine v_icmp_eq hC dX10_reject_29 (tgt := 35) (by decide) (fun h29 => ?_) (fun h29 => ?_)
    · refine v_aload_n hC dX10_reject_35 rfl rfl ?_
      refine gf_10_3 hC hB.1.1.1 (wf_263 hW hB.1.1.1) mw_2_81 dX10_reject_36 ?_
      first | rw [hB.1.2.1.2.2.2.1] | erw [hB.1.2.1.2.2.2.1]
      refine v_aload_n hC dX10_reject_39 rfl rfl ?_
      refine gf_10_1 hC hB.1.1.1 (wf_261 hW hB.1.1.1) mw_2_79 dX10_reject_40 ?_
      first | rw [hB.1.2.1.2.1] | erw [hB.1.2.1.2.1]
      refine cVv1 hC (c_X2_push hW hB hz) yv_X2_push rfl hB.1.1.2.2.2.1 mw_2_98 ⟨Nat.le_of_ble_eq_true rfl, Nat.le_of_ble_eq_true rfl⟩ ⟨Nat.le_of_ble_eq_true rfl, Nat.le_of_ble_eq_true rfl⟩ (Nat.le_of_ble_eq_true rfl) dX10_reject_43 (fun M45 hq => ?_)
      obtain ⟨hB2, hcf2, hW2, htk2, hx2, hsk2⟩ := hq
      have nw2 := hx2.nw nw
      have hkt2 := hx2.kt
      have hR2 := hB2.pushed
      have hnn2 := hB2.1.1.2.2.2.2.2.2
      refine v_aload_n hC dX10_reject_46 rfl rfl ?_
      refine v_iload_n hC dX10_reject_47 rfl rfl ?_
      refine v_iconst (v := 0) hC dX10_reject_48 (by decide) ?_
      refine v_iconst (v := 0) hC dX10_reject_49 (by decide) ?_
      refine cVv3 hC (c_X9_putTarget hW2 (hkt2.u hF) h12) yv_X9_putTarget rfl (hkt2.u hF) mw_3_117 ⟨Nat.le_of_ble_eq_true rfl, Nat.le_of_ble_eq_true rfl⟩ ⟨Nat.le_of_ble_eq_true rfl, Nat.le_of_ble_eq_true rfl⟩ (Nat.le_of_ble_eq_true rfl) dX10_reject_50 (fun M52 hq => ?_)
      subst hq
      rw [(ly_T2 hR2.1 h8).1, (ly_T2 hR2.1 h8).2.1]
      refine v_aload_n hC dX10_reject_53 rfl rfl ?_
      refine v_iconst (v := 1) hC dX10_reject_54 (by decide) ?_
      refine pf_9_0 hC (hkt2.u hF) mw_1_131 dX10_reject_55 ?_
      refine v_aload_n hC dX10_reject_58 rfl rfl ?_
      refine v_bipush (v := (-5)) hC dX10_reject_59 (by decide) ?_
      refine pf_9_2 hC (hkt2.u hF) mw_1_137 dX10_reject_61 ?_
      refine v_aload_n hC dX10_reject_64 rfl rfl ?_
      refine v_dup hC dX10_reject_65 rfl ?_
      refine gf_9_4 hC (hkt2.u hF) mw_1_143 dX10_reject_66 ?_
      erw [(hR2.f42 hf).2.2.2.2]
      refine v_iconst (v := 1) hC dX10_reject_69 (by decide) ?_
      refine v_iadd hC dX10_reject_70 ?_
      refine pf_9_4 hC (hkt2.u hF) mw_1_143 dX10_reject_71 ?_
      have hR3 := CR.wA (v := q_i (x_u x) 8 f 0 + 1) 8 f 0 (CR.wA (v := -5) 6 f 0 (CR.wA (v := 1) 4 f 0 (CR.wA (v := 0) 10 f t (CR.wA (v := 0) 9 f t hR2 (cp_s h8 h12 9 (by decide) (by decide)) rfl) (cp_s h8 h12 10 (by decide) (by decide)) rfl) (cp_f h8 4 (by decide) (by decide)) (A := cA (n + 7) 4 f) rfl) (cp_f h8 6 (by decide) (by decide)) (A := cA (n + 7) 4 f) rfl) (cp_f h8 8 (by decide) (by decide)) (A := cA (n + 7) 4 f) rfl
      have r4 := cA_r (S := n + 7) (cp_f h8 4 (by decide) (by decide))
      have hr3 := (((((Rg.rf (M := M45)).si (cA_r (S := n + 7) (cp_s h8 h12 9 (by decide) (by decide))) (k := 24) (j := t) (v := 0) (by decide)).si (cA_r (S := n + 7) (cp_s h8 h12 10 (by decide) (by decide))) (k := 25) (j := t) (v := 0) (by decide)).si r4 (k := 244) (j := 0) (v := 1) (by decide)).si r4 (k := 246) (j := 0) (v := -5) (by decide)).si r4 (k := 248) (j := 0) (v := q_i (x_u x) 8 f 0 + 1) (by decide)
      refine v_aload_n hC dX10_reject_74 rfl rfl ?_
      refine gf_9_4 hC (hkt2.u hF) mw_1_143 dX10_reject_75 ?_
      rw [i_se]
      refine v_iret hC dX10_reject_78 ?_
      have hD : d_reject (x_u x) (nI f) (nI t) = (q_i (x_u x) 8 f 0 + 1, some (rejU (x_u x) f t)) := by rw [d_reject, inN_s hf]; show (match inN (nI t) (n_s (x_u x) f) with | none => _ | some s => _) = _; rw [inN_s ht9 (by omega)]; exact if_neg (fun q => q h29)
      rw [hD]; exact ⟨rfl, hB2.act nw2 hW2 hr3 hR3, Tk.tr htk2 (hr3.tk hnn2 (Nat.le_refl _)), hcf2.tr (hr3.cf (Nat.le_refl _) (by omega)), hW2⟩
    · refine v_bipush (v := (-4)) hC dX10_reject_32 (by decide) ?_
      refine v_iret hC dX10_reject_34 ?_
      have hD : d_reject (x_u x) (nI f) (nI t) = (-4, none) := by rw [d_reject, inN_s hf]; show (match inN (nI t) (n_s (x_u x) f) with | none => _ | some s => _) = _; rw [inN_s ht9 (by omega)]; exact if_pos h29
      rw [hD]; exact ⟨rfl, hB, Tk.rf, Cf.rf, hW⟩
  · refine v_if_ne hC dX10_reject_9 (tgt := 14) (by decide) (fun hx => absurd hx (by decide)) (fun _ => ?_)
    refine v_iconst (v := (-1)) hC dX10_reject_12 (by decide) ?_
    refine v_iret hC dX10_reject_13 ?_
    have hD : d_reject (x_u x) y z = (-1, none) := by
      rw [d_reject]
      by_cases w : rgI y (n_f (x_u x))
      · obtain ⟨f, hf, rfl⟩ := w
        rw [inN_s hf]
        by_cases w2 : rgI z (n_s (x_u x) f)
        · obtain ⟨t, ht9, rfl⟩ := w2
          exact absurd ⟨f, t, hf, ht9, rfl, rfl⟩ g6
        · show (match inN z (n_s (x_u x) f) with | none => _ | some s => _) = _
          rw [inN_o w2 (by have := hu.2.2.2.2 f hf; omega)]
      · rw [inN_o w]
    rw [hD]; exact ⟨rfl, hB, Tk.rf, Cf.rf, hW⟩

set_option maxHeartbeats 4000000 in
set_option maxRecDepth 100000 in
theorem c_X10_settle {l : Launch} {G : Gd} {M : Me} {h n : Nat} {x : Xs} {y z : Int32} (hW : Wt M) (hB : BR M h n x) (hz : hzU (x_u x)) (hD6 : WfD (x_u x)) : CQ (Qi G (fun r M2 => r = (d_settle (x_u x) y z).1 ∧ BR M2 h n (acX x (d_settle (x_u x) y z).2) ∧ Tk M M2 n ∧ Cf M M2 h n ∧ Wt M2)) l G yX10_settle cX10_settle 3 ((some .int)) 4 88 0 0 [.ref h, .int y, .int z] M := by
  refine c_of ([some (.ref h), some (.int y), some (.int z)] : Lo) RX10 "settle" (by decide) rfl rfl (Nat.le_of_ble_eq_true rfl) rfl (fun p e s m below meth c hC nw => ?_)
  have hR := hB.2.1
  have hnn := hB.1.1.2.2.2.2.2.2
  have hu := hR.2.1
  have u1 := hu.1
  have u2 := hu.2.1
  have u3 := hu.2.2.1
  have u4 := hu.2.2.2.1
  have hM5 : m_t M (n + 7 + 43) = 5 := by rw [← ly_M hR.1]; exact wf_218 hW hR.1.1.1
  refine v_aload_n hC dX10_settle_0 rfl rfl ?_
  refine gf_10_1 hC hB.1.1.1 (wf_261 hW hB.1.1.1) mw_2_79 dX10_settle_1 ?_
  first | rw [hB.1.2.1.2.1] | erw [hB.1.2.1.2.1]
  refine gf_7_6 hC hB.1.2.2.1.1.1.1 (wf_218 hW hB.1.2.2.1.1.1.1) mw_2_41 dX10_settle_4 ?_
  rw [ly_M hR.1]
  refine v_iload_n hC dX10_settle_7 rfl rfl ?_
  refine cVi1 hC (c_X4_hasDispute hM5 hR.2.2.2.1.2.2.2 hu.2.2.2.1) yv_X4_hasDispute rfl hM5 mw_3_179 ⟨Nat.le_of_ble_eq_true rfl, Nat.le_of_ble_eq_true rfl⟩ ⟨Nat.le_of_ble_eq_true rfl, Nat.le_of_ble_eq_true rfl⟩ (Nat.le_of_ble_eq_true rfl) dX10_settle_8 (fun r8 M10 hq => ?_)
  obtain ⟨hm, hq2⟩ := hq
  have hm2 := hm.symm
  clear hm
  subst hm2
  obtain ⟨g8, rfl⟩ | ⟨g8, rfl⟩ := hq2
  · refine v_if_ne hC dX10_settle_11 (tgt := 16) (by decide) (fun _ => ?_) (fun hx => absurd hx (by decide))
    obtain ⟨d, hd, rfl⟩ := g8
    have h10 : d < 10 := by have := hu.2.2.2.1; omega
    have hD1 : m_t M (cA (n + 7) 13 d) = 1 := by rw [← ly_D2 hR.1 h10]; exact we_54 hW (wf_167 hW hM5) h10
    obtain ⟨e1, he1, hde⟩ := hD6 d hd
    have hcl : (q_i (x_u x) 13 d 0).toNatClampNeg = e1 := by rw [hde, nI_clamp (by have := hu.2.2.1; omega)]
    refine v_iload_n hC dX10_settle_16 rfl rfl ?_
    refine v_if_eq hC dX10_settle_17 (tgt := 28) (by decide) (fun h17 => ?_) (fun h17 => ?_)
    · refine v_aload_n hC dX10_settle_28 rfl rfl ?_
      refine gf_10_1 hC hB.1.1.1 (wf_261 hW hB.1.1.1) mw_2_79 dX10_settle_29 ?_
      first | rw [hB.1.2.1.2.1] | erw [hB.1.2.1.2.1]
      refine gf_7_6 hC hB.1.2.2.1.1.1.1 (wf_218 hW hB.1.2.2.1.1.1.1) mw_2_41 dX10_settle_32 ?_
      rw [ly_M hR.1]
      refine gf_4_3 hC hM5 (wf_167 hW hM5) mw_2_14 dX10_settle_35 ?_
      refine v_iload_n hC dX10_settle_38 rfl rfl ?_
      refine v_aald 54 _ hC (wf_167 hW hM5) (by decide) rfl (ix_c (wz_54 hW (wf_167 hW hM5)) h10) (we_54 hW (wf_167 hW hM5) (by omega)) dX10_settle_39 ?_
      rw [ly_D2 hR.1 h10]
      refine cVi0 hC (c_X0_isSettled hD1) yv_X0_isSettled rfl hD1 mw_3_183 ⟨Nat.le_of_ble_eq_true rfl, Nat.le_of_ble_eq_true rfl⟩ ⟨Nat.le_of_ble_eq_true rfl, Nat.le_of_ble_eq_true rfl⟩ (Nat.le_of_ble_eq_true rfl) dX10_settle_40 (fun r40 M42 hq => ?_)
      obtain ⟨hm, hq2⟩ := hq
      have hm2 := hm.symm
      clear hm
      subst hm2
      obtain ⟨g40, rfl⟩ | ⟨g40, rfl⟩ := hq2
      · rw [(hR.di2 hd).2.2.2] at g40
        refine v_if_eq hC dX10_settle_43 (tgt := 49) (by decide) (fun hx => absurd hx (by decide)) (fun _ => ?_)
        refine v_bipush (v := (-4)) hC dX10_settle_46 (by decide) ?_
        refine v_iret hC dX10_settle_48 ?_
        have hD : d_settle (x_u x) (nI d) z = (-4, none) := by rw [d_settle, inN_s hd (by have := hu.2.2.2.1; omega)]; exact (if_neg (fun q => by first | exact q.1 h17 | exact q.2 h22)).trans (if_pos g40)
        rw [hD]; exact ⟨rfl, hB, Tk.rf, Cf.rf, hW⟩
      · rw [(hR.di2 hd).2.2.2] at g40
        refine v_if_eq hC dX10_settle_43 (tgt := 49) (by decide) (fun _ => ?_) (fun hx => absurd hx (by decide))
        refine v_aload_n hC dX10_settle_49 rfl rfl ?_
        refine gf_10_3 hC hB.1.1.1 (wf_263 hW hB.1.1.1) mw_2_81 dX10_settle_50 ?_
        first | rw [hB.1.2.1.2.2.2.1] | erw [hB.1.2.1.2.2.2.1]
        refine v_aload_n hC dX10_settle_53 rfl rfl ?_
        refine gf_10_1 hC hB.1.1.1 (wf_261 hW hB.1.1.1) mw_2_79 dX10_settle_54 ?_
        first | rw [hB.1.2.1.2.1] | erw [hB.1.2.1.2.1]
        refine cVv1 hC (c_X2_push hW hB hz) yv_X2_push rfl hB.1.1.2.2.2.1 mw_2_98 ⟨Nat.le_of_ble_eq_true rfl, Nat.le_of_ble_eq_true rfl⟩ ⟨Nat.le_of_ble_eq_true rfl, Nat.le_of_ble_eq_true rfl⟩ (Nat.le_of_ble_eq_true rfl) dX10_settle_57 (fun M59 hq => ?_)
        obtain ⟨hB2, hcf2, hW2, htk2, hx2, hsk2⟩ := hq
        have nw2 := hx2.nw nw
        have hkt2 := hx2.kt
        have hR2 := hB2.pushed
        have hnn2 := hB2.1.1.2.2.2.2.2.2
        refine v_aload_n hC dX10_settle_60 rfl rfl ?_
        refine gf_10_1 hC (hkt2.u hB.1.1.1) (wf_261 hW2 (hkt2.u hB.1.1.1)) mw_2_79 dX10_settle_61 ?_
        first | rw [hB2.1.2.1.2.1] | erw [hB2.1.2.1.2.1]
        refine v_iload_n hC dX10_settle_64 rfl rfl ?_
        refine v_iload_n hC dX10_settle_65 rfl rfl ?_
        refine cVi2 hC (c_X7_decide hW2 hB2.1.2.2.1.1.1.1 hR2 hd he1 hde) yv_X7_decide rfl hB2.1.2.2.1.1.1.1 mw_3_184 ⟨Nat.le_of_ble_eq_true rfl, Nat.le_of_ble_eq_true rfl⟩ ⟨Nat.le_of_ble_eq_true rfl, Nat.le_of_ble_eq_true rfl⟩ (Nat.le_of_ble_eq_true rfl) dX10_settle_66 (fun r66 M68 hq => ?_)
        obtain ⟨rfl, hR3, hr3, hx3⟩ := hq
        have hW3 := hW2.fx hx3
        refine v_iret hC dX10_settle_69 ?_
        have hD : d_settle (x_u x) (nI d) z = (decC (x_u x) d e1 z, some (decU (x_u x) d e1 z)) := by rw [d_settle, inN_s hd (by have := hu.2.2.2.1; omega)]; show (if _ then _ else _) = _; rw [hcl]; exact (if_neg (fun q => by first | exact q.1 h17 | exact q.2 h22)).trans (if_neg g40)
        rw [hD]; exact ⟨rfl, hB2.act nw2 hW2 hr3 hR3, Tk.tr htk2 (hr3.tk hnn2 (Nat.le_refl _)), hcf2.tr (hr3.cf (Nat.le_refl _) (by omega)), hW3⟩
    · refine v_iload_n hC dX10_settle_20 rfl rfl ?_
      refine v_iconst (v := 1) hC dX10_settle_21 (by decide) ?_
      refine v_icmp_eq hC dX10_settle_22 (tgt := 28) (by decide) (fun h22 => ?_) (fun h22 => ?_)
      · refine v_aload_n hC dX10_settle_28 rfl rfl ?_
        refine gf_10_1 hC hB.1.1.1 (wf_261 hW hB.1.1.1) mw_2_79 dX10_settle_29 ?_
        first | rw [hB.1.2.1.2.1] | erw [hB.1.2.1.2.1]
        refine gf_7_6 hC hB.1.2.2.1.1.1.1 (wf_218 hW hB.1.2.2.1.1.1.1) mw_2_41 dX10_settle_32 ?_
        rw [ly_M hR.1]
        refine gf_4_3 hC hM5 (wf_167 hW hM5) mw_2_14 dX10_settle_35 ?_
        refine v_iload_n hC dX10_settle_38 rfl rfl ?_
        refine v_aald 54 _ hC (wf_167 hW hM5) (by decide) rfl (ix_c (wz_54 hW (wf_167 hW hM5)) h10) (we_54 hW (wf_167 hW hM5) (by omega)) dX10_settle_39 ?_
        rw [ly_D2 hR.1 h10]
        refine cVi0 hC (c_X0_isSettled hD1) yv_X0_isSettled rfl hD1 mw_3_183 ⟨Nat.le_of_ble_eq_true rfl, Nat.le_of_ble_eq_true rfl⟩ ⟨Nat.le_of_ble_eq_true rfl, Nat.le_of_ble_eq_true rfl⟩ (Nat.le_of_ble_eq_true rfl) dX10_settle_40 (fun r40 M42 hq => ?_)
        obtain ⟨hm, hq2⟩ := hq
        have hm2 := hm.symm
        clear hm
        subst hm2
        obtain ⟨g40, rfl⟩ | ⟨g40, rfl⟩ := hq2
        · rw [(hR.di2 hd).2.2.2] at g40
          refine v_if_eq hC dX10_settle_43 (tgt := 49) (by decide) (fun hx => absurd hx (by decide)) (fun _ => ?_)
          refine v_bipush (v := (-4)) hC dX10_settle_46 (by decide) ?_
          refine v_iret hC dX10_settle_48 ?_
          have hD : d_settle (x_u x) (nI d) z = (-4, none) := by rw [d_settle, inN_s hd (by have := hu.2.2.2.1; omega)]; exact (if_neg (fun q => by first | exact q.1 h17 | exact q.2 h22)).trans (if_pos g40)
          rw [hD]; exact ⟨rfl, hB, Tk.rf, Cf.rf, hW⟩
        · rw [(hR.di2 hd).2.2.2] at g40
          refine v_if_eq hC dX10_settle_43 (tgt := 49) (by decide) (fun _ => ?_) (fun hx => absurd hx (by decide))
          refine v_aload_n hC dX10_settle_49 rfl rfl ?_
          refine gf_10_3 hC hB.1.1.1 (wf_263 hW hB.1.1.1) mw_2_81 dX10_settle_50 ?_
          first | rw [hB.1.2.1.2.2.2.1] | erw [hB.1.2.1.2.2.2.1]
          refine v_aload_n hC dX10_settle_53 rfl rfl ?_
          refine gf_10_1 hC hB.1.1.1 (wf_261 hW hB.1.1.1) mw_2_79 dX10_settle_54 ?_
          first | rw [hB.1.2.1.2.1] | erw [hB.1.2.1.2.1]
          refine cVv1 hC (c_X2_push hW hB hz) yv_X2_push rfl hB.1.1.2.2.2.1 mw_2_98 ⟨Nat.le_of_ble_eq_true rfl, Nat.le_of_ble_eq_true rfl⟩ ⟨Nat.le_of_ble_eq_true rfl, Nat.le_of_ble_eq_true rfl⟩ (Nat.le_of_ble_eq_true rfl) dX10_settle_57 (fun M59 hq => ?_)
          obtain ⟨hB2, hcf2, hW2, htk2, hx2, hsk2⟩ := hq
          have nw2 := hx2.nw nw
          have hkt2 := hx2.kt
          have hR2 := hB2.pushed
          have hnn2 := hB2.1.1.2.2.2.2.2.2
          refine v_aload_n hC dX10_settle_60 rfl rfl ?_
          refine gf_10_1 hC (hkt2.u hB.1.1.1) (wf_261 hW2 (hkt2.u hB.1.1.1)) mw_2_79 dX10_settle_61 ?_
          first | rw [hB2.1.2.1.2.1] | erw [hB2.1.2.1.2.1]
          refine v_iload_n hC dX10_settle_64 rfl rfl ?_
          refine v_iload_n hC dX10_settle_65 rfl rfl ?_
          refine cVi2 hC (c_X7_decide hW2 hB2.1.2.2.1.1.1.1 hR2 hd he1 hde) yv_X7_decide rfl hB2.1.2.2.1.1.1.1 mw_3_184 ⟨Nat.le_of_ble_eq_true rfl, Nat.le_of_ble_eq_true rfl⟩ ⟨Nat.le_of_ble_eq_true rfl, Nat.le_of_ble_eq_true rfl⟩ (Nat.le_of_ble_eq_true rfl) dX10_settle_66 (fun r66 M68 hq => ?_)
          obtain ⟨rfl, hR3, hr3, hx3⟩ := hq
          have hW3 := hW2.fx hx3
          refine v_iret hC dX10_settle_69 ?_
          have hD : d_settle (x_u x) (nI d) z = (decC (x_u x) d e1 z, some (decU (x_u x) d e1 z)) := by rw [d_settle, inN_s hd (by have := hu.2.2.2.1; omega)]; show (if _ then _ else _) = _; rw [hcl]; exact (if_neg (fun q => by first | exact q.1 h17 | exact q.2 h22)).trans (if_neg g40)
          rw [hD]; exact ⟨rfl, hB2.act nw2 hW2 hr3 hR3, Tk.tr htk2 (hr3.tk hnn2 (Nat.le_refl _)), hcf2.tr (hr3.cf (Nat.le_refl _) (by omega)), hW3⟩
      · refine v_bipush (v := (-2)) hC dX10_settle_25 (by decide) ?_
        refine v_iret hC dX10_settle_27 ?_
        have hD : d_settle (x_u x) (nI d) z = (-2, none) := by rw [d_settle, inN_s hd (by have := hu.2.2.2.1; omega)]; exact if_pos ⟨h17, h22⟩
        rw [hD]; exact ⟨rfl, hB, Tk.rf, Cf.rf, hW⟩
  · refine v_if_ne hC dX10_settle_11 (tgt := 16) (by decide) (fun hx => absurd hx (by decide)) (fun _ => ?_)
    refine v_iconst (v := (-1)) hC dX10_settle_14 (by decide) ?_
    refine v_iret hC dX10_settle_15 ?_
    have hD : d_settle (x_u x) y z = (-1, none) := by rw [d_settle, inN_o g8 (by have := hu.2.2.2.1; omega)]
    rw [hD]; exact ⟨rfl, hB, Tk.rf, Cf.rf, hW⟩

set_option maxHeartbeats 4000000 in
set_option maxRecDepth 100000 in
theorem c_X10_review {l : Launch} {G : Gd} {M : Me} {h n : Nat} {x : Xs} {y z : Int32} (hW : Wt M) (hB : BR M h n x) (hz : hzU (x_u x)) : CQ (Qi G (fun r M2 => r = (d_review (x_u x) y z).1 ∧ BR M2 h n (acX x (d_review (x_u x) y z).2) ∧ Tk M M2 n ∧ Cf M M2 h n ∧ Wt M2)) l G yX10_review cX10_review 3 ((some .int)) 4 89 0 0 [.ref h, .int y, .int z] M := by
  refine c_of ([some (.ref h), some (.int y), some (.int z)] : Lo) RX10 "review" (by decide) rfl rfl (Nat.le_of_ble_eq_true rfl) rfl (fun p e s m below meth c hC nw => ?_)
  have hR := hB.2.1
  have hnn := hB.1.1.2.2.2.2.2.2
  have hu := hR.2.1
  have u1 := hu.1
  have u2 := hu.2.1
  have u3 := hu.2.2.1
  have u4 := hu.2.2.2.1
  refine v_aload_n hC dX10_review_0 rfl rfl ?_
  refine gf_10_1 hC hB.1.1.1 (wf_261 hW hB.1.1.1) mw_2_79 dX10_review_1 ?_
  first | rw [hB.1.2.1.2.1] | erw [hB.1.2.1.2.1]
  refine v_iload_n hC dX10_review_4 rfl rfl ?_
  refine cVi1 hC (c_X7_hasFile hR.1.1.1 hR.2.2.2.1.1 hu.1) yv_X7_hasFile rfl hB.1.2.2.1.1.1.1 mw_2_193 ⟨Nat.le_of_ble_eq_true rfl, Nat.le_of_ble_eq_true rfl⟩ ⟨Nat.le_of_ble_eq_true rfl, Nat.le_of_ble_eq_true rfl⟩ (Nat.le_of_ble_eq_true rfl) dX10_review_5 (fun r5 M7 hq => ?_)
  obtain ⟨hm, hq2⟩ := hq
  have hm2 := hm.symm
  clear hm
  subst hm2
  obtain ⟨g5, rfl⟩ | ⟨g5, rfl⟩ := hq2
  · refine v_if_eq hC dX10_review_8 (tgt := 22) (by decide) (fun hx => absurd hx (by decide)) (fun _ => ?_)
    refine v_aload_n hC dX10_review_11 rfl rfl ?_
    refine gf_10_1 hC hB.1.1.1 (wf_261 hW hB.1.1.1) mw_2_79 dX10_review_12 ?_
    first | rw [hB.1.2.1.2.1] | erw [hB.1.2.1.2.1]
    refine v_iload_n hC dX10_review_15 rfl rfl ?_
    refine cVi1 hC (c_X7_hasPerson hR.1.1.1 hR.2.2.2.1.2.1 hu.2.1) yv_X7_hasPerson rfl hB.1.2.2.1.1.1.1 mw_2_143 ⟨Nat.le_of_ble_eq_true rfl, Nat.le_of_ble_eq_true rfl⟩ ⟨Nat.le_of_ble_eq_true rfl, Nat.le_of_ble_eq_true rfl⟩ (Nat.le_of_ble_eq_true rfl) dX10_review_16 (fun r16 M18 hq => ?_)
    obtain ⟨hm, hq2⟩ := hq
    have hm2 := hm.symm
    clear hm
    subst hm2
    obtain ⟨g16, rfl⟩ | ⟨g16, rfl⟩ := hq2
    · refine v_if_ne hC dX10_review_19 (tgt := 24) (by decide) (fun _ => ?_) (fun hx => absurd hx (by decide))
      obtain ⟨f, hf, rfl⟩ := g5
      obtain ⟨p0, hp0, rfl⟩ := g16
      have h8 : f < 8 := by have := hu.1; omega
      have hF : m_t M (cA (n + 7) 4 f) = 10 := by rw [← ly_F2 hR.1 h8]; exact we_51 hW (wf_215 hW hR.1.1.1) h8
      refine v_aload_n hC dX10_review_24 rfl rfl ?_
      refine gf_10_1 hC hB.1.1.1 (wf_261 hW hB.1.1.1) mw_2_79 dX10_review_25 ?_
      first | rw [hB.1.2.1.2.1] | erw [hB.1.2.1.2.1]
      refine v_iload_n hC dX10_review_28 rfl rfl ?_
      refine v_iload_n hC dX10_review_29 rfl rfl ?_
      refine cVi2 hC (c_X7_mayReview hW hR.1.1.1 hR hf) yv_X7_mayReview rfl hB.1.2.2.1.1.1.1 mw_3_136 ⟨Nat.le_of_ble_eq_true rfl, Nat.le_of_ble_eq_true rfl⟩ ⟨Nat.le_of_ble_eq_true rfl, Nat.le_of_ble_eq_true rfl⟩ (Nat.le_of_ble_eq_true rfl) dX10_review_30 (fun r30 M32 hq => ?_)
      obtain ⟨hm, hq2⟩ := hq
      have hm2 := hm.symm
      clear hm
      subst hm2
      obtain ⟨g30, rfl⟩ | ⟨g30, rfl⟩ := hq2
      · refine v_if_eq hC dX10_review_33 (tgt := 47) (by decide) (fun hx => absurd hx (by decide)) (fun _ => ?_)
        refine v_aload_n hC dX10_review_36 rfl rfl ?_
        refine gf_10_1 hC hB.1.1.1 (wf_261 hW hB.1.1.1) mw_2_79 dX10_review_37 ?_
        first | rw [hB.1.2.1.2.1] | erw [hB.1.2.1.2.1]
        refine v_iload_n hC dX10_review_40 rfl rfl ?_
        refine cVi1 hC (c_X7_isReadyForReview hW hR.1.1.1 hR hf) yv_X7_isReadyForReview rfl hB.1.2.2.1.1.1.1 mw_3_142 ⟨Nat.le_of_ble_eq_true rfl, Nat.le_of_ble_eq_true rfl⟩ ⟨Nat.le_of_ble_eq_true rfl, Nat.le_of_ble_eq_true rfl⟩ (Nat.le_of_ble_eq_true rfl) dX10_review_41 (fun r41 M43 hq => ?_)
        obtain ⟨hm, hq2⟩ := hq
        have hm2 := hm.symm
        clear hm
        subst hm2
        obtain ⟨g41, rfl⟩ | ⟨g41, rfl⟩ := hq2
        · refine v_if_ne hC dX10_review_44 (tgt := 50) (by decide) (fun _ => ?_) (fun hx => absurd hx (by decide))
          obtain ⟨p1, b1, b2, b3, b4, b5, b6⟩ := id g30
          have hcl : (q_i (x_u x) 5 f 0).toNatClampNeg = p1 := by rw [b3, nI_clamp (by have := hu.2.1; omega)]
          refine v_aload_n hC dX10_review_50 rfl rfl ?_
          refine gf_10_3 hC hB.1.1.1 (wf_263 hW hB.1.1.1) mw_2_81 dX10_review_51 ?_
          first | rw [hB.1.2.1.2.2.2.1] | erw [hB.1.2.1.2.2.2.1]
          refine v_aload_n hC dX10_review_54 rfl rfl ?_
          refine gf_10_1 hC hB.1.1.1 (wf_261 hW hB.1.1.1) mw_2_79 dX10_review_55 ?_
          first | rw [hB.1.2.1.2.1] | erw [hB.1.2.1.2.1]
          refine cVv1 hC (c_X2_push hW hB hz) yv_X2_push rfl hB.1.1.2.2.2.1 mw_2_98 ⟨Nat.le_of_ble_eq_true rfl, Nat.le_of_ble_eq_true rfl⟩ ⟨Nat.le_of_ble_eq_true rfl, Nat.le_of_ble_eq_true rfl⟩ (Nat.le_of_ble_eq_true rfl) dX10_review_58 (fun M60 hq => ?_)
          obtain ⟨hB2, hcf2, hW2, htk2, hx2, hsk2⟩ := hq
          have nw2 := hx2.nw nw
          have hkt2 := hx2.kt
          have hR2 := hB2.pushed
          have hnn2 := hB2.1.1.2.2.2.2.2.2
          refine v_aload_n hC dX10_review_61 rfl rfl ?_
          refine gf_10_1 hC (hkt2.u hB.1.1.1) (wf_261 hW2 (hkt2.u hB.1.1.1)) mw_2_79 dX10_review_62 ?_
          first | rw [hB2.1.2.1.2.1] | erw [hB2.1.2.1.2.1]
          refine v_iload_n hC dX10_review_65 rfl rfl ?_
          refine v_iload_n hC dX10_review_66 rfl rfl ?_
          refine cVv2 hC (c_X7_giveToReviewer hW2 hB2.1.2.2.1.1.1.1 hR2 hf b1 b3) yv_X7_giveToReviewer rfl hB2.1.2.2.1.1.1.1 mw_3_150 ⟨Nat.le_of_ble_eq_true rfl, Nat.le_of_ble_eq_true rfl⟩ ⟨Nat.le_of_ble_eq_true rfl, Nat.le_of_ble_eq_true rfl⟩ (Nat.le_of_ble_eq_true rfl) dX10_review_67 (fun M69 hq => ?_)
          obtain ⟨hR3, hr3, hx3⟩ := hq
          have hW3 := hW2.fx hx3
          have hB3 := hB2.act nw2 hW2 hr3 hR3
          have hkt3 : Kt _ M69 := hx3.tx.kt
          refine v_aload_n hC dX10_review_70 rfl rfl ?_
          refine gf_10_1 hC (hkt3.u (hkt2.u hB.1.1.1)) (wf_261 hW3 (hkt3.u (hkt2.u hB.1.1.1))) mw_2_79 dX10_review_71 ?_
          rw [hB3.1.2.1.2.1]
          refine gf_7_3 hC hB3.1.2.2.1.1.1.1 (wf_215 hW3 hB3.1.2.2.1.1.1.1) mw_2_35 dX10_review_74 ?_
          refine v_iload_n hC dX10_review_77 rfl rfl ?_
          refine v_aald 51 _ hC (wf_215 hW3 hB3.1.2.2.1.1.1.1) (by decide) rfl (ix_c (wz_51 hW3 (wf_215 hW3 hR3.1.1.1)) h8) (we_51 hW3 (wf_215 hW3 hB3.1.2.2.1.1.1.1) (by omega)) dX10_review_78 ?_
          rw [ly_F2 hR3.1 h8]
          refine v_iconst (v := 1) hC dX10_review_79 (by decide) ?_
          refine cVi1 hC (c_X9_countInWay hW3 (by rw [← ly_F2 hR3.1 h8]; exact we_51 hW3 (wf_215 hW3 hR3.1.1.1) h8) (hR3.fs2 hf)) yv_X9_countInWay rfl (by rw [← ly_F2 hR3.1 h8]; exact we_51 hW3 (wf_215 hW3 hR3.1.1.1) h8) mw_3_154 ⟨Nat.le_of_ble_eq_true rfl, Nat.le_of_ble_eq_true rfl⟩ ⟨Nat.le_of_ble_eq_true rfl, Nat.le_of_ble_eq_true rfl⟩ (Nat.le_of_ble_eq_true rfl) dX10_review_80 (fun r80 M82 hq => ?_)
          obtain ⟨rfl, hm⟩ := hq
          have hm2 := hm.symm
          clear hm
          subst hm2
          refine v_iret hC dX10_review_83 ?_
          have hD : d_review (x_u x) (nI f) (nI p0) = (y_f (x_u x) 1 f, some (revU (x_u x) f p1 (nI p0))) := by rw [d_review, inN_s hf, inN_s hp0 (by have := hu.2.1; omega)]; show (if _ then _ else _) = _; rw [hcl]; exact if_pos ⟨(myR_b (by have := hu.2.1; omega)).mp g30, (rdy_b (by have := hu.2.2.1; omega) (by have := hu.2.2.2.1; omega)).mp g41⟩
          rw [hD]; exact ⟨(hR3.wy2 hf).trans (y_f_e (fun _ => rfl) rfl), hB2.act nw2 hW2 hr3 hR3, Tk.tr htk2 (hr3.tk hnn2 (Nat.le_refl _)), hcf2.tr (hr3.cf (Nat.le_refl _) (by omega)), hW3⟩
        · refine v_if_ne hC dX10_review_44 (tgt := 50) (by decide) (fun hx => absurd hx (by decide)) (fun _ => ?_)
          refine v_bipush (v := (-4)) hC dX10_review_47 (by decide) ?_
          refine v_iret hC dX10_review_49 ?_
          have hD : d_review (x_u x) (nI f) (nI p0) = (-4, none) := by rw [d_review, inN_s hf, inN_s hp0 (by have := hu.2.1; omega)]; exact if_neg (fun q => by first | exact g30 ((myR_b (by have := hu.2.1; omega)).mpr q.1) | exact g41 ((rdy_b (by have := hu.2.2.1; omega) (by have := hu.2.2.2.1; omega)).mpr q.2))
          rw [hD]; exact ⟨rfl, hB, Tk.rf, Cf.rf, hW⟩
      · refine v_if_eq hC dX10_review_33 (tgt := 47) (by decide) (fun _ => ?_) (fun hx => absurd hx (by decide))
        refine v_bipush (v := (-4)) hC dX10_review_47 (by decide) ?_
        refine v_iret hC dX10_review_49 ?_
        have hD : d_review (x_u x) (nI f) (nI p0) = (-4, none) := by rw [d_review, inN_s hf, inN_s hp0 (by have := hu.2.1; omega)]; exact if_neg (fun q => by first | exact g30 ((myR_b (by have := hu.2.1; omega)).mpr q.1) | exact g41 ((rdy_b (by have := hu.2.2.1; omega) (by have := hu.2.2.2.1; omega)).mpr q.2))
        rw [hD]; exact ⟨rfl, hB, Tk.rf, Cf.rf, hW⟩
    · refine v_if_ne hC dX10_review_19 (tgt := 24) (by decide) (fun hx => absurd hx (by decide)) (fun _ => ?_)
      refine v_iconst (v := (-1)) hC dX10_review_22 (by decide) ?_
      refine v_iret hC dX10_review_23 ?_
      have hD : d_review (x_u x) y z = (-1, none) := by
        rw [d_review]
        first
          | rw [inN_o g5]
          | (rw [inN_o g16]
             split
             · rename_i q; cases q
             · rfl)
      rw [hD]; exact ⟨rfl, hB, Tk.rf, Cf.rf, hW⟩
  · refine v_if_eq hC dX10_review_8 (tgt := 22) (by decide) (fun _ => ?_) (fun hx => absurd hx (by decide))
    refine v_iconst (v := (-1)) hC dX10_review_22 (by decide) ?_
    refine v_iret hC dX10_review_23 ?_
    have hD : d_review (x_u x) y z = (-1, none) := by
      rw [d_review]
      first
        | rw [inN_o g5]
        | (rw [inN_o g16]
           split
           · rename_i q; cases q
           · rfl)
    rw [hD]; exact ⟨rfl, hB, Tk.rf, Cf.rf, hW⟩

set_option maxHeartbeats 4000000 in
set_option maxRecDepth 100000 in
theorem c_X10_swapFiles {l : Launch} {G : Gd} {M : Me} {h n : Nat} {x : Xs} {y z : Int32} (hW : Wt M) (hB : BR M h n x) (hz : hzU (x_u x)) (hO : WfO (x_u x)) (hI : WfI (x_u x)) : CQ (Qi G (fun r M2 => r = (d_swapFiles (x_u x) y z).1 ∧ BR M2 h n (acX x (d_swapFiles (x_u x) y z).2) ∧ Tk M M2 n ∧ Cf M M2 h n ∧ Wt M2)) l G yX10_swapFiles cX10_swapFiles 3 ((some .int)) 4 88 0 0 [.ref h, .int y, .int z] M := by
  refine c_of ([some (.ref h), some (.int y), some (.int z)] : Lo) RX10 "swapFiles" (by decide) rfl rfl (Nat.le_of_ble_eq_true rfl) rfl (fun p e s m below meth c hC nw => ?_)
  have hR := hB.2.1
  have hnn := hB.1.1.2.2.2.2.2.2
  have hu := hR.2.1
  have u1 := hu.1
  have u2 := hu.2.1
  have u3 := hu.2.2.1
  have u4 := hu.2.2.2.1
  refine v_aload_n hC dX10_swapFiles_0 rfl rfl ?_
  refine gf_10_1 hC hB.1.1.1 (wf_261 hW hB.1.1.1) mw_2_79 dX10_swapFiles_1 ?_
  first | rw [hB.1.2.1.2.1] | erw [hB.1.2.1.2.1]
  refine v_iload_n hC dX10_swapFiles_4 rfl rfl ?_
  refine cVi1 hC (c_X7_hasFile hR.1.1.1 hR.2.2.2.1.1 hu.1) yv_X7_hasFile rfl hB.1.2.2.1.1.1.1 mw_2_193 ⟨Nat.le_of_ble_eq_true rfl, Nat.le_of_ble_eq_true rfl⟩ ⟨Nat.le_of_ble_eq_true rfl, Nat.le_of_ble_eq_true rfl⟩ (Nat.le_of_ble_eq_true rfl) dX10_swapFiles_5 (fun r5 M7 hq => ?_)
  obtain ⟨hm, hq2⟩ := hq
  have hm2 := hm.symm
  clear hm
  subst hm2
  obtain ⟨g5, rfl⟩ | ⟨g5, rfl⟩ := hq2
  · refine v_if_eq hC dX10_swapFiles_8 (tgt := 22) (by decide) (fun hx => absurd hx (by decide)) (fun _ => ?_)
    refine v_aload_n hC dX10_swapFiles_11 rfl rfl ?_
    refine gf_10_1 hC hB.1.1.1 (wf_261 hW hB.1.1.1) mw_2_79 dX10_swapFiles_12 ?_
    first | rw [hB.1.2.1.2.1] | erw [hB.1.2.1.2.1]
    refine v_iload_n hC dX10_swapFiles_15 rfl rfl ?_
    refine cVi1 hC (c_X7_hasFile hR.1.1.1 hR.2.2.2.1.1 hu.1) yv_X7_hasFile rfl hB.1.2.2.1.1.1.1 mw_2_193 ⟨Nat.le_of_ble_eq_true rfl, Nat.le_of_ble_eq_true rfl⟩ ⟨Nat.le_of_ble_eq_true rfl, Nat.le_of_ble_eq_true rfl⟩ (Nat.le_of_ble_eq_true rfl) dX10_swapFiles_16 (fun r16 M18 hq => ?_)
    obtain ⟨hm, hq2⟩ := hq
    have hm2 := hm.symm
    clear hm
    subst hm2
    obtain ⟨g16, rfl⟩ | ⟨g16, rfl⟩ := hq2
    · refine v_if_ne hC dX10_swapFiles_19 (tgt := 24) (by decide) (fun _ => ?_) (fun hx => absurd hx (by decide))
      obtain ⟨f, hf, rfl⟩ := g5
      obtain ⟨o1, ho1, rfl⟩ := g16
      obtain ⟨a1, a2, a3, a4⟩ := plN_p hO hf
      obtain ⟨b1, b2, b3, b4⟩ := plN_p hO ho1
      refine v_iload_n hC dX10_swapFiles_24 rfl rfl ?_
      refine v_iload_n hC dX10_swapFiles_25 rfl rfl ?_
      refine v_icmp_ne hC dX10_swapFiles_26 (tgt := 32) (by decide) (fun h26 => ?_) (fun h26 => ?_)
      · have hfo : ¬ f = o1 := fun q => h26 (by rw [q])
        refine v_aload_n hC dX10_swapFiles_32 rfl rfl ?_
        refine gf_10_3 hC hB.1.1.1 (wf_263 hW hB.1.1.1) mw_2_81 dX10_swapFiles_33 ?_
        first | rw [hB.1.2.1.2.2.2.1] | erw [hB.1.2.1.2.2.2.1]
        refine v_aload_n hC dX10_swapFiles_36 rfl rfl ?_
        refine gf_10_1 hC hB.1.1.1 (wf_261 hW hB.1.1.1) mw_2_79 dX10_swapFiles_37 ?_
        first | rw [hB.1.2.1.2.1] | erw [hB.1.2.1.2.1]
        refine cVv1 hC (c_X2_push hW hB hz) yv_X2_push rfl hB.1.1.2.2.2.1 mw_2_98 ⟨Nat.le_of_ble_eq_true rfl, Nat.le_of_ble_eq_true rfl⟩ ⟨Nat.le_of_ble_eq_true rfl, Nat.le_of_ble_eq_true rfl⟩ (Nat.le_of_ble_eq_true rfl) dX10_swapFiles_40 (fun M42 hq => ?_)
        obtain ⟨hB2, hcf2, hW2, htk2, hx2, hsk2⟩ := hq
        have nw2 := hx2.nw nw
        have hkt2 := hx2.kt
        have hR2 := hB2.pushed
        have hnn2 := hB2.1.1.2.2.2.2.2.2
        have hab : plN (x_u x) f ≠ plN (x_u x) o1 := fun q => hfo ((nI_eq (by omega) (by omega)).mp (a3.symm.trans (by rw [q]; exact b3)))
        refine v_aload_n hC dX10_swapFiles_43 rfl rfl ?_
        refine gf_10_1 hC (hkt2.u hB.1.1.1) (wf_261 hW2 (hkt2.u hB.1.1.1)) mw_2_79 dX10_swapFiles_44 ?_
        first | rw [hB2.1.2.1.2.1] | erw [hB2.1.2.1.2.1]
        refine v_iload_n hC dX10_swapFiles_47 rfl rfl ?_
        refine v_iload_n hC dX10_swapFiles_48 rfl rfl ?_
        refine cVv2 hC (c_X7_exchangePlaces hW2 hB2.1.2.2.1.1.1.1 hR2 (by omega) (by omega) a2 b2 a3 b3 (fun j hj q => hI j _ hj a2 (q.trans a3.symm)) (fun j hj q => hI j _ hj b2 (q.trans b3.symm)) hab) yv_X7_exchangePlaces rfl hB2.1.2.2.1.1.1.1 mw_3_10 ⟨Nat.le_of_ble_eq_true rfl, Nat.le_of_ble_eq_true rfl⟩ ⟨Nat.le_of_ble_eq_true rfl, Nat.le_of_ble_eq_true rfl⟩ (Nat.le_of_ble_eq_true rfl) dX10_swapFiles_49 (fun M51 hq => ?_)
        obtain ⟨hR3, hr3, hx3⟩ := hq
        have hW3 := hW2.fx hx3
        have hB3 := hB2.act nw2 hW2 hr3 hR3
        have hkt3 : Kt _ M51 := hx3.tx.kt
        refine v_aload_n hC dX10_swapFiles_52 rfl rfl ?_
        refine gf_10_1 hC (hkt3.u (hkt2.u hB.1.1.1)) (wf_261 hW3 (hkt3.u (hkt2.u hB.1.1.1))) mw_2_79 dX10_swapFiles_53 ?_
        rw [hB3.1.2.1.2.1]
        refine v_iload_n hC dX10_swapFiles_56 rfl rfl ?_
        refine cVi1 hC (c_X7_placeOf hW3 hR3.1.1.1 hR3.2.2.2.1.1 hu.1) yv_X7_placeOf rfl hB3.1.2.2.1.1.1.1 mw_3_14 ⟨Nat.le_of_ble_eq_true rfl, Nat.le_of_ble_eq_true rfl⟩ ⟨Nat.le_of_ble_eq_true rfl, Nat.le_of_ble_eq_true rfl⟩ (Nat.le_of_ble_eq_true rfl) dX10_swapFiles_57 (fun r57 M59 hq => ?_)
        obtain ⟨hl57, hm⟩ := hq
        have hm2 := hm.symm
        clear hm
        subst hm2
        refine v_iret hC dX10_swapFiles_60 ?_
        have e57 : r57 = nI (plN (x_u x) o1) := hl57.uniq (Or.inl ⟨plN (x_u x) o1, b2, (hR3.od b2).trans q_ie, fun j hj q => by
          have q := (hR3.od (show j < n_f (x_u x) by omega)).symm.trans q
          by_cases w : j = plN (x_u x) f
          · rw [w] at q
            have q2 : q_i (swpU (x_u x) (plN (x_u x) f) (plN (x_u x) o1) f o1) 17 0 (plN (x_u x) f) = nI o1 := (q_ij hab).trans q_ie
            exact hfo ((nI_eq (by omega) (by omega)).mp (q.symm.trans q2))
          · have q2 : q_i (swpU (x_u x) (plN (x_u x) f) (plN (x_u x) o1) f o1) 17 0 j = q_i (x_u x) 17 0 j := (q_ij (by omega)).trans (q_ij w)
            exact w (hI j _ (by omega) a2 ((q2.symm.trans q).trans a3.symm)), rfl⟩)
        have hD : d_swapFiles (x_u x) (nI f) (nI o1) = (nI (plN (x_u x) o1), some (swpU (x_u x) (plN (x_u x) f) (plN (x_u x) o1) f o1)) := by rw [d_swapFiles, inN_s hf, inN_s ho1]; exact if_neg hfo
        rw [hD]; exact ⟨e57, hB2.act nw2 hW2 hr3 hR3, Tk.tr htk2 (hr3.tk hnn2 (Nat.le_refl _)), hcf2.tr (hr3.cf (Nat.le_refl _) (by omega)), hW3⟩
      · have hfo : f = o1 := (nI_eq (by omega) (by omega)).mp h26
        refine v_bipush (v := (-5)) hC dX10_swapFiles_29 (by decide) ?_
        refine v_iret hC dX10_swapFiles_31 ?_
        have hD : d_swapFiles (x_u x) (nI f) (nI o1) = (-5, none) := by rw [d_swapFiles, inN_s hf, inN_s ho1]; exact if_pos hfo
        rw [hD]; exact ⟨rfl, hB, Tk.rf, Cf.rf, hW⟩
    · refine v_if_ne hC dX10_swapFiles_19 (tgt := 24) (by decide) (fun hx => absurd hx (by decide)) (fun _ => ?_)
      refine v_iconst (v := (-1)) hC dX10_swapFiles_22 (by decide) ?_
      refine v_iret hC dX10_swapFiles_23 ?_
      have hD : d_swapFiles (x_u x) y z = (-1, none) := by
        rw [d_swapFiles]
        first
          | rw [inN_o g5]
          | (rw [inN_o g16]
             split
             · rename_i q; cases q
             · rfl)
      rw [hD]; exact ⟨rfl, hB, Tk.rf, Cf.rf, hW⟩
  · refine v_if_eq hC dX10_swapFiles_8 (tgt := 22) (by decide) (fun _ => ?_) (fun hx => absurd hx (by decide))
    refine v_iconst (v := (-1)) hC dX10_swapFiles_22 (by decide) ?_
    refine v_iret hC dX10_swapFiles_23 ?_
    have hD : d_swapFiles (x_u x) y z = (-1, none) := by
      rw [d_swapFiles]
      first
        | rw [inN_o g5]
        | (rw [inN_o g16]
           split
           · rename_i q; cases q
           · rfl)
    rw [hD]; exact ⟨rfl, hB, Tk.rf, Cf.rf, hW⟩
