/-- rows that agree where the state is spoken of -/
theorem LA.eqs {r r2 : Nat → Int64} {u : Si} (h : LA r u) (e : ∀ k a j, sp u k a j → r2 (pl k a j) = r (pl k a j)) : LA r2 u := LA_iff.mpr ⟨h.1, h.gs, fun k a j q => (e k a j q).trans (h.ev q)⟩
set_option maxHeartbeats 4000000 in
set_option maxRecDepth 100000 in
theorem c_X11_newEntry {l : Launch} {G : Gd} {M : Me} {h : Nat} {u : Si} {x : Int32} (hW : Wt M) (ht : m_t M h = 12) (hA : LA (rwM M h) u) (hn : n_e u < 40) : CQ (Qi G (fun r M2 => r = nI (n_e u) ∧ M2 = (s_l (s_l (s_l M 31 (m_r M 276 h 0) (166 + 11 * n_e u + 9) x.toInt64) 31 (m_r (s_l M 31 (m_r M 276 h 0) (166 + 11 * n_e u + 9) x.toInt64) 276 h 0) (166 + 11 * n_e u + 10) 0) 31 (m_r (s_l (s_l M 31 (m_r M 276 h 0) (166 + 11 * n_e u + 9) x.toInt64) 31 (m_r (s_l M 31 (m_r M 276 h 0) (166 + 11 * n_e u + 9) x.toInt64) 276 h 0) (166 + 11 * n_e u + 10) 0) 276 h 0) (2) (lN (n_e u + 1))))) l G yX11_newEntry cX11_newEntry 3 ((some .int)) 1 21 0 0 [.ref h, .int x] M := by
  refine c_of ([some (.ref h), some (.int x), none] : Lo) RX11 "newEntry" (by decide) rfl rfl (Nat.le_of_ble_eq_true rfl) rfl (fun p e s m below meth c hC nw => ?_)
  have u1 := hA.1.1
  have u2 := hA.1.2.1
  have u3 := hA.1.2.2.1
  have u4 := hA.1.2.2.2.1
  have hwz := wz_31 hW (wf_276 hW ht)
  refine v_aload_n hC dX11_newEntry_0 rfl rfl ?_
  refine v_iconst (v := 2) hC dX11_newEntry_1 (by decide) ?_
  refine cVi1 hC (c_X11_number hW ht (q := 2) (by decide)) yv_X11_number rfl ht mw_4_165 ⟨Nat.le_of_ble_eq_true rfl, Nat.le_of_ble_eq_true rfl⟩ ⟨Nat.le_of_ble_eq_true rfl, Nat.le_of_ble_eq_true rfl⟩ (Nat.le_of_ble_eq_true rfl) dX11_newEntry_2 (fun r2 M4 hq => ?_)
  obtain ⟨rfl, hm⟩ := hq
  have hm2 := hm.symm
  clear hm
  subst hm2
  rw [hA.c2, lN_i]
  refine v_ist2 hC dX11_newEntry_5 (by decide) (kk := ?_)
  refine v_aload_n hC dX11_newEntry_6 rfl rfl ?_
  refine gf_11_0 hC ht (wf_276 hW ht) mw_4_120 dX11_newEntry_7 ?_
  refine v_aload_n hC dX11_newEntry_10 rfl rfl ?_
  refine v_iload_n hC dX11_newEntry_11 rfl rfl ?_
  refine cVi1 hC (c_X11_entryAt ht) yv_X11_entryAt rfl ht mw_5_35 ⟨Nat.le_of_ble_eq_true rfl, Nat.le_of_ble_eq_true rfl⟩ ⟨Nat.le_of_ble_eq_true rfl, Nat.le_of_ble_eq_true rfl⟩ (Nat.le_of_ble_eq_true rfl) dX11_newEntry_12 (fun r12 M14 hq => ?_)
  obtain ⟨rfl, hm⟩ := hq
  have hm2 := hm.symm
  clear hm
  subst hm2
  refine v_bipush (v := 9) hC dX11_newEntry_15 (by decide) ?_
  refine v_iadd hC dX11_newEntry_17 ?_
  rw [show nI (166 + 11 * n_e u) + 9 = nI (166 + 11 * n_e u + 9) from nI_add _ 9]
  refine v_iload_n hC dX11_newEntry_18 rfl rfl ?_
  refine v_i2l hC dX11_newEntry_19 ?_
  refine v_last 31 hC (wf_276 hW ht) (by decide) (by decide) (ix_c hwz (by omega)) dX11_newEntry_20 ?_
  refine v_aload_n hC dX11_newEntry_21 rfl rfl ?_
  refine gf_11_0 hC ht (wf_276 hW ht) mw_4_120 dX11_newEntry_22 ?_
  refine v_aload_n hC dX11_newEntry_25 rfl rfl ?_
  refine v_iload_n hC dX11_newEntry_26 rfl rfl ?_
  refine cVi1 hC (c_X11_entryAt ht) yv_X11_entryAt rfl ht mw_5_35 ⟨Nat.le_of_ble_eq_true rfl, Nat.le_of_ble_eq_true rfl⟩ ⟨Nat.le_of_ble_eq_true rfl, Nat.le_of_ble_eq_true rfl⟩ (Nat.le_of_ble_eq_true rfl) dX11_newEntry_27 (fun r27 M29 hq => ?_)
  obtain ⟨rfl, hm⟩ := hq
  have hm2 := hm.symm
  clear hm
  subst hm2
  refine v_bipush (v := 10) hC dX11_newEntry_30 (by decide) ?_
  refine v_iadd hC dX11_newEntry_32 ?_
  rw [show nI (166 + 11 * n_e u) + 10 = nI (166 + 11 * n_e u + 10) from nI_add _ 10]
  refine v_lconst (v := 0) hC dX11_newEntry_33 (by decide) ?_
  refine v_last 31 hC (wf_276 hW ht) (by decide) (by decide) (ix_c hwz (by omega)) dX11_newEntry_34 ?_
  refine v_aload_n hC dX11_newEntry_35 rfl rfl ?_
  refine gf_11_0 hC ht (wf_276 hW ht) mw_4_120 dX11_newEntry_36 ?_
  refine v_iconst (v := 2) hC dX11_newEntry_39 (by decide) ?_
  refine v_iload_n hC dX11_newEntry_40 rfl rfl ?_
  refine v_iconst (v := 1) hC dX11_newEntry_41 (by decide) ?_
  refine v_iadd hC dX11_newEntry_42 ?_
  rw [show nI (n_e u) + 1 = nI (n_e u + 1) from (nI_succ _).symm]
  refine v_i2l hC dX11_newEntry_43 ?_
  rw [nI_l (by omega)]
  refine v_last 31 hC (wf_276 hW ht) (by decide) (by decide) (ix_q (j := 2) hwz rfl) dX11_newEntry_44 ?_
  refine v_iload_n hC dX11_newEntry_45 rfl rfl ?_
  refine v_iret hC dX11_newEntry_46 ?_
  exact ⟨rfl, rfl⟩

set_option maxHeartbeats 4000000 in
set_option maxRecDepth 100000 in
theorem c_X11_newDispute {l : Launch} {G : Gd} {M : Me} {h w : Nat} {u : Si} {x : Int32} (hW : Wt M) (ht : m_t M h = 12) (hA : LA (rwM M h) u) (hn : n_d u < 10) (hw : w < n_e u) : CQ (Qv G (fun M2 => M2 = (s_l (s_l (s_l (s_l (s_l (s_l M 31 (m_r M 276 h 0) (116 + 5 * n_d u) (nI w).toInt64) 31 (m_r (s_l M 31 (m_r M 276 h 0) (116 + 5 * n_d u) (nI w).toInt64) 276 h 0) (116 + 5 * n_d u + 1) (q_i u 11 w 0).toInt64) 31 (m_r (s_l (s_l M 31 (m_r M 276 h 0) (116 + 5 * n_d u) (nI w).toInt64) 31 (m_r (s_l M 31 (m_r M 276 h 0) (116 + 5 * n_d u) (nI w).toInt64) 276 h 0) (116 + 5 * n_d u + 1) (q_i u 11 w 0).toInt64) 276 h 0) (116 + 5 * n_d u + 2) x.toInt64) 31 (m_r (s_l (s_l (s_l M 31 (m_r M 276 h 0) (116 + 5 * n_d u) (nI w).toInt64) 31 (m_r (s_l M 31 (m_r M 276 h 0) (116 + 5 * n_d u) (nI w).toInt64) 276 h 0) (116 + 5 * n_d u + 1) (q_i u 11 w 0).toInt64) 31 (m_r (s_l (s_l M 31 (m_r M 276 h 0) (116 + 5 * n_d u) (nI w).toInt64) 31 (m_r (s_l M 31 (m_r M 276 h 0) (116 + 5 * n_d u) (nI w).toInt64) 276 h 0) (116 + 5 * n_d u + 1) (q_i u 11 w 0).toInt64) 276 h 0) (116 + 5 * n_d u + 2) x.toInt64) 276 h 0) (116 + 5 * n_d u + 3) 0) 31 (m_r (s_l (s_l (s_l (s_l M 31 (m_r M 276 h 0) (116 + 5 * n_d u) (nI w).toInt64) 31 (m_r (s_l M 31 (m_r M 276 h 0) (116 + 5 * n_d u) (nI w).toInt64) 276 h 0) (116 + 5 * n_d u + 1) (q_i u 11 w 0).toInt64) 31 (m_r (s_l (s_l M 31 (m_r M 276 h 0) (116 + 5 * n_d u) (nI w).toInt64) 31 (m_r (s_l M 31 (m_r M 276 h 0) (116 + 5 * n_d u) (nI w).toInt64) 276 h 0) (116 + 5 * n_d u + 1) (q_i u 11 w 0).toInt64) 276 h 0) (116 + 5 * n_d u + 2) x.toInt64) 31 (m_r (s_l (s_l (s_l M 31 (m_r M 276 h 0) (116 + 5 * n_d u) (nI w).toInt64) 31 (m_r (s_l M 31 (m_r M 276 h 0) (116 + 5 * n_d u) (nI w).toInt64) 276 h 0) (116 + 5 * n_d u + 1) (q_i u 11 w 0).toInt64) 31 (m_r (s_l (s_l M 31 (m_r M 276 h 0) (116 + 5 * n_d u) (nI w).toInt64) 31 (m_r (s_l M 31 (m_r M 276 h 0) (116 + 5 * n_d u) (nI w).toInt64) 276 h 0) (116 + 5 * n_d u + 1) (q_i u 11 w 0).toInt64) 276 h 0) (116 + 5 * n_d u + 2) x.toInt64) 276 h 0) (116 + 5 * n_d u + 3) 0) 276 h 0) (116 + 5 * n_d u + 4) (-5)) 31 (m_r (s_l (s_l (s_l (s_l (s_l M 31 (m_r M 276 h 0) (116 + 5 * n_d u) (nI w).toInt64) 31 (m_r (s_l M 31 (m_r M 276 h 0) (116 + 5 * n_d u) (nI w).toInt64) 276 h 0) (116 + 5 * n_d u + 1) (q_i u 11 w 0).toInt64) 31 (m_r (s_l (s_l M 31 (m_r M 276 h 0) (116 + 5 * n_d u) (nI w).toInt64) 31 (m_r (s_l M 31 (m_r M 276 h 0) (116 + 5 * n_d u) (nI w).toInt64) 276 h 0) (116 + 5 * n_d u + 1) (q_i u 11 w 0).toInt64) 276 h 0) (116 + 5 * n_d u + 2) x.toInt64) 31 (m_r (s_l (s_l (s_l M 31 (m_r M 276 h 0) (116 + 5 * n_d u) (nI w).toInt64) 31 (m_r (s_l M 31 (m_r M 276 h 0) (116 + 5 * n_d u) (nI w).toInt64) 276 h 0) (116 + 5 * n_d u + 1) (q_i u 11 w 0).toInt64) 31 (m_r (s_l (s_l M 31 (m_r M 276 h 0) (116 + 5 * n_d u) (nI w).toInt64) 31 (m_r (s_l M 31 (m_r M 276 h 0) (116 + 5 * n_d u) (nI w).toInt64) 276 h 0) (116 + 5 * n_d u + 1) (q_i u 11 w 0).toInt64) 276 h 0) (116 + 5 * n_d u + 2) x.toInt64) 276 h 0) (116 + 5 * n_d u + 3) 0) 31 (m_r (s_l (s_l (s_l (s_l M 31 (m_r M 276 h 0) (116 + 5 * n_d u) (nI w).toInt64) 31 (m_r (s_l M 31 (m_r M 276 h 0) (116 + 5 * n_d u) (nI w).toInt64) 276 h 0) (116 + 5 * n_d u + 1) (q_i u 11 w 0).toInt64) 31 (m_r (s_l (s_l M 31 (m_r M 276 h 0) (116 + 5 * n_d u) (nI w).toInt64) 31 (m_r (s_l M 31 (m_r M 276 h 0) (116 + 5 * n_d u) (nI w).toInt64) 276 h 0) (116 + 5 * n_d u + 1) (q_i u 11 w 0).toInt64) 276 h 0) (116 + 5 * n_d u + 2) x.toInt64) 31 (m_r (s_l (s_l (s_l M 31 (m_r M 276 h 0) (116 + 5 * n_d u) (nI w).toInt64) 31 (m_r (s_l M 31 (m_r M 276 h 0) (116 + 5 * n_d u) (nI w).toInt64) 276 h 0) (116 + 5 * n_d u + 1) (q_i u 11 w 0).toInt64) 31 (m_r (s_l (s_l M 31 (m_r M 276 h 0) (116 + 5 * n_d u) (nI w).toInt64) 31 (m_r (s_l M 31 (m_r M 276 h 0) (116 + 5 * n_d u) (nI w).toInt64) 276 h 0) (116 + 5 * n_d u + 1) (q_i u 11 w 0).toInt64) 276 h 0) (116 + 5 * n_d u + 2) x.toInt64) 276 h 0) (116 + 5 * n_d u + 3) 0) 276 h 0) (116 + 5 * n_d u + 4) (-5)) 276 h 0) (3) (lN (n_d u + 1))))) l G yX11_newDispute cX11_newDispute 4 (none) 1 21 0 0 [.ref h, .int (nI w), .int x] M := by
  refine c_of ([some (.ref h), some (.int (nI w)), some (.int x), none] : Lo) RX11 "newDispute" (by decide) rfl rfl (Nat.le_of_ble_eq_true rfl) rfl (fun p e s m below meth c hC nw => ?_)
  have u1 := hA.1.1
  have u2 := hA.1.2.1
  have u3 := hA.1.2.2.1
  have u4 := hA.1.2.2.2.1
  have hwz := wz_31 hW (wf_276 hW ht)
  refine v_aload_n hC dX11_newDispute_0 rfl rfl ?_
  refine v_iconst (v := 3) hC dX11_newDispute_1 (by decide) ?_
  refine cVi1 hC (c_X11_number hW ht (q := 3) (by decide)) yv_X11_number rfl ht mw_4_165 ⟨Nat.le_of_ble_eq_true rfl, Nat.le_of_ble_eq_true rfl⟩ ⟨Nat.le_of_ble_eq_true rfl, Nat.le_of_ble_eq_true rfl⟩ (Nat.le_of_ble_eq_true rfl) dX11_newDispute_2 (fun r2 M4 hq => ?_)
  obtain ⟨rfl, hm⟩ := hq
  have hm2 := hm.symm
  clear hm
  subst hm2
  rw [hA.c3, lN_i]
  refine v_ist3 hC dX11_newDispute_5 (by decide) (kk := ?_)
  refine v_aload_n hC dX11_newDispute_6 rfl rfl ?_
  refine gf_11_0 hC ht (wf_276 hW ht) mw_4_120 dX11_newDispute_7 ?_
  refine v_aload_n hC dX11_newDispute_10 rfl rfl ?_
  refine v_iload_n hC dX11_newDispute_11 rfl rfl ?_
  refine cVi1 hC (c_X11_disputeAt ht) yv_X11_disputeAt rfl ht mw_5_135 ⟨Nat.le_of_ble_eq_true rfl, Nat.le_of_ble_eq_true rfl⟩ ⟨Nat.le_of_ble_eq_true rfl, Nat.le_of_ble_eq_true rfl⟩ (Nat.le_of_ble_eq_true rfl) dX11_newDispute_12 (fun r12 M14 hq => ?_)
  obtain ⟨rfl, hm⟩ := hq
  have hm2 := hm.symm
  clear hm
  subst hm2
  refine v_iconst (v := 0) hC dX11_newDispute_15 (by decide) ?_
  refine v_iadd hC dX11_newDispute_16 ?_
  rw [show nI (116 + 5 * n_d u) + 0 = nI (116 + 5 * n_d u) from nI_add _ 0]
  refine v_iload_n hC dX11_newDispute_17 rfl rfl ?_
  refine v_i2l hC dX11_newDispute_18 ?_
  refine v_last 31 hC (wf_276 hW ht) (by decide) (by decide) (ix_c hwz (by omega)) dX11_newDispute_19 ?_
  refine v_aload_n hC dX11_newDispute_20 rfl rfl ?_
  refine gf_11_0 hC ht (wf_276 hW ht) mw_4_120 dX11_newDispute_21 ?_
  refine v_aload_n hC dX11_newDispute_24 rfl rfl ?_
  refine v_iload_n hC dX11_newDispute_25 rfl rfl ?_
  refine cVi1 hC (c_X11_disputeAt ht) yv_X11_disputeAt rfl ht mw_5_135 ⟨Nat.le_of_ble_eq_true rfl, Nat.le_of_ble_eq_true rfl⟩ ⟨Nat.le_of_ble_eq_true rfl, Nat.le_of_ble_eq_true rfl⟩ (Nat.le_of_ble_eq_true rfl) dX11_newDispute_26 (fun r26 M28 hq => ?_)
  obtain ⟨rfl, hm⟩ := hq
  have hm2 := hm.symm
  clear hm
  subst hm2
  refine v_iconst (v := 1) hC dX11_newDispute_29 (by decide) ?_
  refine v_iadd hC dX11_newDispute_30 ?_
  rw [show nI (116 + 5 * n_d u) + 1 = nI (116 + 5 * n_d u + 1) from nI_add _ 1]
  refine v_aload_n hC dX11_newDispute_31 rfl rfl ?_
  refine gf_11_0 hC ht (wf_276 hW ht) mw_4_120 dX11_newDispute_32 ?_
  refine v_aload_n hC dX11_newDispute_35 rfl rfl ?_
  refine v_iload_n hC dX11_newDispute_36 rfl rfl ?_
  refine cVi1 hC (c_X11_entryAt ht) yv_X11_entryAt rfl ht mw_5_35 ⟨Nat.le_of_ble_eq_true rfl, Nat.le_of_ble_eq_true rfl⟩ ⟨Nat.le_of_ble_eq_true rfl, Nat.le_of_ble_eq_true rfl⟩ (Nat.le_of_ble_eq_true rfl) dX11_newDispute_37 (fun r37 M39 hq => ?_)
  obtain ⟨rfl, hm⟩ := hq
  have hm2 := hm.symm
  clear hm
  subst hm2
  refine v_bipush (v := 9) hC dX11_newDispute_40 (by decide) ?_
  refine v_iadd hC dX11_newDispute_42 ?_
  rw [show nI (166 + 11 * w) + 9 = nI (166 + 11 * w + 9) from nI_add _ 9]
  refine v_lald 31 hC (wf_276 hW ht) (by decide) (by decide) (ix_c hwz (by omega)) dX11_newDispute_43 ?_
  rw [show m_l (s_l M 31 (m_r M 276 h 0) (116 + 5 * n_d u) (nI w).toInt64) 31 (m_r (s_l M 31 (m_r M 276 h 0) (116 + 5 * n_d u) (nI w).toInt64) 276 h 0) (166 + 11 * w + 9) = (q_i u 11 w 0).toInt64 from by
    show rwM (s_l M 31 (m_r M 276 h 0) (116 + 5 * n_d u) (nI w).toInt64) h (166 + 11 * w + 9) = _
    rw [rwM_w, updR_n (by omega)]
    exact (hA.e2 hw).1]
  refine v_last 31 hC (wf_276 hW ht) (by decide) (by decide) (ix_c hwz (by omega)) dX11_newDispute_44 ?_
  refine v_aload_n hC dX11_newDispute_45 rfl rfl ?_
  refine gf_11_0 hC ht (wf_276 hW ht) mw_4_120 dX11_newDispute_46 ?_
  refine v_aload_n hC dX11_newDispute_49 rfl rfl ?_
  refine v_iload_n hC dX11_newDispute_50 rfl rfl ?_
  refine cVi1 hC (c_X11_disputeAt ht) yv_X11_disputeAt rfl ht mw_5_135 ⟨Nat.le_of_ble_eq_true rfl, Nat.le_of_ble_eq_true rfl⟩ ⟨Nat.le_of_ble_eq_true rfl, Nat.le_of_ble_eq_true rfl⟩ (Nat.le_of_ble_eq_true rfl) dX11_newDispute_51 (fun r51 M53 hq => ?_)
  obtain ⟨rfl, hm⟩ := hq
  have hm2 := hm.symm
  clear hm
  subst hm2
  refine v_iconst (v := 2) hC dX11_newDispute_54 (by decide) ?_
  refine v_iadd hC dX11_newDispute_55 ?_
  rw [show nI (116 + 5 * n_d u) + 2 = nI (116 + 5 * n_d u + 2) from nI_add _ 2]
  refine v_iload_n hC dX11_newDispute_56 rfl rfl ?_
  refine v_i2l hC dX11_newDispute_57 ?_
  refine v_last 31 hC (wf_276 hW ht) (by decide) (by decide) (ix_c hwz (by omega)) dX11_newDispute_58 ?_
  refine v_aload_n hC dX11_newDispute_59 rfl rfl ?_
  refine gf_11_0 hC ht (wf_276 hW ht) mw_4_120 dX11_newDispute_60 ?_
  refine v_aload_n hC dX11_newDispute_63 rfl rfl ?_
  refine v_iload_n hC dX11_newDispute_64 rfl rfl ?_
  refine cVi1 hC (c_X11_disputeAt ht) yv_X11_disputeAt rfl ht mw_5_135 ⟨Nat.le_of_ble_eq_true rfl, Nat.le_of_ble_eq_true rfl⟩ ⟨Nat.le_of_ble_eq_true rfl, Nat.le_of_ble_eq_true rfl⟩ (Nat.le_of_ble_eq_true rfl) dX11_newDispute_65 (fun r65 M67 hq => ?_)
  obtain ⟨rfl, hm⟩ := hq
  have hm2 := hm.symm
  clear hm
  subst hm2
  refine v_iconst (v := 3) hC dX11_newDispute_68 (by decide) ?_
  refine v_iadd hC dX11_newDispute_69 ?_
  rw [show nI (116 + 5 * n_d u) + 3 = nI (116 + 5 * n_d u + 3) from nI_add _ 3]
  refine v_lconst (v := 0) hC dX11_newDispute_70 (by decide) ?_
  refine v_last 31 hC (wf_276 hW ht) (by decide) (by decide) (ix_c hwz (by omega)) dX11_newDispute_71 ?_
  refine v_aload_n hC dX11_newDispute_72 rfl rfl ?_
  refine gf_11_0 hC ht (wf_276 hW ht) mw_4_120 dX11_newDispute_73 ?_
  refine v_aload_n hC dX11_newDispute_76 rfl rfl ?_
  refine v_iload_n hC dX11_newDispute_77 rfl rfl ?_
  refine cVi1 hC (c_X11_disputeAt ht) yv_X11_disputeAt rfl ht mw_5_135 ⟨Nat.le_of_ble_eq_true rfl, Nat.le_of_ble_eq_true rfl⟩ ⟨Nat.le_of_ble_eq_true rfl, Nat.le_of_ble_eq_true rfl⟩ (Nat.le_of_ble_eq_true rfl) dX11_newDispute_78 (fun r78 M80 hq => ?_)
  obtain ⟨rfl, hm⟩ := hq
  have hm2 := hm.symm
  clear hm
  subst hm2
  refine v_iconst (v := 4) hC dX11_newDispute_81 (by decide) ?_
  refine v_iadd hC dX11_newDispute_82 ?_
  rw [show nI (116 + 5 * n_d u) + 4 = nI (116 + 5 * n_d u + 4) from nI_add _ 4]
  refine v_ldc2 hC mw_4_189 dX11_newDispute_83 ?_
  refine v_last 31 hC (wf_276 hW ht) (by decide) (by decide) (ix_c hwz (by omega)) dX11_newDispute_86 ?_
  refine v_aload_n hC dX11_newDispute_87 rfl rfl ?_
  refine gf_11_0 hC ht (wf_276 hW ht) mw_4_120 dX11_newDispute_88 ?_
  refine v_iconst (v := 3) hC dX11_newDispute_91 (by decide) ?_
  refine v_iload_n hC dX11_newDispute_92 rfl rfl ?_
  refine v_iconst (v := 1) hC dX11_newDispute_93 (by decide) ?_
  refine v_iadd hC dX11_newDispute_94 ?_
  rw [show nI (n_d u) + 1 = nI (n_d u + 1) from (nI_succ _).symm]
  refine v_i2l hC dX11_newDispute_95 ?_
  rw [show (nI (n_d u + 1)).toInt64 = lN (n_d u + 1) from nI_l (by omega)]
  refine v_last 31 hC (wf_276 hW ht) (by decide) (by decide) (ix_q (j := 3) hwz rfl) dX11_newDispute_96 ?_
  refine v_vret hC dX11_newDispute_97 ?_
  exact rfl
