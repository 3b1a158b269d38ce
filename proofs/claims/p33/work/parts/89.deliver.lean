set_option maxHeartbeats 4000000 in
set_option maxRecDepth 100000 in
theorem c_X11_deliver {l : Launch} {G : Gd} {M : Me} {h : Nat} {x : Xs} {y : Int32} (hW : Wt M) (hX : AR M h x) (hS : WfS (x_u x)) (hV : WfV (x_u x)) : CQ (Qi G (fun r M2 => r = (d_deliver (x_u x) y).1 ∧ AR M2 h (acX x (d_deliver (x_u x) y).2) ∧ On M M2 ∧ Wt M2 ∧ Ta M M2 h)) l G yX11_deliver cX11_deliver 5 ((some .int)) 4 87 0 0 [.ref h, .int y] M := by
  refine c_of ([some (.ref h), some (.int y), none, none, none] : Lo) RX11 "deliver" (by decide) rfl rfl (Nat.le_of_ble_eq_true rfl) rfl (fun p e s m below meth c hC nw => ?_)
  have ht := hX.1
  have hA := hX.2.1.1
  have u1 := hA.1.1
  have u2 := hA.1.2.1
  have u3 := hA.1.2.2.1
  have u4 := hA.1.2.2.2.1
  have hwz := wz_31 hW (wf_276 hW ht)
  refine v_aload_n hC dX11_deliver_0 rfl rfl ?_
  refine v_iload_n hC dX11_deliver_1 rfl rfl ?_
  refine cVi1 hC (c_X11_noFile hW ht hA) yv_X11_noFile rfl ht mw_4_230 ⟨Nat.le_of_ble_eq_true rfl, Nat.le_of_ble_eq_true rfl⟩ ⟨Nat.le_of_ble_eq_true rfl, Nat.le_of_ble_eq_true rfl⟩ (Nat.le_of_ble_eq_true rfl) dX11_deliver_2 (fun r2 M4 hq => ?_)
  obtain ⟨hm, hq2⟩ := hq
  have hm2 := hm.symm
  clear hm
  subst hm2
  obtain ⟨g2, rfl⟩ | ⟨g2, rfl⟩ := hq2
  · refine v_if_eq hC dX11_deliver_5 (tgt := 10) (by decide) (fun _ => ?_) (fun hx => absurd hx (by decide))
    obtain ⟨f, hf, rfl⟩ := g2
    refine v_aload_n hC dX11_deliver_10 rfl rfl ?_
    refine v_iload_n hC dX11_deliver_11 rfl rfl ?_
    refine cVi1 hC (c_X11_state hW ht hA hf) yv_X11_state rfl ht mw_5_11 ⟨Nat.le_of_ble_eq_true rfl, Nat.le_of_ble_eq_true rfl⟩ ⟨Nat.le_of_ble_eq_true rfl, Nat.le_of_ble_eq_true rfl⟩ (Nat.le_of_ble_eq_true rfl) dX11_deliver_12 (fun r12 M14 hq => ?_)
    obtain ⟨rfl, hm⟩ := hq
    have hm2 := hm.symm
    clear hm
    subst hm2
    refine v_iconst (v := 2) hC dX11_deliver_15 (by decide) ?_
    refine v_icmp_eq hC dX11_deliver_16 (tgt := 22) (by decide) (fun h16 => ?_) (fun h16 => ?_)
    · have h44 : q_i (x_u x) 4 f 0 = 2 := h16
      obtain ⟨a, b, ha, hb, hab, ea, ebb⟩ := hV f hf h44
      have hf8 : f < 8 := by omega
      have n4 : ¬ q_i (x_u x) 4 f 0 = 4 := fun q => by rw [h44] at q; exact absurd q (by decide)
      refine v_aload_n hC dX11_deliver_22 rfl rfl ?_
      refine cVv0 hC (c_X11_record hW hX) yv_X11_record rfl ht mw_4_173 ⟨Nat.le_of_ble_eq_true rfl, Nat.le_of_ble_eq_true rfl⟩ ⟨Nat.le_of_ble_eq_true rfl, Nat.le_of_ble_eq_true rfl⟩ (Nat.le_of_ble_eq_true rfl) dX11_deliver_23 (fun M25 hq => ?_)
      obtain ⟨hX9, hOn9, hW9, hTa9⟩ := hq
      have ht9 := hX9.1
      have hL9 := hX9.pu
      have hwz9 := wz_31 hW9 (wf_276 hW9 ht9)
      refine v_aload_n hC dX11_deliver_26 rfl rfl ?_
      refine gf_11_0 hC ht9 (wf_276 hW9 ht9) mw_4_120 dX11_deliver_27 ?_
      refine v_aload_n hC dX11_deliver_30 rfl rfl ?_
      refine v_iload_n hC dX11_deliver_31 rfl rfl ?_
      refine cVi1 hC (c_X11_fileBy ht9) yv_X11_fileBy rfl ht9 mw_4_222 ⟨Nat.le_of_ble_eq_true rfl, Nat.le_of_ble_eq_true rfl⟩ ⟨Nat.le_of_ble_eq_true rfl, Nat.le_of_ble_eq_true rfl⟩ (Nat.le_of_ble_eq_true rfl) dX11_deliver_32 (fun r32 M34 hq => ?_)
      obtain ⟨rfl, hm⟩ := hq
      have hm2 := hm.symm
      clear hm
      subst hm2
      refine v_iconst (v := 1) hC dX11_deliver_35 (by decide) ?_
      refine v_iadd hC dX11_deliver_36 ?_
      rw [show nI (18 + 7 * f) + 1 = nI (18 + 7 * f + 1) from nI_add _ 1]
      refine v_ldc2 hC mw_5_172 dX11_deliver_37 ?_
      refine v_last 31 hC (wf_276 hW9 ht9) (by decide) (by decide) (ix_c hwz9 (by omega)) dX11_deliver_40 ?_
      have hWx : Wt (s_l M25 31 (m_r M25 276 h 0) (18 + 7 * f + 1) 3) := hW9
      have htx : m_t (s_l M25 31 (m_r M25 276 h 0) (18 + 7 * f + 1) 3) h = 12 := ht9
      have hA1 : LA (rwM (s_l M25 31 (m_r M25 276 h 0) (18 + 7 * f + 1) 3) h) (delU (x_u x) f) := by
        rw [rwM_w, show 18 + 7 * f + 1 = pl 4 f 0 by simp [pl, pB_, pA_, pJ_]; omega]
        exact hL9.1.w4 (v := 3) f hf8 (Or.inr (Or.inr n4))
      refine v_aload_n hC dX11_deliver_41 rfl rfl ?_
      refine v_aload_n hC dX11_deliver_42 rfl rfl ?_
      refine v_aload_n hC dX11_deliver_43 rfl rfl ?_
      refine v_iload_n hC dX11_deliver_44 rfl rfl ?_
      refine cVi1 hC (c_X11_fileBy ht9) yv_X11_fileBy rfl ht9 mw_4_222 ⟨Nat.le_of_ble_eq_true rfl, Nat.le_of_ble_eq_true rfl⟩ ⟨Nat.le_of_ble_eq_true rfl, Nat.le_of_ble_eq_true rfl⟩ (Nat.le_of_ble_eq_true rfl) dX11_deliver_45 (fun r45 M47 hq => ?_)
      obtain ⟨rfl, hm⟩ := hq
      have hm2 := hm.symm
      clear hm
      subst hm2
      refine v_iconst (v := 2) hC dX11_deliver_48 (by decide) ?_
      refine v_iadd hC dX11_deliver_49 ?_
      rw [show nI (18 + 7 * f) + 2 = nI (18 + 7 * f + 2) from nI_add _ 2]
      refine cVi1 hC (c_X11_number hWx htx (by omega)) yv_X11_number rfl ht9 mw_4_165 ⟨Nat.le_of_ble_eq_true rfl, Nat.le_of_ble_eq_true rfl⟩ ⟨Nat.le_of_ble_eq_true rfl, Nat.le_of_ble_eq_true rfl⟩ (Nat.le_of_ble_eq_true rfl) dX11_deliver_50 (fun r50 M52 hq => ?_)
      obtain ⟨rfl, hm⟩ := hq
      have hm2 := hm.symm
      clear hm
      subst hm2
      rw [show (rwM (s_l M25 31 (m_r M25 276 h 0) (18 + 7 * f + 1) 3) h (18 + 7 * f + 2)).toInt32 = nI a from by rw [rwM_w, updR_n (by omega), show rwM M25 h (18 + 7 * f + 2) = _ from ((hL9.1.f4 hf).2.1 n4).1, Int32.toInt32_toInt64, ea]]
      refine cVi1 hC (c_X11_personBy ht9) yv_X11_personBy rfl ht9 mw_4_185 ⟨Nat.le_of_ble_eq_true rfl, Nat.le_of_ble_eq_true rfl⟩ ⟨Nat.le_of_ble_eq_true rfl, Nat.le_of_ble_eq_true rfl⟩ (Nat.le_of_ble_eq_true rfl) dX11_deliver_53 (fun r53 M55 hq => ?_)
      obtain ⟨rfl, hm⟩ := hq
      have hm2 := hm.symm
      clear hm
      subst hm2
      refine v_ist2 hC dX11_deliver_56 (by decide) (kk := ?_)
      refine v_aload_n hC dX11_deliver_57 rfl rfl ?_
      refine v_aload_n hC dX11_deliver_58 rfl rfl ?_
      refine v_aload_n hC dX11_deliver_59 rfl rfl ?_
      refine v_iload_n hC dX11_deliver_60 rfl rfl ?_
      refine cVi1 hC (c_X11_fileBy ht9) yv_X11_fileBy rfl ht9 mw_4_222 ⟨Nat.le_of_ble_eq_true rfl, Nat.le_of_ble_eq_true rfl⟩ ⟨Nat.le_of_ble_eq_true rfl, Nat.le_of_ble_eq_true rfl⟩ (Nat.le_of_ble_eq_true rfl) dX11_deliver_61 (fun r61 M63 hq => ?_)
      obtain ⟨rfl, hm⟩ := hq
      have hm2 := hm.symm
      clear hm
      subst hm2
      refine v_iconst (v := 3) hC dX11_deliver_64 (by decide) ?_
      refine v_iadd hC dX11_deliver_65 ?_
      rw [show nI (18 + 7 * f) + 3 = nI (18 + 7 * f + 3) from nI_add _ 3]
      refine cVi1 hC (c_X11_number hWx htx (by omega)) yv_X11_number rfl ht9 mw_4_165 ⟨Nat.le_of_ble_eq_true rfl, Nat.le_of_ble_eq_true rfl⟩ ⟨Nat.le_of_ble_eq_true rfl, Nat.le_of_ble_eq_true rfl⟩ (Nat.le_of_ble_eq_true rfl) dX11_deliver_66 (fun r66 M68 hq => ?_)
      obtain ⟨rfl, hm⟩ := hq
      have hm2 := hm.symm
      clear hm
      subst hm2
      rw [show (rwM (s_l M25 31 (m_r M25 276 h 0) (18 + 7 * f + 1) 3) h (18 + 7 * f + 3)).toInt32 = nI b from by rw [rwM_w, updR_n (by omega), show rwM M25 h (18 + 7 * f + 3) = _ from ((hL9.1.f4 hf).2.1 n4).2, Int32.toInt32_toInt64, ebb]]
      refine cVi1 hC (c_X11_personBy ht9) yv_X11_personBy rfl ht9 mw_4_185 ⟨Nat.le_of_ble_eq_true rfl, Nat.le_of_ble_eq_true rfl⟩ ⟨Nat.le_of_ble_eq_true rfl, Nat.le_of_ble_eq_true rfl⟩ (Nat.le_of_ble_eq_true rfl) dX11_deliver_69 (fun r69 M71 hq => ?_)
      obtain ⟨rfl, hm⟩ := hq
      have hm2 := hm.symm
      clear hm
      subst hm2
      refine v_ist3 hC dX11_deliver_72 (by decide) (kk := ?_)
      refine v_aload_n hC dX11_deliver_73 rfl rfl ?_
      refine v_iload_n hC dX11_deliver_74 rfl rfl ?_
      refine cVi1 hC (c_X11_words hWx htx hA1 hf) yv_X11_words rfl ht9 mw_5_173 ⟨Nat.le_of_ble_eq_true rfl, Nat.le_of_ble_eq_true rfl⟩ ⟨Nat.le_of_ble_eq_true rfl, Nat.le_of_ble_eq_true rfl⟩ (Nat.le_of_ble_eq_true rfl) dX11_deliver_75 (fun r75 M77 hq => ?_)
      obtain ⟨rfl, hm⟩ := hq
      have hm2 := hm.symm
      clear hm
      subst hm2
      refine v_ist4 hC dX11_deliver_78 (by decide) (kk := ?_)
      refine v_aload_n hC dX11_deliver_80 rfl rfl ?_
      refine gf_11_0 hC ht9 (wf_276 hW9 ht9) mw_4_120 dX11_deliver_81 ?_
      refine v_iload_n hC dX11_deliver_84 rfl rfl ?_
      refine v_iconst (v := 3) hC dX11_deliver_85 (by decide) ?_
      refine v_iadd hC dX11_deliver_86 ?_
      rw [show nI (74 + 7 * a) + 3 = nI (74 + 7 * a + 3) from nI_add _ 3]
      refine v_dup2 hC dX11_deliver_87 rfl rfl ?_
      refine v_lald 31 hC (wf_276 hW9 ht9) (by decide) (by decide) (ix_c hwz9 (by omega)) dX11_deliver_88 ?_
      rw [show m_l (s_l M25 31 (m_r M25 276 h 0) (18 + 7 * f + 1) 3) 31 (m_r (s_l M25 31 (m_r M25 276 h 0) (18 + 7 * f + 1) 3) 276 h 0) (74 + 7 * a + 3) = rwM M25 h (pl 20 a 0) from by
        show rwM (s_l M25 31 (m_r M25 276 h 0) (18 + 7 * f + 1) 3) h (74 + 7 * a + 3) = _
        rw [rwM_w, updR_n (by omega)]
        exact congrArg (rwM M25 h) (show 74 + 7 * a + 3 = pl 20 a 0 by simp [pl, pB_, pA_, pJ_]; omega)]
      refine v_aload_n hC dX11_deliver_89 rfl rfl ?_
      refine gf_11_0 hC ht9 (wf_276 hW9 ht9) mw_4_120 dX11_deliver_90 ?_
      refine v_aload_n hC dX11_deliver_93 rfl rfl ?_
      refine v_iload_n hC dX11_deliver_94 rfl rfl ?_
      refine cVi1 hC (c_X11_fileBy ht9) yv_X11_fileBy rfl ht9 mw_4_222 ⟨Nat.le_of_ble_eq_true rfl, Nat.le_of_ble_eq_true rfl⟩ ⟨Nat.le_of_ble_eq_true rfl, Nat.le_of_ble_eq_true rfl⟩ (Nat.le_of_ble_eq_true rfl) dX11_deliver_95 (fun r95 M97 hq => ?_)
      obtain ⟨rfl, hm⟩ := hq
      have hm2 := hm.symm
      clear hm
      subst hm2
      refine v_iconst (v := 4) hC dX11_deliver_98 (by decide) ?_
      refine v_iadd hC dX11_deliver_99 ?_
      rw [show nI (18 + 7 * f) + 4 = nI (18 + 7 * f + 4) from nI_add _ 4]
      refine v_lald 31 hC (wf_276 hW9 ht9) (by decide) (by decide) (ix_c hwz9 (by omega)) dX11_deliver_100 ?_
      rw [show m_l (s_l M25 31 (m_r M25 276 h 0) (18 + 7 * f + 1) 3) 31 (m_r (s_l M25 31 (m_r M25 276 h 0) (18 + 7 * f + 1) 3) 276 h 0) (18 + 7 * f + 4) = (q_i (x_u x) 7 f 0).toInt64 from by
        show rwM (s_l M25 31 (m_r M25 276 h 0) (18 + 7 * f + 1) 3) h (18 + 7 * f + 4) = _
        rw [rwM_w, updR_n (by omega)]
        exact (hL9.1.f4 hf).2.2.1]
      refine v_ladd hC dX11_deliver_101 ?_
      refine v_last 31 hC (wf_276 hW9 ht9) (by decide) (by decide) (ix_c hwz9 (by omega)) dX11_deliver_102 ?_
      refine v_aload_n hC dX11_deliver_103 rfl rfl ?_
      refine gf_11_0 hC ht9 (wf_276 hW9 ht9) mw_4_120 dX11_deliver_104 ?_
      refine v_iload_n hC dX11_deliver_107 rfl rfl ?_
      refine v_iconst (v := 4) hC dX11_deliver_108 (by decide) ?_
      refine v_iadd hC dX11_deliver_109 ?_
      rw [show nI (74 + 7 * a) + 4 = nI (74 + 7 * a + 4) from nI_add _ 4]
      refine v_dup2 hC dX11_deliver_110 rfl rfl ?_
      refine v_lald 31 hC (wf_276 hW9 ht9) (by decide) (by decide) (ix_c hwz9 (by omega)) dX11_deliver_111 ?_
      rw [show m_l (s_l (s_l M25 31 (m_r M25 276 h 0) (18 + 7 * f + 1) 3) 31 (m_r (s_l M25 31 (m_r M25 276 h 0) (18 + 7 * f + 1) 3) 276 h 0) (74 + 7 * a + 3) (rwM M25 h (pl 20 a 0) + (q_i (x_u x) 7 f 0).toInt64)) 31 (m_r (s_l (s_l M25 31 (m_r M25 276 h 0) (18 + 7 * f + 1) 3) 31 (m_r (s_l M25 31 (m_r M25 276 h 0) (18 + 7 * f + 1) 3) 276 h 0) (74 + 7 * a + 3) (rwM M25 h (pl 20 a 0) + (q_i (x_u x) 7 f 0).toInt64)) 276 h 0) (74 + 7 * a + 4) = rwM M25 h (pl 21 a 0) from by
        show rwM (s_l (s_l M25 31 (m_r M25 276 h 0) (18 + 7 * f + 1) 3) 31 (m_r (s_l M25 31 (m_r M25 276 h 0) (18 + 7 * f + 1) 3) 276 h 0) (74 + 7 * a + 3) (rwM M25 h (pl 20 a 0) + (q_i (x_u x) 7 f 0).toInt64)) h (74 + 7 * a + 4) = _
        rw [rwM_w, updR_n (by omega), rwM_w, updR_n (by omega)]
        exact congrArg (rwM M25 h) (show 74 + 7 * a + 4 = pl 21 a 0 by simp [pl, pB_, pA_, pJ_]; omega)]
      refine v_iload hC dX11_deliver_112 rfl ?_
      refine v_i2l hC dX11_deliver_114 ?_
      refine v_ladd hC dX11_deliver_115 ?_
      refine v_last 31 hC (wf_276 hW9 ht9) (by decide) (by decide) (ix_c hwz9 (by omega)) dX11_deliver_116 ?_
      refine v_aload_n hC dX11_deliver_117 rfl rfl ?_
      refine gf_11_0 hC ht9 (wf_276 hW9 ht9) mw_4_120 dX11_deliver_118 ?_
      refine v_iload_n hC dX11_deliver_121 rfl rfl ?_
      refine v_iconst (v := 3) hC dX11_deliver_122 (by decide) ?_
      refine v_iadd hC dX11_deliver_123 ?_
      rw [show nI (74 + 7 * b) + 3 = nI (74 + 7 * b + 3) from nI_add _ 3]
      refine v_dup2 hC dX11_deliver_124 rfl rfl ?_
      refine v_lald 31 hC (wf_276 hW9 ht9) (by decide) (by decide) (ix_c hwz9 (by omega)) dX11_deliver_125 ?_
      rw [show m_l (s_l (s_l (s_l M25 31 (m_r M25 276 h 0) (18 + 7 * f + 1) 3) 31 (m_r (s_l M25 31 (m_r M25 276 h 0) (18 + 7 * f + 1) 3) 276 h 0) (74 + 7 * a + 3) (rwM M25 h (pl 20 a 0) + (q_i (x_u x) 7 f 0).toInt64)) 31 (m_r (s_l (s_l M25 31 (m_r M25 276 h 0) (18 + 7 * f + 1) 3) 31 (m_r (s_l M25 31 (m_r M25 276 h 0) (18 + 7 * f + 1) 3) 276 h 0) (74 + 7 * a + 3) (rwM M25 h (pl 20 a 0) + (q_i (x_u x) 7 f 0).toInt64)) 276 h 0) (74 + 7 * a + 4) (rwM M25 h (pl 21 a 0) + (w_f (delU (x_u x) f) f).toInt64)) 31 (m_r (s_l (s_l (s_l M25 31 (m_r M25 276 h 0) (18 + 7 * f + 1) 3) 31 (m_r (s_l M25 31 (m_r M25 276 h 0) (18 + 7 * f + 1) 3) 276 h 0) (74 + 7 * a + 3) (rwM M25 h (pl 20 a 0) + (q_i (x_u x) 7 f 0).toInt64)) 31 (m_r (s_l (s_l M25 31 (m_r M25 276 h 0) (18 + 7 * f + 1) 3) 31 (m_r (s_l M25 31 (m_r M25 276 h 0) (18 + 7 * f + 1) 3) 276 h 0) (74 + 7 * a + 3) (rwM M25 h (pl 20 a 0) + (q_i (x_u x) 7 f 0).toInt64)) 276 h 0) (74 + 7 * a + 4) (rwM M25 h (pl 21 a 0) + (w_f (delU (x_u x) f) f).toInt64)) 276 h 0) (74 + 7 * b + 3) = rwM M25 h (pl 20 b 0) from by
        show rwM (s_l (s_l (s_l M25 31 (m_r M25 276 h 0) (18 + 7 * f + 1) 3) 31 (m_r (s_l M25 31 (m_r M25 276 h 0) (18 + 7 * f + 1) 3) 276 h 0) (74 + 7 * a + 3) (rwM M25 h (pl 20 a 0) + (q_i (x_u x) 7 f 0).toInt64)) 31 (m_r (s_l (s_l M25 31 (m_r M25 276 h 0) (18 + 7 * f + 1) 3) 31 (m_r (s_l M25 31 (m_r M25 276 h 0) (18 + 7 * f + 1) 3) 276 h 0) (74 + 7 * a + 3) (rwM M25 h (pl 20 a 0) + (q_i (x_u x) 7 f 0).toInt64)) 276 h 0) (74 + 7 * a + 4) (rwM M25 h (pl 21 a 0) + (w_f (delU (x_u x) f) f).toInt64)) h (74 + 7 * b + 3) = _
        rw [rwM_w, updR_n (by omega), rwM_w, updR_n (by omega), rwM_w, updR_n (by omega)]
        exact congrArg (rwM M25 h) (show 74 + 7 * b + 3 = pl 20 b 0 by simp [pl, pB_, pA_, pJ_]; omega)]
      refine v_iconst (v := 2) hC dX11_deliver_126 (by decide) ?_
      refine v_iload hC dX11_deliver_127 rfl ?_
      refine v_imul hC dX11_deliver_129 ?_
      refine v_i2l hC dX11_deliver_130 ?_
      refine v_ladd hC dX11_deliver_131 ?_
      refine v_last 31 hC (wf_276 hW9 ht9) (by decide) (by decide) (ix_c hwz9 (by omega)) dX11_deliver_132 ?_
      refine v_aload_n hC dX11_deliver_133 rfl rfl ?_
      refine gf_11_0 hC ht9 (wf_276 hW9 ht9) mw_4_120 dX11_deliver_134 ?_
      refine v_iload_n hC dX11_deliver_137 rfl rfl ?_
      refine v_iconst (v := 5) hC dX11_deliver_138 (by decide) ?_
      refine v_iadd hC dX11_deliver_139 ?_
      rw [show nI (74 + 7 * b) + 5 = nI (74 + 7 * b + 5) from nI_add _ 5]
      refine v_dup2 hC dX11_deliver_140 rfl rfl ?_
      refine v_lald 31 hC (wf_276 hW9 ht9) (by decide) (by decide) (ix_c hwz9 (by omega)) dX11_deliver_141 ?_
      rw [show m_l (s_l (s_l (s_l (s_l M25 31 (m_r M25 276 h 0) (18 + 7 * f + 1) 3) 31 (m_r (s_l M25 31 (m_r M25 276 h 0) (18 + 7 * f + 1) 3) 276 h 0) (74 + 7 * a + 3) (rwM M25 h (pl 20 a 0) + (q_i (x_u x) 7 f 0).toInt64)) 31 (m_r (s_l (s_l M25 31 (m_r M25 276 h 0) (18 + 7 * f + 1) 3) 31 (m_r (s_l M25 31 (m_r M25 276 h 0) (18 + 7 * f + 1) 3) 276 h 0) (74 + 7 * a + 3) (rwM M25 h (pl 20 a 0) + (q_i (x_u x) 7 f 0).toInt64)) 276 h 0) (74 + 7 * a + 4) (rwM M25 h (pl 21 a 0) + (w_f (delU (x_u x) f) f).toInt64)) 31 (m_r (s_l (s_l (s_l M25 31 (m_r M25 276 h 0) (18 + 7 * f + 1) 3) 31 (m_r (s_l M25 31 (m_r M25 276 h 0) (18 + 7 * f + 1) 3) 276 h 0) (74 + 7 * a + 3) (rwM M25 h (pl 20 a 0) + (q_i (x_u x) 7 f 0).toInt64)) 31 (m_r (s_l (s_l M25 31 (m_r M25 276 h 0) (18 + 7 * f + 1) 3) 31 (m_r (s_l M25 31 (m_r M25 276 h 0) (18 + 7 * f + 1) 3) 276 h 0) (74 + 7 * a + 3) (rwM M25 h (pl 20 a 0) + (q_i (x_u x) 7 f 0).toInt64)) 276 h 0) (74 + 7 * a + 4) (rwM M25 h (pl 21 a 0) + (w_f (delU (x_u x) f) f).toInt64)) 276 h 0) (74 + 7 * b + 3) (rwM M25 h (pl 20 b 0) + (2 * w_f (delU (x_u x) f) f).toInt64)) 31 (m_r (s_l (s_l (s_l (s_l M25 31 (m_r M25 276 h 0) (18 + 7 * f + 1) 3) 31 (m_r (s_l M25 31 (m_r M25 276 h 0) (18 + 7 * f + 1) 3) 276 h 0) (74 + 7 * a + 3) (rwM M25 h (pl 20 a 0) + (q_i (x_u x) 7 f 0).toInt64)) 31 (m_r (s_l (s_l M25 31 (m_r M25 276 h 0) (18 + 7 * f + 1) 3) 31 (m_r (s_l M25 31 (m_r M25 276 h 0) (18 + 7 * f + 1) 3) 276 h 0) (74 + 7 * a + 3) (rwM M25 h (pl 20 a 0) + (q_i (x_u x) 7 f 0).toInt64)) 276 h 0) (74 + 7 * a + 4) (rwM M25 h (pl 21 a 0) + (w_f (delU (x_u x) f) f).toInt64)) 31 (m_r (s_l (s_l (s_l M25 31 (m_r M25 276 h 0) (18 + 7 * f + 1) 3) 31 (m_r (s_l M25 31 (m_r M25 276 h 0) (18 + 7 * f + 1) 3) 276 h 0) (74 + 7 * a + 3) (rwM M25 h (pl 20 a 0) + (q_i (x_u x) 7 f 0).toInt64)) 31 (m_r (s_l (s_l M25 31 (m_r M25 276 h 0) (18 + 7 * f + 1) 3) 31 (m_r (s_l M25 31 (m_r M25 276 h 0) (18 + 7 * f + 1) 3) 276 h 0) (74 + 7 * a + 3) (rwM M25 h (pl 20 a 0) + (q_i (x_u x) 7 f 0).toInt64)) 276 h 0) (74 + 7 * a + 4) (rwM M25 h (pl 21 a 0) + (w_f (delU (x_u x) f) f).toInt64)) 276 h 0) (74 + 7 * b + 3) (rwM M25 h (pl 20 b 0) + (2 * w_f (delU (x_u x) f) f).toInt64)) 276 h 0) (74 + 7 * b + 5) = rwM M25 h (pl 22 b 0) from by
        show rwM (s_l (s_l (s_l (s_l M25 31 (m_r M25 276 h 0) (18 + 7 * f + 1) 3) 31 (m_r (s_l M25 31 (m_r M25 276 h 0) (18 + 7 * f + 1) 3) 276 h 0) (74 + 7 * a + 3) (rwM M25 h (pl 20 a 0) + (q_i (x_u x) 7 f 0).toInt64)) 31 (m_r (s_l (s_l M25 31 (m_r M25 276 h 0) (18 + 7 * f + 1) 3) 31 (m_r (s_l M25 31 (m_r M25 276 h 0) (18 + 7 * f + 1) 3) 276 h 0) (74 + 7 * a + 3) (rwM M25 h (pl 20 a 0) + (q_i (x_u x) 7 f 0).toInt64)) 276 h 0) (74 + 7 * a + 4) (rwM M25 h (pl 21 a 0) + (w_f (delU (x_u x) f) f).toInt64)) 31 (m_r (s_l (s_l (s_l M25 31 (m_r M25 276 h 0) (18 + 7 * f + 1) 3) 31 (m_r (s_l M25 31 (m_r M25 276 h 0) (18 + 7 * f + 1) 3) 276 h 0) (74 + 7 * a + 3) (rwM M25 h (pl 20 a 0) + (q_i (x_u x) 7 f 0).toInt64)) 31 (m_r (s_l (s_l M25 31 (m_r M25 276 h 0) (18 + 7 * f + 1) 3) 31 (m_r (s_l M25 31 (m_r M25 276 h 0) (18 + 7 * f + 1) 3) 276 h 0) (74 + 7 * a + 3) (rwM M25 h (pl 20 a 0) + (q_i (x_u x) 7 f 0).toInt64)) 276 h 0) (74 + 7 * a + 4) (rwM M25 h (pl 21 a 0) + (w_f (delU (x_u x) f) f).toInt64)) 276 h 0) (74 + 7 * b + 3) (rwM M25 h (pl 20 b 0) + (2 * w_f (delU (x_u x) f) f).toInt64)) h (74 + 7 * b + 5) = _
        rw [rwM_w, updR_n (by omega), rwM_w, updR_n (by omega), rwM_w, updR_n (by omega), rwM_w, updR_n (by omega)]
        exact congrArg (rwM M25 h) (show 74 + 7 * b + 5 = pl 22 b 0 by simp [pl, pB_, pA_, pJ_]; omega)]
      refine v_iload hC dX11_deliver_142 rfl ?_
      refine v_i2l hC dX11_deliver_144 ?_
      refine v_ladd hC dX11_deliver_145 ?_
      refine v_last 31 hC (wf_276 hW9 ht9) (by decide) (by decide) (ix_c hwz9 (by omega)) dX11_deliver_146 ?_
      have hfin : LRw (rwM (s_l (s_l (s_l (s_l (s_l M25 31 (m_r M25 276 h 0) (18 + 7 * f + 1) 3) 31 (m_r (s_l M25 31 (m_r M25 276 h 0) (18 + 7 * f + 1) 3) 276 h 0) (74 + 7 * a + 3) (rwM M25 h (pl 20 a 0) + (q_i (x_u x) 7 f 0).toInt64)) 31 (m_r (s_l (s_l M25 31 (m_r M25 276 h 0) (18 + 7 * f + 1) 3) 31 (m_r (s_l M25 31 (m_r M25 276 h 0) (18 + 7 * f + 1) 3) 276 h 0) (74 + 7 * a + 3) (rwM M25 h (pl 20 a 0) + (q_i (x_u x) 7 f 0).toInt64)) 276 h 0) (74 + 7 * a + 4) (rwM M25 h (pl 21 a 0) + (w_f (delU (x_u x) f) f).toInt64)) 31 (m_r (s_l (s_l (s_l M25 31 (m_r M25 276 h 0) (18 + 7 * f + 1) 3) 31 (m_r (s_l M25 31 (m_r M25 276 h 0) (18 + 7 * f + 1) 3) 276 h 0) (74 + 7 * a + 3) (rwM M25 h (pl 20 a 0) + (q_i (x_u x) 7 f 0).toInt64)) 31 (m_r (s_l (s_l M25 31 (m_r M25 276 h 0) (18 + 7 * f + 1) 3) 31 (m_r (s_l M25 31 (m_r M25 276 h 0) (18 + 7 * f + 1) 3) 276 h 0) (74 + 7 * a + 3) (rwM M25 h (pl 20 a 0) + (q_i (x_u x) 7 f 0).toInt64)) 276 h 0) (74 + 7 * a + 4) (rwM M25 h (pl 21 a 0) + (w_f (delU (x_u x) f) f).toInt64)) 276 h 0) (74 + 7 * b + 3) (rwM M25 h (pl 20 b 0) + (2 * w_f (delU (x_u x) f) f).toInt64)) 31 (m_r (s_l (s_l (s_l (s_l M25 31 (m_r M25 276 h 0) (18 + 7 * f + 1) 3) 31 (m_r (s_l M25 31 (m_r M25 276 h 0) (18 + 7 * f + 1) 3) 276 h 0) (74 + 7 * a + 3) (rwM M25 h (pl 20 a 0) + (q_i (x_u x) 7 f 0).toInt64)) 31 (m_r (s_l (s_l M25 31 (m_r M25 276 h 0) (18 + 7 * f + 1) 3) 31 (m_r (s_l M25 31 (m_r M25 276 h 0) (18 + 7 * f + 1) 3) 276 h 0) (74 + 7 * a + 3) (rwM M25 h (pl 20 a 0) + (q_i (x_u x) 7 f 0).toInt64)) 276 h 0) (74 + 7 * a + 4) (rwM M25 h (pl 21 a 0) + (w_f (delU (x_u x) f) f).toInt64)) 31 (m_r (s_l (s_l (s_l M25 31 (m_r M25 276 h 0) (18 + 7 * f + 1) 3) 31 (m_r (s_l M25 31 (m_r M25 276 h 0) (18 + 7 * f + 1) 3) 276 h 0) (74 + 7 * a + 3) (rwM M25 h (pl 20 a 0) + (q_i (x_u x) 7 f 0).toInt64)) 31 (m_r (s_l (s_l M25 31 (m_r M25 276 h 0) (18 + 7 * f + 1) 3) 31 (m_r (s_l M25 31 (m_r M25 276 h 0) (18 + 7 * f + 1) 3) 276 h 0) (74 + 7 * a + 3) (rwM M25 h (pl 20 a 0) + (q_i (x_u x) 7 f 0).toInt64)) 276 h 0) (74 + 7 * a + 4) (rwM M25 h (pl 21 a 0) + (w_f (delU (x_u x) f) f).toInt64)) 276 h 0) (74 + 7 * b + 3) (rwM M25 h (pl 20 b 0) + (2 * w_f (delU (x_u x) f) f).toInt64)) 276 h 0) (74 + 7 * b + 5) (rwM M25 h (pl 22 b 0) + (w_f (delU (x_u x) f) f).toInt64)) h) (delU (x_u x) f) := by
        have c2 : ∀ k p, 20 ≤ k → k ≤ 22 → p < 6 → cpX k p 0 := fun k p q1 q2 hp => cX_2x q1 q2 hp
        have ns : ∀ k p, 20 ≤ k → k ≤ 22 → ¬ sp (delU (x_u x) f) k p 0 := fun k p q1 q2 q => by
          have q3 := q.1
          unfold spN at q3
          omega
        have x22b : cpX 22 b 0 := c2 22 b (by decide) (by decide) (by omega)
        have x20b : cpX 20 b 0 := c2 20 b (by decide) (by decide) (by omega)
        have x21a : cpX 21 a 0 := c2 21 a (by decide) (by decide) (by omega)
        have x20a : cpX 20 a 0 := c2 20 a (by decide) (by decide) (by omega)
        have x4f : cpX 4 f 0 := Or.inl (Or.inr (Or.inr (Or.inl ⟨by decide, by decide, hf8, rfl⟩)))
        rw [rwM_w, rwM_w, rwM_w, rwM_w, rwM_w, show 74 + 7 * a + 3 = pl 20 a 0 by simp [pl, pB_, pA_, pJ_]; omega, show 74 + 7 * a + 4 = pl 21 a 0 by simp [pl, pB_, pA_, pJ_]; omega, show 74 + 7 * b + 3 = pl 20 b 0 by simp [pl, pB_, pA_, pJ_]; omega, show 74 + 7 * b + 5 = pl 22 b 0 by simp [pl, pB_, pA_, pJ_]; omega, show 18 + 7 * f + 1 = pl 4 f 0 by simp [pl, pB_, pA_, pJ_]; omega]
        have a1 := hL9.1.w4 (v := 3) f hf8 (Or.inr (Or.inr n4))
        refine ⟨(((a1.off 20 a 0 x20a (ns 20 a (by decide) (by decide))).off 21 a 0 x21a (ns 21 a (by decide) (by decide))).off 20 b 0 x20b (ns 20 b (by decide) (by decide))).off 22 b 0 x22b (ns 22 b (by decide) (by decide)), ?_⟩
        refine hL9.2.del u2 hf h44 ha hb ea ebb (fun p hp => ?_)
        have y20 : cpX 20 p 0 := c2 20 p (by decide) (by decide) (by omega)
        have y21 : cpX 21 p 0 := c2 21 p (by decide) (by decide) (by omega)
        have y22 : cpX 22 p 0 := c2 22 p (by decide) (by decide) (by omega)
        by_cases qa : p = a
        · subst qa
          rw [if_pos rfl, if_pos rfl, if_neg hab, if_neg hab, Int32.add_zero, Int32.add_zero]
          refine ⟨?_, ?_, ?_⟩
          · rw [updR_n (pl_ne x22b y20 (by omega)), updR_n (pl_ne x20b y20 (by omega)), updR_n (pl_ne x21a y20 (by omega)), updR_e, Int64.toInt32_add, Int32.toInt32_toInt64]
          · rw [updR_n (pl_ne x22b y21 (by omega)), updR_n (pl_ne x20b y21 (by omega)), updR_e, Int64.toInt32_add, Int32.toInt32_toInt64]; rfl
          · rw [updR_n (pl_ne x22b y22 (by omega)), updR_n (pl_ne x20b y22 (by omega)), updR_n (pl_ne x21a y22 (by omega)), updR_n (pl_ne x20a y22 (by omega)), updR_n (pl_ne x4f y22 (by omega))]
        · by_cases qb : p = b
          · subst qb
            rw [if_neg qa, if_neg qa, if_pos rfl, if_pos rfl, Int32.add_zero, Int32.zero_add]
            refine ⟨?_, ?_, ?_⟩
            · rw [updR_n (pl_ne x22b y20 (by omega)), updR_e, Int64.toInt32_add, Int32.toInt32_toInt64]; rfl
            · rw [updR_n (pl_ne x22b y21 (by omega)), updR_n (pl_ne x20b y21 (by omega)), updR_n (pl_ne x21a y21 (by omega)), updR_n (pl_ne x20a y21 (by omega)), updR_n (pl_ne x4f y21 (by omega))]
            · rw [updR_e, Int64.toInt32_add, Int32.toInt32_toInt64]; rfl
          · rw [if_neg qa, if_neg qa, if_neg qb, if_neg qb, Int32.add_zero, Int32.add_zero, Int32.add_zero, Int32.add_zero]
            refine ⟨?_, ?_, ?_⟩
            · rw [updR_n (pl_ne x22b y20 (by omega)), updR_n (pl_ne x20b y20 (by omega)), updR_n (pl_ne x21a y20 (by omega)), updR_n (pl_ne x20a y20 (by omega)), updR_n (pl_ne x4f y20 (by omega))]
            · rw [updR_n (pl_ne x22b y21 (by omega)), updR_n (pl_ne x20b y21 (by omega)), updR_n (pl_ne x21a y21 (by omega)), updR_n (pl_ne x20a y21 (by omega)), updR_n (pl_ne x4f y21 (by omega))]
            · rw [updR_n (pl_ne x22b y22 (by omega)), updR_n (pl_ne x20b y22 (by omega)), updR_n (pl_ne x21a y22 (by omega)), updR_n (pl_ne x20a y22 (by omega)), updR_n (pl_ne x4f y22 (by omega))]
      have hWe : Wt (s_l (s_l (s_l (s_l (s_l M25 31 (m_r M25 276 h 0) (18 + 7 * f + 1) 3) 31 (m_r (s_l M25 31 (m_r M25 276 h 0) (18 + 7 * f + 1) 3) 276 h 0) (74 + 7 * a + 3) (rwM M25 h (pl 20 a 0) + (q_i (x_u x) 7 f 0).toInt64)) 31 (m_r (s_l (s_l M25 31 (m_r M25 276 h 0) (18 + 7 * f + 1) 3) 31 (m_r (s_l M25 31 (m_r M25 276 h 0) (18 + 7 * f + 1) 3) 276 h 0) (74 + 7 * a + 3) (rwM M25 h (pl 20 a 0) + (q_i (x_u x) 7 f 0).toInt64)) 276 h 0) (74 + 7 * a + 4) (rwM M25 h (pl 21 a 0) + (w_f (delU (x_u x) f) f).toInt64)) 31 (m_r (s_l (s_l (s_l M25 31 (m_r M25 276 h 0) (18 + 7 * f + 1) 3) 31 (m_r (s_l M25 31 (m_r M25 276 h 0) (18 + 7 * f + 1) 3) 276 h 0) (74 + 7 * a + 3) (rwM M25 h (pl 20 a 0) + (q_i (x_u x) 7 f 0).toInt64)) 31 (m_r (s_l (s_l M25 31 (m_r M25 276 h 0) (18 + 7 * f + 1) 3) 31 (m_r (s_l M25 31 (m_r M25 276 h 0) (18 + 7 * f + 1) 3) 276 h 0) (74 + 7 * a + 3) (rwM M25 h (pl 20 a 0) + (q_i (x_u x) 7 f 0).toInt64)) 276 h 0) (74 + 7 * a + 4) (rwM M25 h (pl 21 a 0) + (w_f (delU (x_u x) f) f).toInt64)) 276 h 0) (74 + 7 * b + 3) (rwM M25 h (pl 20 b 0) + (2 * w_f (delU (x_u x) f) f).toInt64)) 31 (m_r (s_l (s_l (s_l (s_l M25 31 (m_r M25 276 h 0) (18 + 7 * f + 1) 3) 31 (m_r (s_l M25 31 (m_r M25 276 h 0) (18 + 7 * f + 1) 3) 276 h 0) (74 + 7 * a + 3) (rwM M25 h (pl 20 a 0) + (q_i (x_u x) 7 f 0).toInt64)) 31 (m_r (s_l (s_l M25 31 (m_r M25 276 h 0) (18 + 7 * f + 1) 3) 31 (m_r (s_l M25 31 (m_r M25 276 h 0) (18 + 7 * f + 1) 3) 276 h 0) (74 + 7 * a + 3) (rwM M25 h (pl 20 a 0) + (q_i (x_u x) 7 f 0).toInt64)) 276 h 0) (74 + 7 * a + 4) (rwM M25 h (pl 21 a 0) + (w_f (delU (x_u x) f) f).toInt64)) 31 (m_r (s_l (s_l (s_l M25 31 (m_r M25 276 h 0) (18 + 7 * f + 1) 3) 31 (m_r (s_l M25 31 (m_r M25 276 h 0) (18 + 7 * f + 1) 3) 276 h 0) (74 + 7 * a + 3) (rwM M25 h (pl 20 a 0) + (q_i (x_u x) 7 f 0).toInt64)) 31 (m_r (s_l (s_l M25 31 (m_r M25 276 h 0) (18 + 7 * f + 1) 3) 31 (m_r (s_l M25 31 (m_r M25 276 h 0) (18 + 7 * f + 1) 3) 276 h 0) (74 + 7 * a + 3) (rwM M25 h (pl 20 a 0) + (q_i (x_u x) 7 f 0).toInt64)) 276 h 0) (74 + 7 * a + 4) (rwM M25 h (pl 21 a 0) + (w_f (delU (x_u x) f) f).toInt64)) 276 h 0) (74 + 7 * b + 3) (rwM M25 h (pl 20 b 0) + (2 * w_f (delU (x_u x) f) f).toInt64)) 276 h 0) (74 + 7 * b + 5) (rwM M25 h (pl 22 b 0) + (w_f (delU (x_u x) f) f).toInt64)) := hW9
      have hte : m_t (s_l (s_l (s_l (s_l (s_l M25 31 (m_r M25 276 h 0) (18 + 7 * f + 1) 3) 31 (m_r (s_l M25 31 (m_r M25 276 h 0) (18 + 7 * f + 1) 3) 276 h 0) (74 + 7 * a + 3) (rwM M25 h (pl 20 a 0) + (q_i (x_u x) 7 f 0).toInt64)) 31 (m_r (s_l (s_l M25 31 (m_r M25 276 h 0) (18 + 7 * f + 1) 3) 31 (m_r (s_l M25 31 (m_r M25 276 h 0) (18 + 7 * f + 1) 3) 276 h 0) (74 + 7 * a + 3) (rwM M25 h (pl 20 a 0) + (q_i (x_u x) 7 f 0).toInt64)) 276 h 0) (74 + 7 * a + 4) (rwM M25 h (pl 21 a 0) + (w_f (delU (x_u x) f) f).toInt64)) 31 (m_r (s_l (s_l (s_l M25 31 (m_r M25 276 h 0) (18 + 7 * f + 1) 3) 31 (m_r (s_l M25 31 (m_r M25 276 h 0) (18 + 7 * f + 1) 3) 276 h 0) (74 + 7 * a + 3) (rwM M25 h (pl 20 a 0) + (q_i (x_u x) 7 f 0).toInt64)) 31 (m_r (s_l (s_l M25 31 (m_r M25 276 h 0) (18 + 7 * f + 1) 3) 31 (m_r (s_l M25 31 (m_r M25 276 h 0) (18 + 7 * f + 1) 3) 276 h 0) (74 + 7 * a + 3) (rwM M25 h (pl 20 a 0) + (q_i (x_u x) 7 f 0).toInt64)) 276 h 0) (74 + 7 * a + 4) (rwM M25 h (pl 21 a 0) + (w_f (delU (x_u x) f) f).toInt64)) 276 h 0) (74 + 7 * b + 3) (rwM M25 h (pl 20 b 0) + (2 * w_f (delU (x_u x) f) f).toInt64)) 31 (m_r (s_l (s_l (s_l (s_l M25 31 (m_r M25 276 h 0) (18 + 7 * f + 1) 3) 31 (m_r (s_l M25 31 (m_r M25 276 h 0) (18 + 7 * f + 1) 3) 276 h 0) (74 + 7 * a + 3) (rwM M25 h (pl 20 a 0) + (q_i (x_u x) 7 f 0).toInt64)) 31 (m_r (s_l (s_l M25 31 (m_r M25 276 h 0) (18 + 7 * f + 1) 3) 31 (m_r (s_l M25 31 (m_r M25 276 h 0) (18 + 7 * f + 1) 3) 276 h 0) (74 + 7 * a + 3) (rwM M25 h (pl 20 a 0) + (q_i (x_u x) 7 f 0).toInt64)) 276 h 0) (74 + 7 * a + 4) (rwM M25 h (pl 21 a 0) + (w_f (delU (x_u x) f) f).toInt64)) 31 (m_r (s_l (s_l (s_l M25 31 (m_r M25 276 h 0) (18 + 7 * f + 1) 3) 31 (m_r (s_l M25 31 (m_r M25 276 h 0) (18 + 7 * f + 1) 3) 276 h 0) (74 + 7 * a + 3) (rwM M25 h (pl 20 a 0) + (q_i (x_u x) 7 f 0).toInt64)) 31 (m_r (s_l (s_l M25 31 (m_r M25 276 h 0) (18 + 7 * f + 1) 3) 31 (m_r (s_l M25 31 (m_r M25 276 h 0) (18 + 7 * f + 1) 3) 276 h 0) (74 + 7 * a + 3) (rwM M25 h (pl 20 a 0) + (q_i (x_u x) 7 f 0).toInt64)) 276 h 0) (74 + 7 * a + 4) (rwM M25 h (pl 21 a 0) + (w_f (delU (x_u x) f) f).toInt64)) 276 h 0) (74 + 7 * b + 3) (rwM M25 h (pl 20 b 0) + (2 * w_f (delU (x_u x) f) f).toInt64)) 276 h 0) (74 + 7 * b + 5) (rwM M25 h (pl 22 b 0) + (w_f (delU (x_u x) f) f).toInt64)) h = 12 := ht9
      have hS9 : WfS (delU (x_u x) f) := fun g hg => by
        by_cases q : g = f
        · rw [q]; exact ⟨3, by decide, q_ie⟩
        · rw [show q_i (delU (x_u x) f) 4 g 0 = q_i (x_u x) 4 g 0 from q_ia q]; exact hS g hg
      refine v_aload_n hC dX11_deliver_147 rfl rfl ?_
      refine v_iload_n hC dX11_deliver_148 rfl rfl ?_
      refine cVi1 hC (c_X11_cost hWe hte hfin.1 hS9 hf) yv_X11_cost rfl ht9 mw_5_177 ⟨Nat.le_of_ble_eq_true rfl, Nat.le_of_ble_eq_true rfl⟩ ⟨Nat.le_of_ble_eq_true rfl, Nat.le_of_ble_eq_true rfl⟩ (Nat.le_of_ble_eq_true rfl) dX11_deliver_149 (fun r149 M151 hq => ?_)
      obtain ⟨rfl, hm⟩ := hq
      have hm2 := hm.symm
      clear hm
      subst hm2
      refine v_iret hC dX11_deliver_152 ?_
      have hD : d_deliver (x_u x) (nI f) = (k_f (delU (x_u x) f) f, some (delU (x_u x) f)) := by rw [d_deliver, inN_s hf]; exact if_neg (fun q => q h44)
      rw [hD]
      refine ⟨rfl, Wr.end hX9 (by repeat (first | exact Wr.rf | refine Wr.sl ?_)) hOn9 hW9 hTa9 ?_⟩
      exact hfin
    · refine v_bipush (v := (-4)) hC dX11_deliver_19 (by decide) ?_
      refine v_iret hC dX11_deliver_21 ?_
      have hD : d_deliver (x_u x) (nI f) = (-4, none) := by rw [d_deliver, inN_s hf]; exact if_pos h16
      rw [hD]; exact ⟨rfl, hX, On.rf, hW, Ta.rf⟩
  · refine v_if_eq hC dX11_deliver_5 (tgt := 10) (by decide) (fun hx => absurd hx (by decide)) (fun _ => ?_)
    refine v_iconst (v := (-1)) hC dX11_deliver_8 (by decide) ?_
    refine v_iret hC dX11_deliver_9 ?_
    have hD : d_deliver (x_u x) y = (-1, none) := by rw [d_deliver, inN_o g2]
    rw [hD]; exact ⟨rfl, hX, On.rf, hW, Ta.rf⟩
