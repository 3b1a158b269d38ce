set_option maxHeartbeats 4000000 in
set_option maxRecDepth 100000 in
theorem c_X11_newFile {l : Launch} {G : Gd} {M : Me} {h : Nat} {x : Xs}  (hW : Wt M) (hX : AR M h x) : CQ (Qi G (fun r M2 => r = (d_newFile (x_u x)).1 ∧ AR M2 h (acX x (d_newFile (x_u x)).2) ∧ On M M2 ∧ Wt M2 ∧ Ta M M2 h)) l G yX11_newFile cX11_newFile 2 ((some .int)) 1 21 0 0 [.ref h] M := by
  refine c_of ([some (.ref h), none] : Lo) RX11 "newFile" (by decide) rfl rfl (Nat.le_of_ble_eq_true rfl) rfl (fun p e s m below meth c hC nw => ?_)
  have ht := hX.1
  have hA := hX.2.1.1
  have u1 := hA.1.1
  have u2 := hA.1.2.1
  have u3 := hA.1.2.2.1
  have u4 := hA.1.2.2.2.1
  have hwz := wz_31 hW (wf_276 hW ht)
  refine v_aload_n hC dX11_newFile_0 rfl rfl ?_
  refine gf_11_0 hC ht (wf_276 hW ht) mw_4_120 dX11_newFile_1 ?_
  refine v_iconst (v := 0) hC dX11_newFile_4 (by decide) ?_
  refine v_lald 31 hC (wf_276 hW ht) (by decide) (by decide) (ix_q (j := 0) hwz rfl) dX11_newFile_5 ?_
  rw [show m_l M 31 (m_r M 276 h 0) 0 = _ from hA.c0]
  refine v_ldc2 hC mw_4_221 dX11_newFile_6 ?_
  refine v_lcmp hC dX11_newFile_9 ?_
  refine v_if_ne hC dX11_newFile_10 (tgt := 16) (by decide) (fun h10 => ?_) (fun h10 => ?_)
  · have hk : n_f (x_u x) < 8 := by
      rcases Nat.lt_or_ge (n_f (x_u x)) 8 with q | q
      · exact q
      · exact absurd ((lg_cmp_eq _ _).mpr (show lN (n_f (x_u x)) = lN 8 from by rw [show n_f (x_u x) = 8 by omega])) h10
    refine v_aload_n hC dX11_newFile_16 rfl rfl ?_
    refine cVv0 hC (c_X11_record hW hX) yv_X11_record rfl ht mw_4_173 ⟨Nat.le_of_ble_eq_true rfl, Nat.le_of_ble_eq_true rfl⟩ ⟨Nat.le_of_ble_eq_true rfl, Nat.le_of_ble_eq_true rfl⟩ (Nat.le_of_ble_eq_true rfl) dX11_newFile_17 (fun M19 hq => ?_)
    obtain ⟨hX9, hOn9, hW9, hTa9⟩ := hq
    have ht9 := hX9.1
    have hL9 := hX9.pu
    have hwz9 := wz_31 hW9 (wf_276 hW9 ht9)
    refine v_aload_n hC dX11_newFile_20 rfl rfl ?_
    refine v_iconst (v := 0) hC dX11_newFile_21 (by decide) ?_
    refine cVi1 hC (c_X11_number hW9 ht9 (q := 0) (by decide)) yv_X11_number rfl ht9 mw_4_165 ⟨Nat.le_of_ble_eq_true rfl, Nat.le_of_ble_eq_true rfl⟩ ⟨Nat.le_of_ble_eq_true rfl, Nat.le_of_ble_eq_true rfl⟩ (Nat.le_of_ble_eq_true rfl) dX11_newFile_22 (fun r22 M24 hq => ?_)
    obtain ⟨rfl, hm⟩ := hq
    have hm2 := hm.symm
    clear hm
    subst hm2
    rw [show rwM M19 h 0 = _ from hL9.1.c0, lN_i]
    refine v_ist1 hC dX11_newFile_25 (by decide) (kk := ?_)
    refine v_aload_n hC dX11_newFile_26 rfl rfl ?_
    refine gf_11_0 hC ht9 (wf_276 hW9 ht9) mw_4_120 dX11_newFile_27 ?_
    refine v_aload_n hC dX11_newFile_30 rfl rfl ?_
    refine v_iload_n hC dX11_newFile_31 rfl rfl ?_
    refine cVi1 hC (c_X11_fileBy ht9) yv_X11_fileBy rfl ht9 mw_4_222 ⟨Nat.le_of_ble_eq_true rfl, Nat.le_of_ble_eq_true rfl⟩ ⟨Nat.le_of_ble_eq_true rfl, Nat.le_of_ble_eq_true rfl⟩ (Nat.le_of_ble_eq_true rfl) dX11_newFile_32 (fun r32 M34 hq => ?_)
    obtain ⟨rfl, hm⟩ := hq
    have hm2 := hm.symm
    clear hm
    subst hm2
    refine v_iconst (v := 0) hC dX11_newFile_35 (by decide) ?_
    refine v_iadd hC dX11_newFile_36 ?_
    rw [show nI (18 + 7 * n_f (x_u x)) + 0 = nI (18 + 7 * n_f (x_u x)) from nI_add _ 0]
    refine v_lconst (v := 0) hC dX11_newFile_37 (by decide) ?_
    refine v_last 31 hC (wf_276 hW9 ht9) (by decide) (by decide) (ix_c hwz9 (by omega)) dX11_newFile_38 ?_
    refine v_aload_n hC dX11_newFile_39 rfl rfl ?_
    refine gf_11_0 hC ht9 (wf_276 hW9 ht9) mw_4_120 dX11_newFile_40 ?_
    refine v_aload_n hC dX11_newFile_43 rfl rfl ?_
    refine v_iload_n hC dX11_newFile_44 rfl rfl ?_
    refine cVi1 hC (c_X11_fileBy ht9) yv_X11_fileBy rfl ht9 mw_4_222 ⟨Nat.le_of_ble_eq_true rfl, Nat.le_of_ble_eq_true rfl⟩ ⟨Nat.le_of_ble_eq_true rfl, Nat.le_of_ble_eq_true rfl⟩ (Nat.le_of_ble_eq_true rfl) dX11_newFile_45 (fun r45 M47 hq => ?_)
    obtain ⟨rfl, hm⟩ := hq
    have hm2 := hm.symm
    clear hm
    subst hm2
    refine v_iconst (v := 1) hC dX11_newFile_48 (by decide) ?_
    refine v_iadd hC dX11_newFile_49 ?_
    rw [show nI (18 + 7 * n_f (x_u x)) + 1 = nI (18 + 7 * n_f (x_u x) + 1) from nI_add _ 1]
    refine v_lconst (v := 0) hC dX11_newFile_50 (by decide) ?_
    refine v_last 31 hC (wf_276 hW9 ht9) (by decide) (by decide) (ix_c hwz9 (by omega)) dX11_newFile_51 ?_
    refine v_aload_n hC dX11_newFile_52 rfl rfl ?_
    refine gf_11_0 hC ht9 (wf_276 hW9 ht9) mw_4_120 dX11_newFile_53 ?_
    refine v_aload_n hC dX11_newFile_56 rfl rfl ?_
    refine v_iload_n hC dX11_newFile_57 rfl rfl ?_
    refine cVi1 hC (c_X11_fileBy ht9) yv_X11_fileBy rfl ht9 mw_4_222 ⟨Nat.le_of_ble_eq_true rfl, Nat.le_of_ble_eq_true rfl⟩ ⟨Nat.le_of_ble_eq_true rfl, Nat.le_of_ble_eq_true rfl⟩ (Nat.le_of_ble_eq_true rfl) dX11_newFile_58 (fun r58 M60 hq => ?_)
    obtain ⟨rfl, hm⟩ := hq
    have hm2 := hm.symm
    clear hm
    subst hm2
    refine v_iconst (v := 2) hC dX11_newFile_61 (by decide) ?_
    refine v_iadd hC dX11_newFile_62 ?_
    rw [show nI (18 + 7 * n_f (x_u x)) + 2 = nI (18 + 7 * n_f (x_u x) + 2) from nI_add _ 2]
    refine v_ldc2 hC mw_4_189 dX11_newFile_63 ?_
    refine v_last 31 hC (wf_276 hW9 ht9) (by decide) (by decide) (ix_c hwz9 (by omega)) dX11_newFile_66 ?_
    refine v_aload_n hC dX11_newFile_67 rfl rfl ?_
    refine gf_11_0 hC ht9 (wf_276 hW9 ht9) mw_4_120 dX11_newFile_68 ?_
    refine v_aload_n hC dX11_newFile_71 rfl rfl ?_
    refine v_iload_n hC dX11_newFile_72 rfl rfl ?_
    refine cVi1 hC (c_X11_fileBy ht9) yv_X11_fileBy rfl ht9 mw_4_222 ⟨Nat.le_of_ble_eq_true rfl, Nat.le_of_ble_eq_true rfl⟩ ⟨Nat.le_of_ble_eq_true rfl, Nat.le_of_ble_eq_true rfl⟩ (Nat.le_of_ble_eq_true rfl) dX11_newFile_73 (fun r73 M75 hq => ?_)
    obtain ⟨rfl, hm⟩ := hq
    have hm2 := hm.symm
    clear hm
    subst hm2
    refine v_iconst (v := 3) hC dX11_newFile_76 (by decide) ?_
    refine v_iadd hC dX11_newFile_77 ?_
    rw [show nI (18 + 7 * n_f (x_u x)) + 3 = nI (18 + 7 * n_f (x_u x) + 3) from nI_add _ 3]
    refine v_ldc2 hC mw_4_189 dX11_newFile_78 ?_
    refine v_last 31 hC (wf_276 hW9 ht9) (by decide) (by decide) (ix_c hwz9 (by omega)) dX11_newFile_81 ?_
    refine v_aload_n hC dX11_newFile_82 rfl rfl ?_
    refine gf_11_0 hC ht9 (wf_276 hW9 ht9) mw_4_120 dX11_newFile_83 ?_
    refine v_aload_n hC dX11_newFile_86 rfl rfl ?_
    refine v_iload_n hC dX11_newFile_87 rfl rfl ?_
    refine cVi1 hC (c_X11_fileBy ht9) yv_X11_fileBy rfl ht9 mw_4_222 ⟨Nat.le_of_ble_eq_true rfl, Nat.le_of_ble_eq_true rfl⟩ ⟨Nat.le_of_ble_eq_true rfl, Nat.le_of_ble_eq_true rfl⟩ (Nat.le_of_ble_eq_true rfl) dX11_newFile_88 (fun r88 M90 hq => ?_)
    obtain ⟨rfl, hm⟩ := hq
    have hm2 := hm.symm
    clear hm
    subst hm2
    refine v_iconst (v := 4) hC dX11_newFile_91 (by decide) ?_
    refine v_iadd hC dX11_newFile_92 ?_
    rw [show nI (18 + 7 * n_f (x_u x)) + 4 = nI (18 + 7 * n_f (x_u x) + 4) from nI_add _ 4]
    refine v_ldc2 hC mw_4_189 dX11_newFile_93 ?_
    refine v_last 31 hC (wf_276 hW9 ht9) (by decide) (by decide) (ix_c hwz9 (by omega)) dX11_newFile_96 ?_
    refine v_aload_n hC dX11_newFile_97 rfl rfl ?_
    refine gf_11_0 hC ht9 (wf_276 hW9 ht9) mw_4_120 dX11_newFile_98 ?_
    refine v_aload_n hC dX11_newFile_101 rfl rfl ?_
    refine v_iload_n hC dX11_newFile_102 rfl rfl ?_
    refine cVi1 hC (c_X11_fileBy ht9) yv_X11_fileBy rfl ht9 mw_4_222 ⟨Nat.le_of_ble_eq_true rfl, Nat.le_of_ble_eq_true rfl⟩ ⟨Nat.le_of_ble_eq_true rfl, Nat.le_of_ble_eq_true rfl⟩ (Nat.le_of_ble_eq_true rfl) dX11_newFile_103 (fun r103 M105 hq => ?_)
    obtain ⟨rfl, hm⟩ := hq
    have hm2 := hm.symm
    clear hm
    subst hm2
    refine v_iconst (v := 5) hC dX11_newFile_106 (by decide) ?_
    refine v_iadd hC dX11_newFile_107 ?_
    rw [show nI (18 + 7 * n_f (x_u x)) + 5 = nI (18 + 7 * n_f (x_u x) + 5) from nI_add _ 5]
    refine v_lconst (v := 0) hC dX11_newFile_108 (by decide) ?_
    refine v_last 31 hC (wf_276 hW9 ht9) (by decide) (by decide) (ix_c hwz9 (by omega)) dX11_newFile_109 ?_
    refine v_aload_n hC dX11_newFile_110 rfl rfl ?_
    refine gf_11_0 hC ht9 (wf_276 hW9 ht9) mw_4_120 dX11_newFile_111 ?_
    refine v_bipush (v := 10) hC dX11_newFile_114 (by decide) ?_
    refine v_iload_n hC dX11_newFile_116 rfl rfl ?_
    refine v_iadd hC dX11_newFile_117 ?_
    rw [show 10 + nI (n_f (x_u x)) = nI (10 + n_f (x_u x)) from nI_add 10 _]
    refine v_iload_n hC dX11_newFile_118 rfl rfl ?_
    refine v_i2l hC dX11_newFile_119 ?_
    rw [nI_l (by omega)]
    refine v_last 31 hC (wf_276 hW9 ht9) (by decide) (by decide) (ix_c hwz9 (by omega)) dX11_newFile_120 ?_
    refine v_aload_n hC dX11_newFile_121 rfl rfl ?_
    refine gf_11_0 hC ht9 (wf_276 hW9 ht9) mw_4_120 dX11_newFile_122 ?_
    refine v_iconst (v := 0) hC dX11_newFile_125 (by decide) ?_
    refine v_iload_n hC dX11_newFile_126 rfl rfl ?_
    refine v_iconst (v := 1) hC dX11_newFile_127 (by decide) ?_
    refine v_iadd hC dX11_newFile_128 ?_
    rw [show nI (n_f (x_u x)) + 1 = nI (n_f (x_u x) + 1) from (nI_succ _).symm]
    refine v_i2l hC dX11_newFile_129 ?_
    rw [nI_l (by omega)]
    refine v_last 31 hC (wf_276 hW9 ht9) (by decide) (by decide) (ix_q (j := 0) hwz9 rfl) dX11_newFile_130 ?_
    refine v_iload_n hC dX11_newFile_131 rfl rfl ?_
    refine v_iret hC dX11_newFile_132 ?_
    have hD : d_newFile (x_u x) = (nI (n_f (x_u x)), some (fileU (x_u x))) := by rw [d_newFile, if_pos hk]
    rw [hD]
    refine ⟨rfl, Wr.end hX9 (by repeat (first | exact Wr.rf | refine Wr.sl ?_)) hOn9 hW9 hTa9 ?_⟩
    have cc : ∀ k, 4 ≤ k → k ≤ 8 → cpR k (n_f (x_u x)) 0 := fun k q1 q2 => Or.inr (Or.inr (Or.inl ⟨q1, q2, hk, rfl⟩))
    have x19 : cpX 19 (n_f (x_u x)) 0 := cX_19 hk
    have c17 : cpR 17 0 (n_f (x_u x)) := Or.inr (Or.inr (Or.inr (Or.inr (Or.inr (Or.inr ⟨rfl, rfl, hk⟩)))))
    have x17 : cpX 17 0 (n_f (x_u x)) := Or.inl c17
    rw [rwM_w, rwM_w, rwM_w, rwM_w, rwM_w, rwM_w, rwM_w, rwM_w, show 18 + 7 * n_f (x_u x) + 1 = pl 4 (n_f (x_u x)) 0 by simp [pl, pB_, pA_, pJ_]; omega, show 18 + 7 * n_f (x_u x) + 2 = pl 5 (n_f (x_u x)) 0 by simp [pl, pB_, pA_, pJ_]; omega, show 18 + 7 * n_f (x_u x) + 3 = pl 6 (n_f (x_u x)) 0 by simp [pl, pB_, pA_, pJ_]; omega, show 18 + 7 * n_f (x_u x) + 4 = pl 7 (n_f (x_u x)) 0 by simp [pl, pB_, pA_, pJ_]; omega, show 18 + 7 * n_f (x_u x) + 5 = pl 8 (n_f (x_u x)) 0 by simp [pl, pB_, pA_, pJ_]; omega, show 18 + 7 * n_f (x_u x) = pl 19 (n_f (x_u x)) 0 by simp [pl, pB_, pA_, pJ_], show 10 + n_f (x_u x) = pl 17 0 (n_f (x_u x)) by simp [pl, pB_, pA_, pJ_]]
    have a0 := hL9.1.off (v := 0) 19 (n_f (x_u x)) 0 x19 (fun q => by
      have q3 := q.1
      unfold spN at q3
      omega)
    have a1 := a0.w4 (v := 0) (n_f (x_u x)) hk (Or.inr (Or.inl (Nat.le_refl _)))
    have a2 := a1.w (v := -5) 5 (n_f (x_u x)) 0 (cc 5 (by decide) (by decide)) (by decide) (by decide)
    have a3 := a2.w (v := -5) 6 (n_f (x_u x)) 0 (cc 6 (by decide) (by decide)) (by decide) (by decide)
    have a4 := a3.w (v := -5) 7 (n_f (x_u x)) 0 (cc 7 (by decide) (by decide)) (by decide) (by decide)
    have a5 := a4.w (v := 0) 8 (n_f (x_u x)) 0 (cc 8 (by decide) (by decide)) (by decide) (by decide)
    have a6 := (LA.pokeN (n := 0) (f := n_f (x_u x)) a5 (Nat.le_refl _)).w (v := nI (n_f (x_u x))) 17 0 (n_f (x_u x)) c17 (by decide) (by decide)
    have z1 : eb 5 (-5) = -5 := by decide
    have z2 : eb 6 (-5) = -5 := by decide
    have z3 : eb 7 (-5) = -5 := by decide
    have z4 : eb 8 0 = 0 := by decide
    have z5 : (0 : Int32).toInt64 = 0 := by decide
    have z6 : eb 17 (nI (n_f (x_u x))) = lN (n_f (x_u x)) := by rw [eb_o (by decide) (by decide), nI_l (by omega)]
    rw [z1, z2, z3, z4, z5, z6] at a6
    have gr := a6.growF hk (by show n_s (u_n _ 4 (n_f (x_u x)) 0) (n_f (x_u x)) = 0; exact q_ne) (fun k q1 q2 => by
      rcases (show k = 4 ∨ k = 5 ∨ k = 6 ∨ k = 7 ∨ k = 8 by omega) with rfl | rfl | rfl | rfl | rfl
      · show updR _ _ _ (pl 4 (n_f (x_u x)) 0) = eb 4 (q_i (u_i (u_i (u_i (u_i (u_i (x_u x) 4 (n_f (x_u x)) 0 0) 5 (n_f (x_u x)) 0 (-5)) 6 (n_f (x_u x)) 0 (-5)) 7 (n_f (x_u x)) 0 (-5)) 8 (n_f (x_u x)) 0 0) 4 (n_f (x_u x)) 0)
        rw [updR_n (pl_ne x17 (Or.inl (cc 4 (by decide) (by decide))) (by omega)), updR_n (pl_ne (Or.inl (cc 8 (by decide) (by decide))) (Or.inl (cc 4 (by decide) (by decide))) (by omega)), updR_n (pl_ne (Or.inl (cc 7 (by decide) (by decide))) (Or.inl (cc 4 (by decide) (by decide))) (by omega)), updR_n (pl_ne (Or.inl (cc 6 (by decide) (by decide))) (Or.inl (cc 4 (by decide) (by decide))) (by omega)), updR_n (pl_ne (Or.inl (cc 5 (by decide) (by decide))) (Or.inl (cc 4 (by decide) (by decide))) (by omega)), updR_e, q_ik (by decide), q_ik (by decide), q_ik (by decide), q_ik (by decide), q_ie]; decide
      · show updR _ _ _ (pl 5 (n_f (x_u x)) 0) = eb 5 (q_i (u_i (u_i (u_i (u_i (u_i (x_u x) 4 (n_f (x_u x)) 0 0) 5 (n_f (x_u x)) 0 (-5)) 6 (n_f (x_u x)) 0 (-5)) 7 (n_f (x_u x)) 0 (-5)) 8 (n_f (x_u x)) 0 0) 5 (n_f (x_u x)) 0)
        rw [updR_n (pl_ne x17 (Or.inl (cc 5 (by decide) (by decide))) (by omega)), updR_n (pl_ne (Or.inl (cc 8 (by decide) (by decide))) (Or.inl (cc 5 (by decide) (by decide))) (by omega)), updR_n (pl_ne (Or.inl (cc 7 (by decide) (by decide))) (Or.inl (cc 5 (by decide) (by decide))) (by omega)), updR_n (pl_ne (Or.inl (cc 6 (by decide) (by decide))) (Or.inl (cc 5 (by decide) (by decide))) (by omega)), updR_e, q_ik (by decide), q_ik (by decide), q_ik (by decide), q_ie, z1]
      · show updR _ _ _ (pl 6 (n_f (x_u x)) 0) = eb 6 (q_i (u_i (u_i (u_i (u_i (u_i (x_u x) 4 (n_f (x_u x)) 0 0) 5 (n_f (x_u x)) 0 (-5)) 6 (n_f (x_u x)) 0 (-5)) 7 (n_f (x_u x)) 0 (-5)) 8 (n_f (x_u x)) 0 0) 6 (n_f (x_u x)) 0)
        rw [updR_n (pl_ne x17 (Or.inl (cc 6 (by decide) (by decide))) (by omega)), updR_n (pl_ne (Or.inl (cc 8 (by decide) (by decide))) (Or.inl (cc 6 (by decide) (by decide))) (by omega)), updR_n (pl_ne (Or.inl (cc 7 (by decide) (by decide))) (Or.inl (cc 6 (by decide) (by decide))) (by omega)), updR_e, q_ik (by decide), q_ik (by decide), q_ie, z2]
      · show updR _ _ _ (pl 7 (n_f (x_u x)) 0) = eb 7 (q_i (u_i (u_i (u_i (u_i (u_i (x_u x) 4 (n_f (x_u x)) 0 0) 5 (n_f (x_u x)) 0 (-5)) 6 (n_f (x_u x)) 0 (-5)) 7 (n_f (x_u x)) 0 (-5)) 8 (n_f (x_u x)) 0 0) 7 (n_f (x_u x)) 0)
        rw [updR_n (pl_ne x17 (Or.inl (cc 7 (by decide) (by decide))) (by omega)), updR_n (pl_ne (Or.inl (cc 8 (by decide) (by decide))) (Or.inl (cc 7 (by decide) (by decide))) (by omega)), updR_e, q_ik (by decide), q_ie, z3]
      · show updR _ _ _ (pl 8 (n_f (x_u x)) 0) = eb 8 (q_i (u_i (u_i (u_i (u_i (u_i (x_u x) 4 (n_f (x_u x)) 0 0) 5 (n_f (x_u x)) 0 (-5)) 6 (n_f (x_u x)) 0 (-5)) 7 (n_f (x_u x)) 0 (-5)) 8 (n_f (x_u x)) 0 0) 8 (n_f (x_u x)) 0)
        rw [updR_n (pl_ne x17 (Or.inl (cc 8 (by decide) (by decide))) (by omega)), updR_e, q_ie, z4]) (by
      show updR _ _ _ (pl 17 0 (n_f (x_u x))) = eb 17 (q_i (u_i _ 17 0 (n_f (x_u x)) (nI (n_f (x_u x)))) 17 0 (n_f (x_u x)))
      rw [updR_e, q_ie, z6]) (by
      show updR _ _ _ (pl 19 (n_f (x_u x)) 0) = 0
      rw [updR_n (pl_ne x17 x19 (by omega)), updR_n (pl_ne (Or.inl (cc 8 (by decide) (by decide))) x19 (by omega)), updR_n (pl_ne (Or.inl (cc 7 (by decide) (by decide))) x19 (by omega)), updR_n (pl_ne (Or.inl (cc 6 (by decide) (by decide))) x19 (by omega)), updR_n (pl_ne (Or.inl (cc 5 (by decide) (by decide))) x19 (by omega)), updR_n (pl_ne (Or.inl (cc 4 (by decide) (by decide))) x19 (by omega)), updR_e])
    refine ⟨gr, ?_⟩
    have b6 := ((((((((hL9.2.off (v := 0) 19 (n_f (x_u x)) 0 u2 x19 (by decide)).off (v := 0) 4 (n_f (x_u x)) 0 u2 (Or.inl (cc 4 (by decide) (by decide))) (by decide)).off (v := -5) 5 (n_f (x_u x)) 0 u2 (Or.inl (cc 5 (by decide) (by decide))) (by decide)).off (v := -5) 6 (n_f (x_u x)) 0 u2 (Or.inl (cc 6 (by decide) (by decide))) (by decide)).off (v := -5) 7 (n_f (x_u x)) 0 u2 (Or.inl (cc 7 (by decide) (by decide))) (by decide)).off (v := 0) 8 (n_f (x_u x)) 0 u2 (Or.inl (cc 8 (by decide) (by decide))) (by decide)).off (v := lN (n_f (x_u x))) 17 0 (n_f (x_u x)) u2 x17 (by decide)).off (v := lN (n_f (x_u x) + 1)) 18 0 0 u2 (cX_18 (by decide)) (by decide))
    refine b6.file (fun f hf => ?_) rfl rfl ?_
    · have e : f ≠ n_f (x_u x) := by omega
      have ei : ∀ k, k ≠ 17 → q_i (fileU (x_u x)) k f 0 = q_i (x_u x) k f 0 := fun k hk2 => by
        show q_i (u_i (u_i (u_i (u_i (u_i (u_i (x_u x) 4 (n_f (x_u x)) 0 0) 5 (n_f (x_u x)) 0 (-5)) 6 (n_f (x_u x)) 0 (-5)) 7 (n_f (x_u x)) 0 (-5)) 8 (n_f (x_u x)) 0 0) 17 0 (n_f (x_u x)) (nI (n_f (x_u x)))) k f 0 = _
        rw [q_ik hk2, q_ia e, q_ia e, q_ia e, q_ia e, q_ia e]
      refine ⟨ei 4 (by decide), ei 5 (by decide), ei 6 (by decide), ei 7 (by decide), ?_⟩
      show sm _ (n_s (u_n _ 4 (n_f (x_u x)) 0) f) = sm _ _
      rw [show n_s (u_n (u_i (u_i (u_i (u_i (u_i (x_u x) 4 (n_f (x_u x)) 0 0) 5 (n_f (x_u x)) 0 (-5)) 6 (n_f (x_u x)) 0 (-5)) 7 (n_f (x_u x)) 0 (-5)) 8 (n_f (x_u x)) 0 0) 4 (n_f (x_u x)) 0) f = n_s (x_u x) f from q_na e]
      rfl
    · show ¬ q_i (u_i (u_i (u_i (u_i (u_i (u_i (x_u x) 4 (n_f (x_u x)) 0 0) 5 (n_f (x_u x)) 0 (-5)) 6 (n_f (x_u x)) 0 (-5)) 7 (n_f (x_u x)) 0 (-5)) 8 (n_f (x_u x)) 0 0) 17 0 (n_f (x_u x)) (nI (n_f (x_u x)))) 4 (n_f (x_u x)) 0 = 3
      rw [q_ik (by decide), q_ik (by decide), q_ik (by decide), q_ik (by decide), q_ik (by decide), q_ie]; decide
  · have hk : n_f (x_u x) = 8 := (lN_eq (b := 8) (by omega) (by omega)).mp ((lg_cmp_eq _ _).mp (Decidable.not_not.mp (fun q => q h10)))
    refine v_bipush (v := (-3)) hC dX11_newFile_13 (by decide) ?_
    refine v_iret hC dX11_newFile_15 ?_
    have hD : d_newFile (x_u x) = (-3, none) := by rw [d_newFile, if_neg (by omega)]
    rw [hD]; exact ⟨rfl, hX, On.rf, hW, Ta.rf⟩
