set_option maxHeartbeats 4000000 in
set_option maxRecDepth 100000 in
theorem c_X11_withdraw {l : Launch} {G : Gd} {M : Me} {h : Nat} {x : Xs} {y : Int32} (hW : Wt M) (hX : AR M h x) (hS : WfS (x_u x)) (hT : WfT (x_u x)) : CQ (Qi G (fun r M2 => r = (d_withdraw (x_u x) y).1 ∧ AR M2 h (acX x (d_withdraw (x_u x) y).2) ∧ On M M2 ∧ Wt M2 ∧ Ta M M2 h)) l G yX11_withdraw cX11_withdraw 2 ((some .int)) 3 65 0 0 [.ref h, .int y] M := by
  refine c_of ([some (.ref h), some (.int y)] : Lo) RX11 "withdraw" (by decide) rfl rfl (Nat.le_of_ble_eq_true rfl) rfl (fun p e s m below meth c hC nw => ?_)
  have ht := hX.1
  have hA := hX.2.1.1
  have u1 := hA.1.1
  have u2 := hA.1.2.1
  have u3 := hA.1.2.2.1
  have u4 := hA.1.2.2.2.1
  have hwz := wz_31 hW (wf_276 hW ht)
  refine v_aload_n hC dX11_withdraw_0 rfl rfl ?_
  refine v_iload_n hC dX11_withdraw_1 rfl rfl ?_
  refine cVi1 hC (c_X11_noFile hW ht hA) yv_X11_noFile rfl ht mw_4_230 ⟨Nat.le_of_ble_eq_true rfl, Nat.le_of_ble_eq_true rfl⟩ ⟨Nat.le_of_ble_eq_true rfl, Nat.le_of_ble_eq_true rfl⟩ (Nat.le_of_ble_eq_true rfl) dX11_withdraw_2 (fun r2 M4 hq => ?_)
  obtain ⟨hm, hq2⟩ := hq
  have hm2 := hm.symm
  clear hm
  subst hm2
  obtain ⟨g2, rfl⟩ | ⟨g2, rfl⟩ := hq2
  · refine v_if_eq hC dX11_withdraw_5 (tgt := 10) (by decide) (fun _ => ?_) (fun hx => absurd hx (by decide))
    obtain ⟨f, hf, rfl⟩ := g2
    refine v_aload_n hC dX11_withdraw_10 rfl rfl ?_
    refine v_iload_n hC dX11_withdraw_11 rfl rfl ?_
    refine cVi1 hC (c_X11_isInHand hW ht hA hS hf) yv_X11_isInHand rfl ht mw_5_59 ⟨Nat.le_of_ble_eq_true rfl, Nat.le_of_ble_eq_true rfl⟩ ⟨Nat.le_of_ble_eq_true rfl, Nat.le_of_ble_eq_true rfl⟩ (Nat.le_of_ble_eq_true rfl) dX11_withdraw_12 (fun r12 M14 hq => ?_)
    obtain ⟨hm, hq2⟩ := hq
    have hm2 := hm.symm
    clear hm
    subst hm2
    obtain ⟨g12, rfl⟩ | ⟨g12, rfl⟩ := hq2
    · refine v_if_ne hC dX11_withdraw_15 (tgt := 21) (by decide) (fun _ => ?_) (fun hx => absurd hx (by decide))
      refine v_aload_n hC dX11_withdraw_21 rfl rfl ?_
      refine cVv0 hC (c_X11_record hW hX) yv_X11_record rfl ht mw_4_173 ⟨Nat.le_of_ble_eq_true rfl, Nat.le_of_ble_eq_true rfl⟩ ⟨Nat.le_of_ble_eq_true rfl, Nat.le_of_ble_eq_true rfl⟩ (Nat.le_of_ble_eq_true rfl) dX11_withdraw_22 (fun M24 hq => ?_)
      obtain ⟨hX9, hOn9, hW9, hTa9⟩ := hq
      have ht9 := hX9.1
      have hL9 := hX9.pu
      have hwz9 := wz_31 hW9 (wf_276 hW9 ht9)
      refine v_aload_n hC dX11_withdraw_25 rfl rfl ?_
      refine gf_11_0 hC ht9 (wf_276 hW9 ht9) mw_4_120 dX11_withdraw_26 ?_
      refine v_aload_n hC dX11_withdraw_29 rfl rfl ?_
      refine v_iload_n hC dX11_withdraw_30 rfl rfl ?_
      refine cVi1 hC (c_X11_fileBy ht9) yv_X11_fileBy rfl ht9 mw_4_222 ⟨Nat.le_of_ble_eq_true rfl, Nat.le_of_ble_eq_true rfl⟩ ⟨Nat.le_of_ble_eq_true rfl, Nat.le_of_ble_eq_true rfl⟩ (Nat.le_of_ble_eq_true rfl) dX11_withdraw_31 (fun r31 M33 hq => ?_)
      obtain ⟨rfl, hm⟩ := hq
      have hm2 := hm.symm
      clear hm
      subst hm2
      refine v_iconst (v := 1) hC dX11_withdraw_34 (by decide) ?_
      refine v_iadd hC dX11_withdraw_35 ?_
      rw [show nI (18 + 7 * f) + 1 = nI (18 + 7 * f + 1) from nI_add _ 1]
      refine v_ldc2 hC mw_5_63 dX11_withdraw_36 ?_
      refine v_last 31 hC (wf_276 hW9 ht9) (by decide) (by decide) (ix_c hwz9 (by omega)) dX11_withdraw_39 ?_
      refine v_aload_n hC dX11_withdraw_40 rfl rfl ?_
      refine gf_11_0 hC ht9 (wf_276 hW9 ht9) mw_4_120 dX11_withdraw_41 ?_
      refine v_aload_n hC dX11_withdraw_44 rfl rfl ?_
      refine v_iload_n hC dX11_withdraw_45 rfl rfl ?_
      refine cVi1 hC (c_X11_fileBy ht9) yv_X11_fileBy rfl ht9 mw_4_222 ⟨Nat.le_of_ble_eq_true rfl, Nat.le_of_ble_eq_true rfl⟩ ⟨Nat.le_of_ble_eq_true rfl, Nat.le_of_ble_eq_true rfl⟩ (Nat.le_of_ble_eq_true rfl) dX11_withdraw_46 (fun r46 M48 hq => ?_)
      obtain ⟨rfl, hm⟩ := hq
      have hm2 := hm.symm
      clear hm
      subst hm2
      refine v_iconst (v := 2) hC dX11_withdraw_49 (by decide) ?_
      refine v_iadd hC dX11_withdraw_50 ?_
      rw [show nI (18 + 7 * f) + 2 = nI (18 + 7 * f + 2) from nI_add _ 2]
      refine v_ldc2 hC mw_4_189 dX11_withdraw_51 ?_
      refine v_last 31 hC (wf_276 hW9 ht9) (by decide) (by decide) (ix_c hwz9 (by omega)) dX11_withdraw_54 ?_
      refine v_aload_n hC dX11_withdraw_55 rfl rfl ?_
      refine gf_11_0 hC ht9 (wf_276 hW9 ht9) mw_4_120 dX11_withdraw_56 ?_
      refine v_aload_n hC dX11_withdraw_59 rfl rfl ?_
      refine v_iload_n hC dX11_withdraw_60 rfl rfl ?_
      refine cVi1 hC (c_X11_fileBy ht9) yv_X11_fileBy rfl ht9 mw_4_222 ⟨Nat.le_of_ble_eq_true rfl, Nat.le_of_ble_eq_true rfl⟩ ⟨Nat.le_of_ble_eq_true rfl, Nat.le_of_ble_eq_true rfl⟩ (Nat.le_of_ble_eq_true rfl) dX11_withdraw_61 (fun r61 M63 hq => ?_)
      obtain ⟨rfl, hm⟩ := hq
      have hm2 := hm.symm
      clear hm
      subst hm2
      refine v_iconst (v := 3) hC dX11_withdraw_64 (by decide) ?_
      refine v_iadd hC dX11_withdraw_65 ?_
      rw [show nI (18 + 7 * f) + 3 = nI (18 + 7 * f + 3) from nI_add _ 3]
      refine v_ldc2 hC mw_4_189 dX11_withdraw_66 ?_
      refine v_last 31 hC (wf_276 hW9 ht9) (by decide) (by decide) (ix_c hwz9 (by omega)) dX11_withdraw_69 ?_
      refine v_aload_n hC dX11_withdraw_70 rfl rfl ?_
      refine gf_11_0 hC ht9 (wf_276 hW9 ht9) mw_4_120 dX11_withdraw_71 ?_
      refine v_aload_n hC dX11_withdraw_74 rfl rfl ?_
      refine v_iload_n hC dX11_withdraw_75 rfl rfl ?_
      refine cVi1 hC (c_X11_fileBy ht9) yv_X11_fileBy rfl ht9 mw_4_222 ⟨Nat.le_of_ble_eq_true rfl, Nat.le_of_ble_eq_true rfl⟩ ⟨Nat.le_of_ble_eq_true rfl, Nat.le_of_ble_eq_true rfl⟩ (Nat.le_of_ble_eq_true rfl) dX11_withdraw_76 (fun r76 M78 hq => ?_)
      obtain ⟨rfl, hm⟩ := hq
      have hm2 := hm.symm
      clear hm
      subst hm2
      refine v_iconst (v := 4) hC dX11_withdraw_79 (by decide) ?_
      refine v_iadd hC dX11_withdraw_80 ?_
      rw [show nI (18 + 7 * f) + 4 = nI (18 + 7 * f + 4) from nI_add _ 4]
      refine v_ldc2 hC mw_4_189 dX11_withdraw_81 ?_
      refine v_last 31 hC (wf_276 hW9 ht9) (by decide) (by decide) (ix_c hwz9 (by omega)) dX11_withdraw_84 ?_
      have hfin : LRw (rwM (s_l (s_l (s_l (s_l M24 31 (m_r M24 276 h 0) (18 + 7 * f + 1) 4) 31 (m_r (s_l M24 31 (m_r M24 276 h 0) (18 + 7 * f + 1) 4) 276 h 0) (18 + 7 * f + 2) (-5)) 31 (m_r (s_l (s_l M24 31 (m_r M24 276 h 0) (18 + 7 * f + 1) 4) 31 (m_r (s_l M24 31 (m_r M24 276 h 0) (18 + 7 * f + 1) 4) 276 h 0) (18 + 7 * f + 2) (-5)) 276 h 0) (18 + 7 * f + 3) (-5)) 31 (m_r (s_l (s_l (s_l M24 31 (m_r M24 276 h 0) (18 + 7 * f + 1) 4) 31 (m_r (s_l M24 31 (m_r M24 276 h 0) (18 + 7 * f + 1) 4) 276 h 0) (18 + 7 * f + 2) (-5)) 31 (m_r (s_l (s_l M24 31 (m_r M24 276 h 0) (18 + 7 * f + 1) 4) 31 (m_r (s_l M24 31 (m_r M24 276 h 0) (18 + 7 * f + 1) 4) 276 h 0) (18 + 7 * f + 2) (-5)) 276 h 0) (18 + 7 * f + 3) (-5)) 276 h 0) (18 + 7 * f + 4) (-5)) h) (withU (x_u x) f) := by
        have hf8 : f < 8 := by omega
        have n3 : ¬ q_i (x_u x) 4 f 0 = 3 := fun q => by rcases g12 with z | z | z <;> rw [q] at z <;> exact absurd z (by decide)
        have cc : ∀ k, 4 ≤ k → k ≤ 8 → cpR k f 0 := fun k q1 q2 => Or.inr (Or.inr (Or.inl ⟨q1, q2, hf8, rfl⟩))
        rw [rwM_w, rwM_w, rwM_w, rwM_w, show 18 + 7 * f + 1 = pl 4 f 0 by simp [pl, pB_, pA_, pJ_]; omega, show 18 + 7 * f + 2 = pl 5 f 0 by simp [pl, pB_, pA_, pJ_]; omega, show 18 + 7 * f + 3 = pl 6 f 0 by simp [pl, pB_, pA_, pJ_]; omega, show 18 + 7 * f + 4 = pl 7 f 0 by simp [pl, pB_, pA_, pJ_]; omega]
        have a1 := hL9.1.w4 (v := 4) f hf8 (Or.inl rfl)
        have a2 := a1.off (v := -5) 5 f 0 (Or.inl (cc 5 (by decide) (by decide))) (fun q => q.2 (Or.inl rfl) q_ie)
        have a3 := a2.off (v := -5) 6 f 0 (Or.inl (cc 6 (by decide) (by decide))) (fun q => q.2 (Or.inr rfl) q_ie)
        have a4 := a3.w (v := -5) 7 f 0 (cc 7 (by decide) (by decide)) (by decide) (by decide)
        rw [show eb 7 (-5) = -5 by decide] at a4
        refine ⟨a4, ?_⟩
        have b4 := (((hL9.2.off (v := 4) 4 f 0 u2 (Or.inl (cc 4 (by decide) (by decide))) (by decide)).off (v := -5) 5 f 0 u2 (Or.inl (cc 5 (by decide) (by decide))) (by decide)).off (v := -5) 6 f 0 u2 (Or.inl (cc 6 (by decide) (by decide))) (by decide)).off (v := -5) 7 f 0 u2 (Or.inl (cc 7 (by decide) (by decide))) (by decide)
        have hPd : PdF (x_u x) (withU (x_u x) f) := (PdF.at (v := 4) 4 f n3 (fun _ => by decide)).tr (PdF.at (v := -5) 7 f (by rw [q_ie]; decide) (fun q => absurd q (by decide)))
        exact b4.same hPd rfl
      have hW4 : Wt (s_l (s_l (s_l (s_l M24 31 (m_r M24 276 h 0) (18 + 7 * f + 1) 4) 31 (m_r (s_l M24 31 (m_r M24 276 h 0) (18 + 7 * f + 1) 4) 276 h 0) (18 + 7 * f + 2) (-5)) 31 (m_r (s_l (s_l M24 31 (m_r M24 276 h 0) (18 + 7 * f + 1) 4) 31 (m_r (s_l M24 31 (m_r M24 276 h 0) (18 + 7 * f + 1) 4) 276 h 0) (18 + 7 * f + 2) (-5)) 276 h 0) (18 + 7 * f + 3) (-5)) 31 (m_r (s_l (s_l (s_l M24 31 (m_r M24 276 h 0) (18 + 7 * f + 1) 4) 31 (m_r (s_l M24 31 (m_r M24 276 h 0) (18 + 7 * f + 1) 4) 276 h 0) (18 + 7 * f + 2) (-5)) 31 (m_r (s_l (s_l M24 31 (m_r M24 276 h 0) (18 + 7 * f + 1) 4) 31 (m_r (s_l M24 31 (m_r M24 276 h 0) (18 + 7 * f + 1) 4) 276 h 0) (18 + 7 * f + 2) (-5)) 276 h 0) (18 + 7 * f + 3) (-5)) 276 h 0) (18 + 7 * f + 4) (-5)) := hW9
      have ht4 : m_t (s_l (s_l (s_l (s_l M24 31 (m_r M24 276 h 0) (18 + 7 * f + 1) 4) 31 (m_r (s_l M24 31 (m_r M24 276 h 0) (18 + 7 * f + 1) 4) 276 h 0) (18 + 7 * f + 2) (-5)) 31 (m_r (s_l (s_l M24 31 (m_r M24 276 h 0) (18 + 7 * f + 1) 4) 31 (m_r (s_l M24 31 (m_r M24 276 h 0) (18 + 7 * f + 1) 4) 276 h 0) (18 + 7 * f + 2) (-5)) 276 h 0) (18 + 7 * f + 3) (-5)) 31 (m_r (s_l (s_l (s_l M24 31 (m_r M24 276 h 0) (18 + 7 * f + 1) 4) 31 (m_r (s_l M24 31 (m_r M24 276 h 0) (18 + 7 * f + 1) 4) 276 h 0) (18 + 7 * f + 2) (-5)) 31 (m_r (s_l (s_l M24 31 (m_r M24 276 h 0) (18 + 7 * f + 1) 4) 31 (m_r (s_l M24 31 (m_r M24 276 h 0) (18 + 7 * f + 1) 4) 276 h 0) (18 + 7 * f + 2) (-5)) 276 h 0) (18 + 7 * f + 3) (-5)) 276 h 0) (18 + 7 * f + 4) (-5)) h = 12 := ht9
      refine v_aload_n hC dX11_withdraw_85 rfl rfl ?_
      refine v_iload_n hC dX11_withdraw_86 rfl rfl ?_
      refine cVi1 hC (c_X11_withTarget hW4 ht4 hfin.1 hT hf) yv_X11_withTarget rfl ht9 mw_5_64 ⟨Nat.le_of_ble_eq_true rfl, Nat.le_of_ble_eq_true rfl⟩ ⟨Nat.le_of_ble_eq_true rfl, Nat.le_of_ble_eq_true rfl⟩ (Nat.le_of_ble_eq_true rfl) dX11_withdraw_87 (fun r87 M89 hq => ?_)
      obtain ⟨rfl, hm⟩ := hq
      have hm2 := hm.symm
      clear hm
      subst hm2
      refine v_iret hC dX11_withdraw_90 ?_
      have hD : d_withdraw (x_u x) (nI f) = (nI (n_s (x_u x) f) - y_f (x_u x) 0 f, some (withU (x_u x) f)) := by rw [d_withdraw, inN_s hf]; exact if_neg (fun q => q g12)
      rw [hD]
      refine ⟨rfl, Wr.end hX9 (by repeat (first | exact Wr.rf | refine Wr.sl ?_)) hOn9 hW9 hTa9 ?_⟩
      exact hfin
    · refine v_if_ne hC dX11_withdraw_15 (tgt := 21) (by decide) (fun hx => absurd hx (by decide)) (fun _ => ?_)
      refine v_bipush (v := (-4)) hC dX11_withdraw_18 (by decide) ?_
      refine v_iret hC dX11_withdraw_20 ?_
      have hD : d_withdraw (x_u x) (nI f) = (-4, none) := by rw [d_withdraw, inN_s hf]; exact if_pos g12
      rw [hD]; exact ⟨rfl, hX, On.rf, hW, Ta.rf⟩
  · refine v_if_eq hC dX11_withdraw_5 (tgt := 10) (by decide) (fun hx => absurd hx (by decide)) (fun _ => ?_)
    refine v_iconst (v := (-1)) hC dX11_withdraw_8 (by decide) ?_
    refine v_iret hC dX11_withdraw_9 ?_
    have hD : d_withdraw (x_u x) y = (-1, none) := by rw [d_withdraw, inN_o g2]
    rw [hD]; exact ⟨rfl, hX, On.rf, hW, Ta.rf⟩

set_option maxHeartbeats 4000000 in
set_option maxRecDepth 100000 in
theorem c_X11_swapFiles {l : Launch} {G : Gd} {M : Me} {h : Nat} {x : Xs} {y z : Int32} (hW : Wt M) (hX : AR M h x) (hO : WfO (x_u x)) : CQ (Qi G (fun r M2 => r = (d_swapFiles (x_u x) y z).1 ∧ AR M2 h (acX x (d_swapFiles (x_u x) y z).2) ∧ On M M2 ∧ Wt M2 ∧ Ta M M2 h)) l G yX11_swapFiles cX11_swapFiles 5 ((some .int)) 3 64 0 0 [.ref h, .int y, .int z] M := by
  refine c_of ([some (.ref h), some (.int y), some (.int z), none, none] : Lo) RX11 "swapFiles" (by decide) rfl rfl (Nat.le_of_ble_eq_true rfl) rfl (fun p e s m below meth c hC nw => ?_)
  have ht := hX.1
  have hA := hX.2.1.1
  have u1 := hA.1.1
  have u2 := hA.1.2.1
  have u3 := hA.1.2.2.1
  have u4 := hA.1.2.2.2.1
  have hwz := wz_31 hW (wf_276 hW ht)
  refine v_aload_n hC dX11_swapFiles_0 rfl rfl ?_
  refine v_iload_n hC dX11_swapFiles_1 rfl rfl ?_
  refine cVi1 hC (c_X11_noFile hW ht hA) yv_X11_noFile rfl ht mw_4_230 ⟨Nat.le_of_ble_eq_true rfl, Nat.le_of_ble_eq_true rfl⟩ ⟨Nat.le_of_ble_eq_true rfl, Nat.le_of_ble_eq_true rfl⟩ (Nat.le_of_ble_eq_true rfl) dX11_swapFiles_2 (fun r2 M4 hq => ?_)
  obtain ⟨hm, hq2⟩ := hq
  have hm2 := hm.symm
  clear hm
  subst hm2
  obtain ⟨g2, rfl⟩ | ⟨g2, rfl⟩ := hq2
  · refine v_if_ne hC dX11_swapFiles_5 (tgt := 16) (by decide) (fun hx => absurd hx (by decide)) (fun _ => ?_)
    refine v_aload_n hC dX11_swapFiles_8 rfl rfl ?_
    refine v_iload_n hC dX11_swapFiles_9 rfl rfl ?_
    refine cVi1 hC (c_X11_noFile hW ht hA) yv_X11_noFile rfl ht mw_4_230 ⟨Nat.le_of_ble_eq_true rfl, Nat.le_of_ble_eq_true rfl⟩ ⟨Nat.le_of_ble_eq_true rfl, Nat.le_of_ble_eq_true rfl⟩ (Nat.le_of_ble_eq_true rfl) dX11_swapFiles_10 (fun r10 M12 hq => ?_)
    obtain ⟨hm, hq2⟩ := hq
    have hm2 := hm.symm
    clear hm
    subst hm2
    obtain ⟨g10, rfl⟩ | ⟨g10, rfl⟩ := hq2
    · refine v_if_eq hC dX11_swapFiles_13 (tgt := 18) (by decide) (fun _ => ?_) (fun hx => absurd hx (by decide))
      obtain ⟨f, hf, rfl⟩ := g2
      obtain ⟨g, hg, rfl⟩ := g10
      obtain ⟨p1, p2, p3, p4⟩ := plN_p hO hf
      obtain ⟨r1, r2, r3, r4⟩ := plN_p hO hg
      refine v_iload_n hC dX11_swapFiles_18 rfl rfl ?_
      refine v_iload_n hC dX11_swapFiles_19 rfl rfl ?_
      refine v_icmp_ne hC dX11_swapFiles_20 (tgt := 26) (by decide) (fun h20 => ?_) (fun h20 => ?_)
      · refine v_aload_n hC dX11_swapFiles_26 rfl rfl ?_
        refine cVv0 hC (c_X11_record hW hX) yv_X11_record rfl ht mw_4_173 ⟨Nat.le_of_ble_eq_true rfl, Nat.le_of_ble_eq_true rfl⟩ ⟨Nat.le_of_ble_eq_true rfl, Nat.le_of_ble_eq_true rfl⟩ (Nat.le_of_ble_eq_true rfl) dX11_swapFiles_27 (fun M29 hq => ?_)
        obtain ⟨hX9, hOn9, hW9, hTa9⟩ := hq
        have ht9 := hX9.1
        have hL9 := hX9.pu
        have hwz9 := wz_31 hW9 (wf_276 hW9 ht9)
        refine v_aload_n hC dX11_swapFiles_30 rfl rfl ?_
        refine v_iload_n hC dX11_swapFiles_31 rfl rfl ?_
        refine cVi1 hC (c_X11_placeOf hW9 ht9 hL9.1 hO hf) yv_X11_placeOf rfl ht9 mw_5_47 ⟨Nat.le_of_ble_eq_true rfl, Nat.le_of_ble_eq_true rfl⟩ ⟨Nat.le_of_ble_eq_true rfl, Nat.le_of_ble_eq_true rfl⟩ (Nat.le_of_ble_eq_true rfl) dX11_swapFiles_32 (fun r32 M34 hq => ?_)
        obtain ⟨rfl, hm⟩ := hq
        have hm2 := hm.symm
        clear hm
        subst hm2
        refine v_ist3 hC dX11_swapFiles_35 (by decide) (kk := ?_)
        refine v_aload_n hC dX11_swapFiles_36 rfl rfl ?_
        refine v_iload_n hC dX11_swapFiles_37 rfl rfl ?_
        refine cVi1 hC (c_X11_placeOf hW9 ht9 hL9.1 hO hg) yv_X11_placeOf rfl ht9 mw_5_47 ⟨Nat.le_of_ble_eq_true rfl, Nat.le_of_ble_eq_true rfl⟩ ⟨Nat.le_of_ble_eq_true rfl, Nat.le_of_ble_eq_true rfl⟩ (Nat.le_of_ble_eq_true rfl) dX11_swapFiles_38 (fun r38 M40 hq => ?_)
        obtain ⟨rfl, hm⟩ := hq
        have hm2 := hm.symm
        clear hm
        subst hm2
        refine v_ist4 hC dX11_swapFiles_41 (by decide) (kk := ?_)
        refine v_aload_n hC dX11_swapFiles_43 rfl rfl ?_
        refine gf_11_0 hC ht9 (wf_276 hW9 ht9) mw_4_120 dX11_swapFiles_44 ?_
        refine v_bipush (v := 10) hC dX11_swapFiles_47 (by decide) ?_
        refine v_iload_n hC dX11_swapFiles_49 rfl rfl ?_
        refine v_iadd hC dX11_swapFiles_50 ?_
        rw [show 10 + nI (plN (x_u x) f) = nI (10 + plN (x_u x) f) from nI_add 10 _]
        refine v_iload_n hC dX11_swapFiles_51 rfl rfl ?_
        refine v_i2l hC dX11_swapFiles_52 ?_
        rw [nI_l (by omega)]
        refine v_last 31 hC (wf_276 hW9 ht9) (by decide) (by decide) (ix_c hwz9 (by omega)) dX11_swapFiles_53 ?_
        refine v_aload_n hC dX11_swapFiles_54 rfl rfl ?_
        refine gf_11_0 hC ht9 (wf_276 hW9 ht9) mw_4_120 dX11_swapFiles_55 ?_
        refine v_bipush (v := 10) hC dX11_swapFiles_58 (by decide) ?_
        refine v_iload hC dX11_swapFiles_60 rfl ?_
        refine v_iadd hC dX11_swapFiles_62 ?_
        rw [show 10 + nI (plN (x_u x) g) = nI (10 + plN (x_u x) g) from nI_add 10 _]
        refine v_iload_n hC dX11_swapFiles_63 rfl rfl ?_
        refine v_i2l hC dX11_swapFiles_64 ?_
        rw [nI_l (by omega)]
        refine v_last 31 hC (wf_276 hW9 ht9) (by decide) (by decide) (ix_c hwz9 (by omega)) dX11_swapFiles_65 ?_
        refine v_iload hC dX11_swapFiles_66 rfl ?_
        refine v_iret hC dX11_swapFiles_68 ?_
        have hD : d_swapFiles (x_u x) (nI f) (nI g) = (nI (plN (x_u x) g), some (swpU (x_u x) (plN (x_u x) f) (plN (x_u x) g) f g)) := by rw [d_swapFiles, inN_s hf, inN_s hg]; exact if_neg (fun q => h20 (by rw [q]))
        rw [hD]
        refine ⟨rfl, Wr.end hX9 (by repeat (first | exact Wr.rf | refine Wr.sl ?_)) hOn9 hW9 hTa9 ?_⟩
        have c1 : cpR 17 0 (plN (x_u x) f) := Or.inr (Or.inr (Or.inr (Or.inr (Or.inr (Or.inr ⟨rfl, rfl, by omega⟩)))))
        have c2 : cpR 17 0 (plN (x_u x) g) := Or.inr (Or.inr (Or.inr (Or.inr (Or.inr (Or.inr ⟨rfl, rfl, by omega⟩)))))
        rw [rwM_w, rwM_w, show 10 + plN (x_u x) f = pl 17 0 (plN (x_u x) f) by simp [pl, pB_, pA_, pJ_], show 10 + plN (x_u x) g = pl 17 0 (plN (x_u x) g) by simp [pl, pB_, pA_, pJ_]]
        have e1 : eb 17 (nI g) = lN g := by rw [eb_o (by decide) (by decide), nI_l (by omega)]
        have e2 : eb 17 (nI f) = lN f := by rw [eb_o (by decide) (by decide), nI_l (by omega)]
        have a2 := (hL9.1.w (v := nI g) 17 0 (plN (x_u x) f) c1 (by decide) (by decide)).w (v := nI f) 17 0 (plN (x_u x) g) c2 (by decide) (by decide)
        rw [e1, e2] at a2
        have b2 := (hL9.2.off (v := lN g) 17 0 (plN (x_u x) f) u2 (Or.inl c1) (by decide)).off (v := lN f) 17 0 (plN (x_u x) g) u2 (Or.inl c2) (by decide)
        exact ⟨a2, b2.same ((PdF.i 17 0 _ (by decide)).tr (PdF.i 17 0 _ (by decide))) rfl⟩
      · refine v_bipush (v := (-5)) hC dX11_swapFiles_23 (by decide) ?_
        refine v_iret hC dX11_swapFiles_25 ?_
        have hD : d_swapFiles (x_u x) (nI f) (nI g) = (-5, none) := by
          have e : f = g := (nI_eq (by omega) (by omega)).mp (Decidable.not_not.mp (fun q => q h20))
          rw [d_swapFiles, inN_s hf, inN_s hg]; exact if_pos e
        rw [hD]; exact ⟨rfl, hX, On.rf, hW, Ta.rf⟩
    · refine v_if_eq hC dX11_swapFiles_13 (tgt := 18) (by decide) (fun hx => absurd hx (by decide)) (fun _ => ?_)
      refine v_iconst (v := (-1)) hC dX11_swapFiles_16 (by decide) ?_
      refine v_iret hC dX11_swapFiles_17 ?_
      first
        | (have hD : d_swapFiles (x_u x) y z = (-1, none) := by rw [d_swapFiles, inN_o g2]
           rw [hD]; exact ⟨rfl, hX, On.rf, hW, Ta.rf⟩)
        | (have hD : d_swapFiles (x_u x) y z = (-1, none) := by
             rw [d_swapFiles, inN_o g10]
             split
             · rename_i q; cases q
             · rfl
           rw [hD]; exact ⟨rfl, hX, On.rf, hW, Ta.rf⟩)
  · refine v_if_ne hC dX11_swapFiles_5 (tgt := 16) (by decide) (fun _ => ?_) (fun hx => absurd hx (by decide))
    refine v_iconst (v := (-1)) hC dX11_swapFiles_16 (by decide) ?_
    refine v_iret hC dX11_swapFiles_17 ?_
    first
      | (have hD : d_swapFiles (x_u x) y z = (-1, none) := by rw [d_swapFiles, inN_o g2]
         rw [hD]; exact ⟨rfl, hX, On.rf, hW, Ta.rf⟩)
      | (have hD : d_swapFiles (x_u x) y z = (-1, none) := by
           rw [d_swapFiles, inN_o g10]
           split
           · rename_i q; cases q
           · rfl
         rw [hD]; exact ⟨rfl, hX, On.rf, hW, Ta.rf⟩)
