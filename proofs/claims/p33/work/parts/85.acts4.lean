set_option maxHeartbeats 4000000 in
set_option maxRecDepth 100000 in
theorem c_X11_give {l : Launch} {G : Gd} {M : Me} {h a : Nat} {x y : Int32} (hW : Wt M) (ht : m_t M h = 12) (ha : a + 10 < 1662) : CQ (Qv G (fun M2 => M2 = (s_l (s_l M 31 (m_r M 276 h 0) (a + 9) x.toInt64) 31 (m_r (s_l M 31 (m_r M 276 h 0) (a + 9) x.toInt64) 276 h 0) (a + 10) y.toInt64))) l G yX11_give cX11_give 4 (none) 0 0 0 0 [.ref h, .int (nI a), .int x, .int y] M := by
  refine c_of ([some (.ref h), some (.int (nI a)), some (.int x), some (.int y)] : Lo) RX11 "give" (by decide) rfl rfl (Nat.le_of_ble_eq_true rfl) rfl (fun p e s m below meth c hC nw => ?_)
  have hwz := wz_31 hW (wf_276 hW ht)
  refine v_aload_n hC dX11_give_0 rfl rfl ?_
  refine gf_11_0 hC ht (wf_276 hW ht) mw_4_120 dX11_give_1 ?_
  refine v_iload_n hC dX11_give_4 rfl rfl ?_
  refine v_bipush (v := 9) hC dX11_give_5 (by decide) ?_
  refine v_iadd hC dX11_give_7 ?_
  rw [show nI a + 9 = nI (a + 9) from nI_add _ 9]
  refine v_iload_n hC dX11_give_8 rfl rfl ?_
  refine v_i2l hC dX11_give_9 ?_
  refine v_last 31 hC (wf_276 hW ht) (by decide) (by decide) (ix_c hwz (by omega)) dX11_give_10 ?_
  refine v_aload_n hC dX11_give_11 rfl rfl ?_
  refine gf_11_0 hC ht (wf_276 hW ht) mw_4_120 dX11_give_12 ?_
  refine v_iload_n hC dX11_give_15 rfl rfl ?_
  refine v_bipush (v := 10) hC dX11_give_16 (by decide) ?_
  refine v_iadd hC dX11_give_18 ?_
  rw [show nI a + 10 = nI (a + 10) from nI_add _ 10]
  refine v_iload_n hC dX11_give_19 rfl rfl ?_
  refine v_i2l hC dX11_give_20 ?_
  refine v_last 31 hC (wf_276 hW ht) (by decide) (by decide) (ix_c hwz (by omega)) dX11_give_21 ?_
  refine v_vret hC dX11_give_22 ?_
  exact rfl

set_option maxHeartbeats 4000000 in
set_option maxRecDepth 100000 in
theorem c_X11_review {l : Launch} {G : Gd} {M : Me} {h : Nat} {x : Xs} {y z : Int32} (hW : Wt M) (hX : AR M h x) (hB : WfB (x_u x)) (hT : WfT (x_u x)) (hK : WfA (x_u x)) : CQ (Qi G (fun r M2 => r = (d_review (x_u x) y z).1 ∧ AR M2 h (acX x (d_review (x_u x) y z).2) ∧ On M M2 ∧ Wt M2 ∧ Ta M M2 h)) l G yX11_review cX11_review 3 ((some .int)) 3 71 0 0 [.ref h, .int y, .int z] M := by
  refine c_of ([some (.ref h), some (.int y), some (.int z)] : Lo) RX11 "review" (by decide) rfl rfl (Nat.le_of_ble_eq_true rfl) rfl (fun p e s m below meth c hC nw => ?_)
  have ht := hX.1
  have hA := hX.2.1.1
  have u1 := hA.1.1
  have u2 := hA.1.2.1
  have u3 := hA.1.2.2.1
  have u4 := hA.1.2.2.2.1
  have hwz := wz_31 hW (wf_276 hW ht)
  refine v_aload_n hC dX11_review_0 rfl rfl ?_
  refine v_iload_n hC dX11_review_1 rfl rfl ?_
  refine cVi1 hC (c_X11_noFile hW ht hA) yv_X11_noFile rfl ht mw_4_230 ⟨Nat.le_of_ble_eq_true rfl, Nat.le_of_ble_eq_true rfl⟩ ⟨Nat.le_of_ble_eq_true rfl, Nat.le_of_ble_eq_true rfl⟩ (Nat.le_of_ble_eq_true rfl) dX11_review_2 (fun r2 M4 hq => ?_)
  obtain ⟨hm, hq2⟩ := hq
  have hm2 := hm.symm
  clear hm
  subst hm2
  obtain ⟨g2, rfl⟩ | ⟨g2, rfl⟩ := hq2
  · refine v_if_ne hC dX11_review_5 (tgt := 16) (by decide) (fun hx => absurd hx (by decide)) (fun _ => ?_)
    refine v_aload_n hC dX11_review_8 rfl rfl ?_
    refine v_iload_n hC dX11_review_9 rfl rfl ?_
    refine cVi1 hC (c_X11_noPerson hW ht hA) yv_X11_noPerson rfl ht mw_4_194 ⟨Nat.le_of_ble_eq_true rfl, Nat.le_of_ble_eq_true rfl⟩ ⟨Nat.le_of_ble_eq_true rfl, Nat.le_of_ble_eq_true rfl⟩ (Nat.le_of_ble_eq_true rfl) dX11_review_10 (fun r10 M12 hq => ?_)
    obtain ⟨hm, hq2⟩ := hq
    have hm2 := hm.symm
    clear hm
    subst hm2
    obtain ⟨g10, rfl⟩ | ⟨g10, rfl⟩ := hq2
    · refine v_if_eq hC dX11_review_13 (tgt := 18) (by decide) (fun _ => ?_) (fun hx => absurd hx (by decide))
      obtain ⟨f, hf, rfl⟩ := g2
      obtain ⟨w, hw, rfl⟩ := g10
      refine v_aload_n hC dX11_review_18 rfl rfl ?_
      refine v_iload_n hC dX11_review_19 rfl rfl ?_
      refine cVi1 hC (c_X11_state hW ht hA hf) yv_X11_state rfl ht mw_5_11 ⟨Nat.le_of_ble_eq_true rfl, Nat.le_of_ble_eq_true rfl⟩ ⟨Nat.le_of_ble_eq_true rfl, Nat.le_of_ble_eq_true rfl⟩ (Nat.le_of_ble_eq_true rfl) dX11_review_20 (fun r20 M22 hq => ?_)
      obtain ⟨rfl, hm⟩ := hq
      have hm2 := hm.symm
      clear hm
      subst hm2
      refine v_iconst (v := 1) hC dX11_review_23 (by decide) ?_
      refine v_icmp_ne hC dX11_review_24 (tgt := 44) (by decide) (fun h24 => ?_) (fun h24 => ?_)
      · refine v_bipush (v := (-4)) hC dX11_review_44 (by decide) ?_
        refine v_iret hC dX11_review_46 ?_
        first
          | (have hD : d_review (x_u x) (nI f) (nI w) = (-4, none) := by rw [d_review, inN_s hf, inN_s hw]; exact if_neg (fun q => h24 (myB_1 q.1))
             rw [hD]; exact ⟨rfl, hX, On.rf, hW, Ta.rf⟩)
          | (have hD : d_review (x_u x) (nI f) (nI w) = (-4, none) := by rw [d_review, inN_s hf, inN_s hw]; exact if_neg (fun q => g29 q.2)
             rw [hD]; exact ⟨rfl, hX, On.rf, hW, Ta.rf⟩)
          | (have hD : d_review (x_u x) (nI f) (nI w) = (-4, none) := by rw [d_review, inN_s hf, inN_s hw]; exact if_neg (fun q => g38 ((myB_i h44 ha ea).mp q.1))
             rw [hD]; exact ⟨rfl, hX, On.rf, hW, Ta.rf⟩)
      · have h44 : q_i (x_u x) 4 f 0 = 1 := Decidable.not_not.mp (fun q => q h24)
        obtain ⟨a, ha, ea⟩ := hK f hf h44
        refine v_aload_n hC dX11_review_27 rfl rfl ?_
        refine v_iload_n hC dX11_review_28 rfl rfl ?_
        refine cVi1 hC (c_X11_isReady hW ht hA hT hf) yv_X11_isReady rfl ht mw_5_151 ⟨Nat.le_of_ble_eq_true rfl, Nat.le_of_ble_eq_true rfl⟩ ⟨Nat.le_of_ble_eq_true rfl, Nat.le_of_ble_eq_true rfl⟩ (Nat.le_of_ble_eq_true rfl) dX11_review_29 (fun r29 M31 hq => ?_)
        obtain ⟨hm, hq2⟩ := hq
        have hm2 := hm.symm
        clear hm
        subst hm2
        obtain ⟨g29, rfl⟩ | ⟨g29, rfl⟩ := hq2
        · refine v_if_eq hC dX11_review_32 (tgt := 44) (by decide) (fun hx => absurd hx (by decide)) (fun _ => ?_)
          refine v_aload_n hC dX11_review_35 rfl rfl ?_
          refine v_iload_n hC dX11_review_36 rfl rfl ?_
          refine v_iload_n hC dX11_review_37 rfl rfl ?_
          refine cVi2 hC (c_X11_mayReview hW ht hA hB hf (fun q => by rw [h44] at q; exact absurd q (by decide)) ea ha (by omega)) yv_X11_mayReview rfl ht mw_5_155 ⟨Nat.le_of_ble_eq_true rfl, Nat.le_of_ble_eq_true rfl⟩ ⟨Nat.le_of_ble_eq_true rfl, Nat.le_of_ble_eq_true rfl⟩ (Nat.le_of_ble_eq_true rfl) dX11_review_38 (fun r38 M40 hq => ?_)
          obtain ⟨hm, hq2⟩ := hq
          have hm2 := hm.symm
          clear hm
          subst hm2
          obtain ⟨g38, rfl⟩ | ⟨g38, rfl⟩ := hq2
          · refine v_if_ne hC dX11_review_41 (tgt := 47) (by decide) (fun _ => ?_) (fun hx => absurd hx (by decide))
            refine v_aload_n hC dX11_review_47 rfl rfl ?_
            refine cVv0 hC (c_X11_record hW hX) yv_X11_record rfl ht mw_4_173 ⟨Nat.le_of_ble_eq_true rfl, Nat.le_of_ble_eq_true rfl⟩ ⟨Nat.le_of_ble_eq_true rfl, Nat.le_of_ble_eq_true rfl⟩ (Nat.le_of_ble_eq_true rfl) dX11_review_48 (fun M50 hq => ?_)
            obtain ⟨hX9, hOn9, hW9, hTa9⟩ := hq
            have ht9 := hX9.1
            have hL9 := hX9.pu
            have hwz9 := wz_31 hW9 (wf_276 hW9 ht9)
            refine v_aload_n hC dX11_review_51 rfl rfl ?_
            refine gf_11_0 hC ht9 (wf_276 hW9 ht9) mw_4_120 dX11_review_52 ?_
            refine v_aload_n hC dX11_review_55 rfl rfl ?_
            refine v_iload_n hC dX11_review_56 rfl rfl ?_
            refine cVi1 hC (c_X11_fileBy ht9) yv_X11_fileBy rfl ht9 mw_4_222 ⟨Nat.le_of_ble_eq_true rfl, Nat.le_of_ble_eq_true rfl⟩ ⟨Nat.le_of_ble_eq_true rfl, Nat.le_of_ble_eq_true rfl⟩ (Nat.le_of_ble_eq_true rfl) dX11_review_57 (fun r57 M59 hq => ?_)
            obtain ⟨rfl, hm⟩ := hq
            have hm2 := hm.symm
            clear hm
            subst hm2
            refine v_iconst (v := 1) hC dX11_review_60 (by decide) ?_
            refine v_iadd hC dX11_review_61 ?_
            rw [show nI (18 + 7 * f) + 1 = nI (18 + 7 * f + 1) from nI_add _ 1]
            refine v_ldc2 hC mw_5_159 dX11_review_62 ?_
            refine v_last 31 hC (wf_276 hW9 ht9) (by decide) (by decide) (ix_c hwz9 (by omega)) dX11_review_65 ?_
            refine v_aload_n hC dX11_review_66 rfl rfl ?_
            refine gf_11_0 hC ht9 (wf_276 hW9 ht9) mw_4_120 dX11_review_67 ?_
            refine v_aload_n hC dX11_review_70 rfl rfl ?_
            refine v_iload_n hC dX11_review_71 rfl rfl ?_
            refine cVi1 hC (c_X11_fileBy ht9) yv_X11_fileBy rfl ht9 mw_4_222 ⟨Nat.le_of_ble_eq_true rfl, Nat.le_of_ble_eq_true rfl⟩ ⟨Nat.le_of_ble_eq_true rfl, Nat.le_of_ble_eq_true rfl⟩ (Nat.le_of_ble_eq_true rfl) dX11_review_72 (fun r72 M74 hq => ?_)
            obtain ⟨rfl, hm⟩ := hq
            have hm2 := hm.symm
            clear hm
            subst hm2
            refine v_iconst (v := 3) hC dX11_review_75 (by decide) ?_
            refine v_iadd hC dX11_review_76 ?_
            rw [show nI (18 + 7 * f) + 3 = nI (18 + 7 * f + 3) from nI_add _ 3]
            refine v_iload_n hC dX11_review_77 rfl rfl ?_
            refine v_i2l hC dX11_review_78 ?_
            refine v_last 31 hC (wf_276 hW9 ht9) (by decide) (by decide) (ix_c hwz9 (by omega)) dX11_review_79 ?_
            refine v_aload_n hC dX11_review_80 rfl rfl ?_
            refine gf_11_0 hC ht9 (wf_276 hW9 ht9) mw_4_120 dX11_review_81 ?_
            refine v_aload_n hC dX11_review_84 rfl rfl ?_
            refine v_aload_n hC dX11_review_85 rfl rfl ?_
            refine v_aload_n hC dX11_review_86 rfl rfl ?_
            refine v_iload_n hC dX11_review_87 rfl rfl ?_
            refine cVi1 hC (c_X11_fileBy ht9) yv_X11_fileBy rfl ht9 mw_4_222 ⟨Nat.le_of_ble_eq_true rfl, Nat.le_of_ble_eq_true rfl⟩ ⟨Nat.le_of_ble_eq_true rfl, Nat.le_of_ble_eq_true rfl⟩ (Nat.le_of_ble_eq_true rfl) dX11_review_88 (fun r88 M90 hq => ?_)
            obtain ⟨rfl, hm⟩ := hq
            have hm2 := hm.symm
            clear hm
            subst hm2
            refine v_iconst (v := 2) hC dX11_review_91 (by decide) ?_
            refine v_iadd hC dX11_review_92 ?_
            rw [show nI (18 + 7 * f) + 2 = nI (18 + 7 * f + 2) from nI_add _ 2]
            have hWk : Wt (s_l (s_l M50 31 (m_r M50 276 h 0) (18 + 7 * f + 1) 2) 31 (m_r (s_l M50 31 (m_r M50 276 h 0) (18 + 7 * f + 1) 2) 276 h 0) (18 + 7 * f + 3) (nI w).toInt64) := hW9
            have htk : m_t (s_l (s_l M50 31 (m_r M50 276 h 0) (18 + 7 * f + 1) 2) 31 (m_r (s_l M50 31 (m_r M50 276 h 0) (18 + 7 * f + 1) 2) 276 h 0) (18 + 7 * f + 3) (nI w).toInt64) h = 12 := ht9
            refine cVi1 hC (c_X11_number hWk htk (by omega)) yv_X11_number rfl ht9 mw_4_165 ⟨Nat.le_of_ble_eq_true rfl, Nat.le_of_ble_eq_true rfl⟩ ⟨Nat.le_of_ble_eq_true rfl, Nat.le_of_ble_eq_true rfl⟩ (Nat.le_of_ble_eq_true rfl) dX11_review_93 (fun r93 M95 hq => ?_)
            obtain ⟨rfl, hm⟩ := hq
            have hm2 := hm.symm
            clear hm
            subst hm2
            rw [show (rwM (s_l (s_l M50 31 (m_r M50 276 h 0) (18 + 7 * f + 1) 2) 31 (m_r (s_l M50 31 (m_r M50 276 h 0) (18 + 7 * f + 1) 2) 276 h 0) (18 + 7 * f + 3) (nI w).toInt64) h (18 + 7 * f + 2)).toInt32 = nI a from by rw [rwM_w, rwM_w, updR_n (by omega), updR_n (by omega), show rwM M50 h (18 + 7 * f + 2) = _ from ((hL9.1.f4 hf).2.1 (fun q => by rw [h44] at q; exact absurd q (by decide))).1, Int32.toInt32_toInt64, ea]]
            refine cVi1 hC (c_X11_personBy ht9) yv_X11_personBy rfl ht9 mw_4_185 ⟨Nat.le_of_ble_eq_true rfl, Nat.le_of_ble_eq_true rfl⟩ ⟨Nat.le_of_ble_eq_true rfl, Nat.le_of_ble_eq_true rfl⟩ (Nat.le_of_ble_eq_true rfl) dX11_review_96 (fun r96 M98 hq => ?_)
            obtain ⟨rfl, hm⟩ := hq
            have hm2 := hm.symm
            clear hm
            subst hm2
            refine v_iconst (v := 2) hC dX11_review_99 (by decide) ?_
            refine v_iadd hC dX11_review_100 ?_
            rw [show nI (74 + 7 * a) + 2 = nI (74 + 7 * a + 2) from nI_add _ 2]
            refine v_iload_n hC dX11_review_101 rfl rfl ?_
            refine v_i2l hC dX11_review_102 ?_
            refine v_last 31 hC (wf_276 hW9 ht9) (by decide) (by decide) (ix_c hwz9 (by omega)) dX11_review_103 ?_
            have hfin : LRw (rwM (s_l (s_l (s_l M50 31 (m_r M50 276 h 0) (18 + 7 * f + 1) 2) 31 (m_r (s_l M50 31 (m_r M50 276 h 0) (18 + 7 * f + 1) 2) 276 h 0) (18 + 7 * f + 3) (nI w).toInt64) 31 (m_r (s_l (s_l M50 31 (m_r M50 276 h 0) (18 + 7 * f + 1) 2) 31 (m_r (s_l M50 31 (m_r M50 276 h 0) (18 + 7 * f + 1) 2) 276 h 0) (18 + 7 * f + 3) (nI w).toInt64) 276 h 0) (74 + 7 * a + 2) (nI w).toInt64) h) (revU (x_u x) f (q_i (x_u x) 5 f 0).toNatClampNeg (nI w)) := by
              have hf8 : f < 8 := by omega
              have ha6 : a < 6 := by omega
              have n3 : ¬ q_i (x_u x) 4 f 0 = 3 := fun q => by rw [h44] at q; exact absurd q (by decide)
              have cc : ∀ k, 4 ≤ k → k ≤ 8 → cpR k f 0 := fun k q1 q2 => Or.inr (Or.inr (Or.inl ⟨q1, q2, hf8, rfl⟩))
              have c3 : cpR 3 a 0 := Or.inr (Or.inl ⟨by decide, by decide, ha6, rfl⟩)
              have en : (q_i (x_u x) 5 f 0).toNatClampNeg = a := by rw [ea, nI_clamp (by omega)]
              rw [rwM_w, rwM_w, rwM_w, show 18 + 7 * f + 1 = pl 4 f 0 by simp [pl, pB_, pA_, pJ_]; omega, show 18 + 7 * f + 3 = pl 6 f 0 by simp [pl, pB_, pA_, pJ_]; omega, show 74 + 7 * a + 2 = pl 3 a 0 by simp [pl, pB_, pA_, pJ_]; omega, en]
              have a1 := hL9.1.w4 (v := 2) f hf8 (Or.inr (Or.inr (fun q => by rw [h44] at q; exact absurd q (by decide))))
              have a2 := a1.w (v := nI w) 6 f 0 (cc 6 (by decide) (by decide)) (by decide) (by decide)
              have a3 := a2.w (v := nI w) 3 a 0 c3 (by decide) (by decide)
              rw [show eb 6 (nI w) = (nI w).toInt64 from eb_o (by decide) (by decide), show eb 3 (nI w) = (nI w).toInt64 from eb_o (by decide) (by decide)] at a3
              refine ⟨a3, ?_⟩
              have b3 := ((hL9.2.off (v := 2) 4 f 0 u2 (Or.inl (cc 4 (by decide) (by decide))) (by decide)).off (v := (nI w).toInt64) 6 f 0 u2 (Or.inl (cc 6 (by decide) (by decide))) (by decide)).off (v := (nI w).toInt64) 3 a 0 u2 (Or.inl c3) (by decide)
              have hPd : PdF (x_u x) (revU (x_u x) f a (nI w)) := ((PdF.at (v := 2) 4 f n3 (fun _ => by decide)).tr (PdF.at (v := nI w) 6 f (by rw [q_ie]; decide) (fun q => absurd q (by decide)))).tr (PdF.i (v := nI w) 3 a 0 (by decide))
              exact b3.same hPd rfl
            have hWe : Wt (s_l (s_l (s_l M50 31 (m_r M50 276 h 0) (18 + 7 * f + 1) 2) 31 (m_r (s_l M50 31 (m_r M50 276 h 0) (18 + 7 * f + 1) 2) 276 h 0) (18 + 7 * f + 3) (nI w).toInt64) 31 (m_r (s_l (s_l M50 31 (m_r M50 276 h 0) (18 + 7 * f + 1) 2) 31 (m_r (s_l M50 31 (m_r M50 276 h 0) (18 + 7 * f + 1) 2) 276 h 0) (18 + 7 * f + 3) (nI w).toInt64) 276 h 0) (74 + 7 * a + 2) (nI w).toInt64) := hW9
            have hte : m_t (s_l (s_l (s_l M50 31 (m_r M50 276 h 0) (18 + 7 * f + 1) 2) 31 (m_r (s_l M50 31 (m_r M50 276 h 0) (18 + 7 * f + 1) 2) 276 h 0) (18 + 7 * f + 3) (nI w).toInt64) 31 (m_r (s_l (s_l M50 31 (m_r M50 276 h 0) (18 + 7 * f + 1) 2) 31 (m_r (s_l M50 31 (m_r M50 276 h 0) (18 + 7 * f + 1) 2) 276 h 0) (18 + 7 * f + 3) (nI w).toInt64) 276 h 0) (74 + 7 * a + 2) (nI w).toInt64) h = 12 := ht9
            refine v_aload_n hC dX11_review_104 rfl rfl ?_
            refine v_iload_n hC dX11_review_105 rfl rfl ?_
            refine v_iconst (v := 1) hC dX11_review_106 (by decide) ?_
            refine cVi2 hC (c_X11_inWay hWe hte hfin.1 hf) yv_X11_inWay rfl ht9 mw_5_160 ⟨Nat.le_of_ble_eq_true rfl, Nat.le_of_ble_eq_true rfl⟩ ⟨Nat.le_of_ble_eq_true rfl, Nat.le_of_ble_eq_true rfl⟩ (Nat.le_of_ble_eq_true rfl) dX11_review_107 (fun r107 M109 hq => ?_)
            obtain ⟨rfl, hm⟩ := hq
            have hm2 := hm.symm
            clear hm
            subst hm2
            refine v_iret hC dX11_review_110 ?_
            have hD : d_review (x_u x) (nI f) (nI w) = (y_f (x_u x) 1 f, some (revU (x_u x) f (q_i (x_u x) 5 f 0).toNatClampNeg (nI w))) := by rw [d_review, inN_s hf, inN_s hw]; exact if_pos ⟨(myB_i h44 ha ea).mpr g38, g29⟩
            rw [hD]
            refine ⟨rfl, Wr.end hX9 (by repeat (first | exact Wr.rf | refine Wr.sl ?_)) hOn9 hW9 hTa9 ?_⟩
            exact hfin
          · refine v_if_ne hC dX11_review_41 (tgt := 47) (by decide) (fun hx => absurd hx (by decide)) (fun _ => ?_)
            refine v_bipush (v := (-4)) hC dX11_review_44 (by decide) ?_
            refine v_iret hC dX11_review_46 ?_
            first
              | (have hD : d_review (x_u x) (nI f) (nI w) = (-4, none) := by rw [d_review, inN_s hf, inN_s hw]; exact if_neg (fun q => h24 (myB_1 q.1))
                 rw [hD]; exact ⟨rfl, hX, On.rf, hW, Ta.rf⟩)
              | (have hD : d_review (x_u x) (nI f) (nI w) = (-4, none) := by rw [d_review, inN_s hf, inN_s hw]; exact if_neg (fun q => g29 q.2)
                 rw [hD]; exact ⟨rfl, hX, On.rf, hW, Ta.rf⟩)
              | (have hD : d_review (x_u x) (nI f) (nI w) = (-4, none) := by rw [d_review, inN_s hf, inN_s hw]; exact if_neg (fun q => g38 ((myB_i h44 ha ea).mp q.1))
                 rw [hD]; exact ⟨rfl, hX, On.rf, hW, Ta.rf⟩)
        · refine v_if_eq hC dX11_review_32 (tgt := 44) (by decide) (fun _ => ?_) (fun hx => absurd hx (by decide))
          refine v_bipush (v := (-4)) hC dX11_review_44 (by decide) ?_
          refine v_iret hC dX11_review_46 ?_
          first
            | (have hD : d_review (x_u x) (nI f) (nI w) = (-4, none) := by rw [d_review, inN_s hf, inN_s hw]; exact if_neg (fun q => h24 (myB_1 q.1))
               rw [hD]; exact ⟨rfl, hX, On.rf, hW, Ta.rf⟩)
            | (have hD : d_review (x_u x) (nI f) (nI w) = (-4, none) := by rw [d_review, inN_s hf, inN_s hw]; exact if_neg (fun q => g29 q.2)
               rw [hD]; exact ⟨rfl, hX, On.rf, hW, Ta.rf⟩)
            | (have hD : d_review (x_u x) (nI f) (nI w) = (-4, none) := by rw [d_review, inN_s hf, inN_s hw]; exact if_neg (fun q => g38 ((myB_i h44 ha ea).mp q.1))
               rw [hD]; exact ⟨rfl, hX, On.rf, hW, Ta.rf⟩)
    · refine v_if_eq hC dX11_review_13 (tgt := 18) (by decide) (fun hx => absurd hx (by decide)) (fun _ => ?_)
      refine v_iconst (v := (-1)) hC dX11_review_16 (by decide) ?_
      refine v_iret hC dX11_review_17 ?_
      first
        | (have hD : d_review (x_u x) y z = (-1, none) := by rw [d_review, inN_o g2]
           rw [hD]; exact ⟨rfl, hX, On.rf, hW, Ta.rf⟩)
        | (have hD : d_review (x_u x) y z = (-1, none) := by
             rw [d_review, inN_o g10]
             split
             · rename_i q; cases q
             · rfl
           rw [hD]; exact ⟨rfl, hX, On.rf, hW, Ta.rf⟩)
  · refine v_if_ne hC dX11_review_5 (tgt := 16) (by decide) (fun _ => ?_) (fun hx => absurd hx (by decide))
    refine v_iconst (v := (-1)) hC dX11_review_16 (by decide) ?_
    refine v_iret hC dX11_review_17 ?_
    first
      | (have hD : d_review (x_u x) y z = (-1, none) := by rw [d_review, inN_o g2]
         rw [hD]; exact ⟨rfl, hX, On.rf, hW, Ta.rf⟩)
      | (have hD : d_review (x_u x) y z = (-1, none) := by
           rw [d_review, inN_o g10]
           split
           · rename_i q; cases q
           · rfl
         rw [hD]; exact ⟨rfl, hX, On.rf, hW, Ta.rf⟩)
