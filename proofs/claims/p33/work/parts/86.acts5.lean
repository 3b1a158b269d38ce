theorem i64_s {k : Nat} (hk : k < 2 ^ 30) : (nI k).toInt64 + 1 = (nI k + 1).toInt64 := by
  rw [← nI_succ, nI_l (by omega), nI_l (by omega)]
  exact (Int64.ofNat_add k 1).symm
set_option maxHeartbeats 4000000 in
set_option maxRecDepth 100000 in
theorem c_X11_reject {l : Launch} {G : Gd} {M : Me} {h : Nat} {x : Xs} {y z : Int32} (hW : Wt M) (hX : AR M h x) (hJ : ∀ f, f < n_f (x_u x) → ∃ k, k < 2 ^ 30 ∧ q_i (x_u x) 8 f 0 = nI k) : CQ (Qi G (fun r M2 => r = (d_reject (x_u x) y z).1 ∧ AR M2 h (acX x (d_reject (x_u x) y z).2) ∧ On M M2 ∧ Wt M2 ∧ Ta M M2 h)) l G yX11_reject cX11_reject 3 ((some .int)) 3 65 0 0 [.ref h, .int y, .int z] M := by
  refine c_of ([some (.ref h), some (.int y), some (.int z)] : Lo) RX11 "reject" (by decide) rfl rfl (Nat.le_of_ble_eq_true rfl) rfl (fun p e s m below meth c hC nw => ?_)
  have ht := hX.1
  have hA := hX.2.1.1
  have u1 := hA.1.1
  have u2 := hA.1.2.1
  have u3 := hA.1.2.2.1
  have u4 := hA.1.2.2.2.1
  have hwz := wz_31 hW (wf_276 hW ht)
  refine v_aload_n hC dX11_reject_0 rfl rfl ?_
  refine v_iload_n hC dX11_reject_1 rfl rfl ?_
  refine v_iload_n hC dX11_reject_2 rfl rfl ?_
  refine cVi2 hC (c_X11_noSegment hW ht hA) yv_X11_noSegment rfl ht mw_5_123 ⟨Nat.le_of_ble_eq_true rfl, Nat.le_of_ble_eq_true rfl⟩ ⟨Nat.le_of_ble_eq_true rfl, Nat.le_of_ble_eq_true rfl⟩ (Nat.le_of_ble_eq_true rfl) dX11_reject_3 (fun r3 M5 hq => ?_)
  obtain ⟨hm, hq2⟩ := hq
  have hm2 := hm.symm
  clear hm
  subst hm2
  obtain ⟨g3, rfl⟩ | ⟨g3, rfl⟩ := hq2
  · refine v_if_eq hC dX11_reject_6 (tgt := 11) (by decide) (fun _ => ?_) (fun hx => absurd hx (by decide))
    obtain ⟨f, t, hf, ht9s, rfl, rfl⟩ := g3
    have h12f := hA.1.2.2.2.2 f hf
    have h12 : t < 12 := by omega
    obtain ⟨k9, hk9, ek9⟩ := hJ f hf
    refine v_aload_n hC dX11_reject_11 rfl rfl ?_
    refine v_iload_n hC dX11_reject_12 rfl rfl ?_
    refine cVi1 hC (c_X11_state hW ht hA hf) yv_X11_state rfl ht mw_5_11 ⟨Nat.le_of_ble_eq_true rfl, Nat.le_of_ble_eq_true rfl⟩ ⟨Nat.le_of_ble_eq_true rfl, Nat.le_of_ble_eq_true rfl⟩ (Nat.le_of_ble_eq_true rfl) dX11_reject_13 (fun r13 M15 hq => ?_)
    obtain ⟨rfl, hm⟩ := hq
    have hm2 := hm.symm
    clear hm
    subst hm2
    refine v_iconst (v := 2) hC dX11_reject_16 (by decide) ?_
    refine v_icmp_eq hC dX11_reject_17 (tgt := 23) (by decide) (fun h17 => ?_) (fun h17 => ?_)
    · have h44 : q_i (x_u x) 4 f 0 = 2 := h17
      refine v_aload_n hC dX11_reject_23 rfl rfl ?_
      refine cVv0 hC (c_X11_record hW hX) yv_X11_record rfl ht mw_4_173 ⟨Nat.le_of_ble_eq_true rfl, Nat.le_of_ble_eq_true rfl⟩ ⟨Nat.le_of_ble_eq_true rfl, Nat.le_of_ble_eq_true rfl⟩ (Nat.le_of_ble_eq_true rfl) dX11_reject_24 (fun M26 hq => ?_)
      obtain ⟨hX9, hOn9, hW9, hTa9⟩ := hq
      have ht9 := hX9.1
      have hL9 := hX9.pu
      have hwz9 := wz_31 hW9 (wf_276 hW9 ht9)
      refine v_aload_n hC dX11_reject_27 rfl rfl ?_
      refine v_aload_n hC dX11_reject_28 rfl rfl ?_
      refine v_iload_n hC dX11_reject_29 rfl rfl ?_
      refine v_iload_n hC dX11_reject_30 rfl rfl ?_
      refine cVi2 hC (c_X11_segmentAt ht9) yv_X11_segmentAt rfl ht9 mw_5_19 ⟨Nat.le_of_ble_eq_true rfl, Nat.le_of_ble_eq_true rfl⟩ ⟨Nat.le_of_ble_eq_true rfl, Nat.le_of_ble_eq_true rfl⟩ (Nat.le_of_ble_eq_true rfl) dX11_reject_31 (fun r31 M33 hq => ?_)
      obtain ⟨rfl, hm⟩ := hq
      have hm2 := hm.symm
      clear hm
      subst hm2
      refine v_bipush (v := (-5)) hC dX11_reject_34 (by decide) ?_
      refine v_iconst (v := 0) hC dX11_reject_36 (by decide) ?_
      refine cVv3 hC (c_X11_give hW9 ht9 (by omega)) yv_X11_give rfl ht9 mw_5_115 ⟨Nat.le_of_ble_eq_true rfl, Nat.le_of_ble_eq_true rfl⟩ ⟨Nat.le_of_ble_eq_true rfl, Nat.le_of_ble_eq_true rfl⟩ (Nat.le_of_ble_eq_true rfl) dX11_reject_37 (fun M39 hq => ?_)
      subst hq
      refine v_aload_n hC dX11_reject_40 rfl rfl ?_
      refine gf_11_0 hC ht9 (wf_276 hW9 ht9) mw_4_120 dX11_reject_41 ?_
      refine v_aload_n hC dX11_reject_44 rfl rfl ?_
      refine v_iload_n hC dX11_reject_45 rfl rfl ?_
      refine cVi1 hC (c_X11_fileBy ht9) yv_X11_fileBy rfl ht9 mw_4_222 ⟨Nat.le_of_ble_eq_true rfl, Nat.le_of_ble_eq_true rfl⟩ ⟨Nat.le_of_ble_eq_true rfl, Nat.le_of_ble_eq_true rfl⟩ (Nat.le_of_ble_eq_true rfl) dX11_reject_46 (fun r46 M48 hq => ?_)
      obtain ⟨rfl, hm⟩ := hq
      have hm2 := hm.symm
      clear hm
      subst hm2
      refine v_iconst (v := 1) hC dX11_reject_49 (by decide) ?_
      refine v_iadd hC dX11_reject_50 ?_
      rw [show nI (18 + 7 * f) + 1 = nI (18 + 7 * f + 1) from nI_add _ 1]
      refine v_lconst (v := 1) hC dX11_reject_51 (by decide) ?_
      refine v_last 31 hC (wf_276 hW9 ht9) (by decide) (by decide) (ix_c hwz9 (by omega)) dX11_reject_52 ?_
      refine v_aload_n hC dX11_reject_53 rfl rfl ?_
      refine gf_11_0 hC ht9 (wf_276 hW9 ht9) mw_4_120 dX11_reject_54 ?_
      refine v_aload_n hC dX11_reject_57 rfl rfl ?_
      refine v_iload_n hC dX11_reject_58 rfl rfl ?_
      refine cVi1 hC (c_X11_fileBy ht9) yv_X11_fileBy rfl ht9 mw_4_222 ⟨Nat.le_of_ble_eq_true rfl, Nat.le_of_ble_eq_true rfl⟩ ⟨Nat.le_of_ble_eq_true rfl, Nat.le_of_ble_eq_true rfl⟩ (Nat.le_of_ble_eq_true rfl) dX11_reject_59 (fun r59 M61 hq => ?_)
      obtain ⟨rfl, hm⟩ := hq
      have hm2 := hm.symm
      clear hm
      subst hm2
      refine v_iconst (v := 3) hC dX11_reject_62 (by decide) ?_
      refine v_iadd hC dX11_reject_63 ?_
      rw [show nI (18 + 7 * f) + 3 = nI (18 + 7 * f + 3) from nI_add _ 3]
      refine v_ldc2 hC mw_4_189 dX11_reject_64 ?_
      refine v_last 31 hC (wf_276 hW9 ht9) (by decide) (by decide) (ix_c hwz9 (by omega)) dX11_reject_67 ?_
      refine v_aload_n hC dX11_reject_68 rfl rfl ?_
      refine gf_11_0 hC ht9 (wf_276 hW9 ht9) mw_4_120 dX11_reject_69 ?_
      refine v_aload_n hC dX11_reject_72 rfl rfl ?_
      refine v_iload_n hC dX11_reject_73 rfl rfl ?_
      refine cVi1 hC (c_X11_fileBy ht9) yv_X11_fileBy rfl ht9 mw_4_222 ⟨Nat.le_of_ble_eq_true rfl, Nat.le_of_ble_eq_true rfl⟩ ⟨Nat.le_of_ble_eq_true rfl, Nat.le_of_ble_eq_true rfl⟩ (Nat.le_of_ble_eq_true rfl) dX11_reject_74 (fun r74 M76 hq => ?_)
      obtain ⟨rfl, hm⟩ := hq
      have hm2 := hm.symm
      clear hm
      subst hm2
      refine v_iconst (v := 5) hC dX11_reject_77 (by decide) ?_
      refine v_iadd hC dX11_reject_78 ?_
      rw [show nI (18 + 7 * f) + 5 = nI (18 + 7 * f + 5) from nI_add _ 5]
      refine v_dup2 hC dX11_reject_79 rfl rfl ?_
      refine v_lald 31 hC (wf_276 hW9 ht9) (by decide) (by decide) (ix_c hwz9 (by omega)) dX11_reject_80 ?_
      rw [show m_l (s_l (s_l (s_l (s_l M26 31 (m_r M26 276 h 0) (606 + 11 * (12 * f + t) + 9) ((-5 : Int32)).toInt64) 31 (m_r (s_l M26 31 (m_r M26 276 h 0) (606 + 11 * (12 * f + t) + 9) ((-5 : Int32)).toInt64) 276 h 0) (606 + 11 * (12 * f + t) + 10) ((0 : Int32)).toInt64) 31 (m_r (s_l (s_l M26 31 (m_r M26 276 h 0) (606 + 11 * (12 * f + t) + 9) ((-5 : Int32)).toInt64) 31 (m_r (s_l M26 31 (m_r M26 276 h 0) (606 + 11 * (12 * f + t) + 9) ((-5 : Int32)).toInt64) 276 h 0) (606 + 11 * (12 * f + t) + 10) ((0 : Int32)).toInt64) 276 h 0) (18 + 7 * f + 1) 1) 31 (m_r (s_l (s_l (s_l M26 31 (m_r M26 276 h 0) (606 + 11 * (12 * f + t) + 9) ((-5 : Int32)).toInt64) 31 (m_r (s_l M26 31 (m_r M26 276 h 0) (606 + 11 * (12 * f + t) + 9) ((-5 : Int32)).toInt64) 276 h 0) (606 + 11 * (12 * f + t) + 10) ((0 : Int32)).toInt64) 31 (m_r (s_l (s_l M26 31 (m_r M26 276 h 0) (606 + 11 * (12 * f + t) + 9) ((-5 : Int32)).toInt64) 31 (m_r (s_l M26 31 (m_r M26 276 h 0) (606 + 11 * (12 * f + t) + 9) ((-5 : Int32)).toInt64) 276 h 0) (606 + 11 * (12 * f + t) + 10) ((0 : Int32)).toInt64) 276 h 0) (18 + 7 * f + 1) 1) 276 h 0) (18 + 7 * f + 3) (-5)) 31 (m_r (s_l (s_l (s_l (s_l M26 31 (m_r M26 276 h 0) (606 + 11 * (12 * f + t) + 9) ((-5 : Int32)).toInt64) 31 (m_r (s_l M26 31 (m_r M26 276 h 0) (606 + 11 * (12 * f + t) + 9) ((-5 : Int32)).toInt64) 276 h 0) (606 + 11 * (12 * f + t) + 10) ((0 : Int32)).toInt64) 31 (m_r (s_l (s_l M26 31 (m_r M26 276 h 0) (606 + 11 * (12 * f + t) + 9) ((-5 : Int32)).toInt64) 31 (m_r (s_l M26 31 (m_r M26 276 h 0) (606 + 11 * (12 * f + t) + 9) ((-5 : Int32)).toInt64) 276 h 0) (606 + 11 * (12 * f + t) + 10) ((0 : Int32)).toInt64) 276 h 0) (18 + 7 * f + 1) 1) 31 (m_r (s_l (s_l (s_l M26 31 (m_r M26 276 h 0) (606 + 11 * (12 * f + t) + 9) ((-5 : Int32)).toInt64) 31 (m_r (s_l M26 31 (m_r M26 276 h 0) (606 + 11 * (12 * f + t) + 9) ((-5 : Int32)).toInt64) 276 h 0) (606 + 11 * (12 * f + t) + 10) ((0 : Int32)).toInt64) 31 (m_r (s_l (s_l M26 31 (m_r M26 276 h 0) (606 + 11 * (12 * f + t) + 9) ((-5 : Int32)).toInt64) 31 (m_r (s_l M26 31 (m_r M26 276 h 0) (606 + 11 * (12 * f + t) + 9) ((-5 : Int32)).toInt64) 276 h 0) (606 + 11 * (12 * f + t) + 10) ((0 : Int32)).toInt64) 276 h 0) (18 + 7 * f + 1) 1) 276 h 0) (18 + 7 * f + 3) (-5)) 276 h 0) (18 + 7 * f + 5) = (q_i (x_u x) 8 f 0).toInt64 from by
        show rwM (s_l (s_l (s_l (s_l M26 31 (m_r M26 276 h 0) (606 + 11 * (12 * f + t) + 9) ((-5 : Int32)).toInt64) 31 (m_r (s_l M26 31 (m_r M26 276 h 0) (606 + 11 * (12 * f + t) + 9) ((-5 : Int32)).toInt64) 276 h 0) (606 + 11 * (12 * f + t) + 10) ((0 : Int32)).toInt64) 31 (m_r (s_l (s_l M26 31 (m_r M26 276 h 0) (606 + 11 * (12 * f + t) + 9) ((-5 : Int32)).toInt64) 31 (m_r (s_l M26 31 (m_r M26 276 h 0) (606 + 11 * (12 * f + t) + 9) ((-5 : Int32)).toInt64) 276 h 0) (606 + 11 * (12 * f + t) + 10) ((0 : Int32)).toInt64) 276 h 0) (18 + 7 * f + 1) 1) 31 (m_r (s_l (s_l (s_l M26 31 (m_r M26 276 h 0) (606 + 11 * (12 * f + t) + 9) ((-5 : Int32)).toInt64) 31 (m_r (s_l M26 31 (m_r M26 276 h 0) (606 + 11 * (12 * f + t) + 9) ((-5 : Int32)).toInt64) 276 h 0) (606 + 11 * (12 * f + t) + 10) ((0 : Int32)).toInt64) 31 (m_r (s_l (s_l M26 31 (m_r M26 276 h 0) (606 + 11 * (12 * f + t) + 9) ((-5 : Int32)).toInt64) 31 (m_r (s_l M26 31 (m_r M26 276 h 0) (606 + 11 * (12 * f + t) + 9) ((-5 : Int32)).toInt64) 276 h 0) (606 + 11 * (12 * f + t) + 10) ((0 : Int32)).toInt64) 276 h 0) (18 + 7 * f + 1) 1) 276 h 0) (18 + 7 * f + 3) (-5)) h (18 + 7 * f + 5) = _
        rw [rwM_w, rwM_w, rwM_w, rwM_w, updR_n (by omega), updR_n (by omega), updR_n (by omega), updR_n (by omega)]
        exact (hL9.1.f4 hf).2.2.2]
      refine v_lconst (v := 1) hC dX11_reject_81 (by decide) ?_
      refine v_ladd hC dX11_reject_82 ?_
      rw [show (q_i (x_u x) 8 f 0).toInt64 + 1 = (q_i (x_u x) 8 f 0 + 1).toInt64 from by rw [ek9]; exact i64_s hk9]
      refine v_last 31 hC (wf_276 hW9 ht9) (by decide) (by decide) (ix_c hwz9 (by omega)) dX11_reject_83 ?_
      have hfin : LRw (rwM (s_l (s_l (s_l (s_l (s_l M26 31 (m_r M26 276 h 0) (606 + 11 * (12 * f + t) + 9) ((-5 : Int32)).toInt64) 31 (m_r (s_l M26 31 (m_r M26 276 h 0) (606 + 11 * (12 * f + t) + 9) ((-5 : Int32)).toInt64) 276 h 0) (606 + 11 * (12 * f + t) + 10) ((0 : Int32)).toInt64) 31 (m_r (s_l (s_l M26 31 (m_r M26 276 h 0) (606 + 11 * (12 * f + t) + 9) ((-5 : Int32)).toInt64) 31 (m_r (s_l M26 31 (m_r M26 276 h 0) (606 + 11 * (12 * f + t) + 9) ((-5 : Int32)).toInt64) 276 h 0) (606 + 11 * (12 * f + t) + 10) ((0 : Int32)).toInt64) 276 h 0) (18 + 7 * f + 1) 1) 31 (m_r (s_l (s_l (s_l M26 31 (m_r M26 276 h 0) (606 + 11 * (12 * f + t) + 9) ((-5 : Int32)).toInt64) 31 (m_r (s_l M26 31 (m_r M26 276 h 0) (606 + 11 * (12 * f + t) + 9) ((-5 : Int32)).toInt64) 276 h 0) (606 + 11 * (12 * f + t) + 10) ((0 : Int32)).toInt64) 31 (m_r (s_l (s_l M26 31 (m_r M26 276 h 0) (606 + 11 * (12 * f + t) + 9) ((-5 : Int32)).toInt64) 31 (m_r (s_l M26 31 (m_r M26 276 h 0) (606 + 11 * (12 * f + t) + 9) ((-5 : Int32)).toInt64) 276 h 0) (606 + 11 * (12 * f + t) + 10) ((0 : Int32)).toInt64) 276 h 0) (18 + 7 * f + 1) 1) 276 h 0) (18 + 7 * f + 3) (-5)) 31 (m_r (s_l (s_l (s_l (s_l M26 31 (m_r M26 276 h 0) (606 + 11 * (12 * f + t) + 9) ((-5 : Int32)).toInt64) 31 (m_r (s_l M26 31 (m_r M26 276 h 0) (606 + 11 * (12 * f + t) + 9) ((-5 : Int32)).toInt64) 276 h 0) (606 + 11 * (12 * f + t) + 10) ((0 : Int32)).toInt64) 31 (m_r (s_l (s_l M26 31 (m_r M26 276 h 0) (606 + 11 * (12 * f + t) + 9) ((-5 : Int32)).toInt64) 31 (m_r (s_l M26 31 (m_r M26 276 h 0) (606 + 11 * (12 * f + t) + 9) ((-5 : Int32)).toInt64) 276 h 0) (606 + 11 * (12 * f + t) + 10) ((0 : Int32)).toInt64) 276 h 0) (18 + 7 * f + 1) 1) 31 (m_r (s_l (s_l (s_l M26 31 (m_r M26 276 h 0) (606 + 11 * (12 * f + t) + 9) ((-5 : Int32)).toInt64) 31 (m_r (s_l M26 31 (m_r M26 276 h 0) (606 + 11 * (12 * f + t) + 9) ((-5 : Int32)).toInt64) 276 h 0) (606 + 11 * (12 * f + t) + 10) ((0 : Int32)).toInt64) 31 (m_r (s_l (s_l M26 31 (m_r M26 276 h 0) (606 + 11 * (12 * f + t) + 9) ((-5 : Int32)).toInt64) 31 (m_r (s_l M26 31 (m_r M26 276 h 0) (606 + 11 * (12 * f + t) + 9) ((-5 : Int32)).toInt64) 276 h 0) (606 + 11 * (12 * f + t) + 10) ((0 : Int32)).toInt64) 276 h 0) (18 + 7 * f + 1) 1) 276 h 0) (18 + 7 * f + 3) (-5)) 276 h 0) (18 + 7 * f + 5) (q_i (x_u x) 8 f 0 + 1).toInt64) h) (rejU (x_u x) f t) := by
        have hf8 : f < 8 := by omega
        have n3 : ¬ q_i (x_u x) 4 f 0 = 3 := fun q => by rw [h44] at q; exact absurd q (by decide)
        have cc : ∀ k, 4 ≤ k → k ≤ 8 → cpR k f 0 := fun k q1 q2 => Or.inr (Or.inr (Or.inl ⟨q1, q2, hf8, rfl⟩))
        have c9 : ∀ k, 9 ≤ k → k ≤ 10 → cpR k f t := fun k q1 q2 => Or.inr (Or.inr (Or.inr (Or.inl ⟨q1, q2, hf8, h12⟩)))
        rw [rwM_w, rwM_w, rwM_w, rwM_w, rwM_w, show 606 + 11 * (12 * f + t) + 9 = pl 9 f t by simp [pl, pB_, pA_, pJ_]; omega, show 606 + 11 * (12 * f + t) + 10 = pl 10 f t by simp [pl, pB_, pA_, pJ_]; omega, show 18 + 7 * f + 1 = pl 4 f 0 by simp [pl, pB_, pA_, pJ_]; omega, show 18 + 7 * f + 3 = pl 6 f 0 by simp [pl, pB_, pA_, pJ_]; omega, show 18 + 7 * f + 5 = pl 8 f 0 by simp [pl, pB_, pA_, pJ_]; omega]
        have a1 := hL9.1.w (v := 0) 9 f t (c9 9 (by decide) (by decide)) (by decide) (by decide)
        have a2 := a1.w (v := 0) 10 f t (c9 10 (by decide) (by decide)) (by decide) (by decide)
        have a3 := a2.w4 (v := 1) f hf8 (Or.inr (Or.inr (fun q => by
          have q2 : q_i (x_u x) 4 f 0 = 4 := q
          rw [h44] at q2; exact absurd q2 (by decide))))
        have a4 := a3.w (v := -5) 6 f 0 (cc 6 (by decide) (by decide)) (by decide) (by decide)
        have a5 := a4.w (v := q_i (x_u x) 8 f 0 + 1) 8 f 0 (cc 8 (by decide) (by decide)) (by decide) (by decide)
        rw [show eb 9 0 = (-5 : Int32).toInt64 by decide, show eb 10 0 = (0 : Int32).toInt64 by decide, show eb 6 (-5) = -5 by decide, show eb 8 (q_i (x_u x) 8 f 0 + 1) = (q_i (x_u x) 8 f 0 + 1).toInt64 from eb_o (by decide) (by decide)] at a5
        refine ⟨a5, ?_⟩
        have b5 := ((((hL9.2.off (v := (-5 : Int32).toInt64) 9 f t u2 (Or.inl (c9 9 (by decide) (by decide))) (by decide)).off (v := (0 : Int32).toInt64) 10 f t u2 (Or.inl (c9 10 (by decide) (by decide))) (by decide)).off (v := 1) 4 f 0 u2 (Or.inl (cc 4 (by decide) (by decide))) (by decide)).off (v := -5) 6 f 0 u2 (Or.inl (cc 6 (by decide) (by decide))) (by decide)).off (v := (q_i (x_u x) 8 f 0 + 1).toInt64) 8 f 0 u2 (Or.inl (cc 8 (by decide) (by decide))) (by decide)
        have p1 : PdF (x_u x) (u_i (u_i (x_u x) 9 f t 0) 10 f t 0) := (PdF.i (v := 0) 9 f t (by decide)).tr (PdF.i (v := 0) 10 f t (by decide))
        have p2 := p1.tr (PdF.at (u := u_i (u_i (x_u x) 9 f t 0) 10 f t 0) (v := 1) 4 f n3 (fun _ => by decide))
        have p3 := p2.tr (PdF.at (v := -5) 6 f (by rw [q_ie]; decide) (fun q => absurd q (by decide)))
        have p4 := p3.tr (PdF.i (v := q_i (x_u x) 8 f 0 + 1) 8 f 0 (by decide))
        exact b5.same p4 rfl
      have hWe : Wt (s_l (s_l (s_l (s_l (s_l M26 31 (m_r M26 276 h 0) (606 + 11 * (12 * f + t) + 9) ((-5 : Int32)).toInt64) 31 (m_r (s_l M26 31 (m_r M26 276 h 0) (606 + 11 * (12 * f + t) + 9) ((-5 : Int32)).toInt64) 276 h 0) (606 + 11 * (12 * f + t) + 10) ((0 : Int32)).toInt64) 31 (m_r (s_l (s_l M26 31 (m_r M26 276 h 0) (606 + 11 * (12 * f + t) + 9) ((-5 : Int32)).toInt64) 31 (m_r (s_l M26 31 (m_r M26 276 h 0) (606 + 11 * (12 * f + t) + 9) ((-5 : Int32)).toInt64) 276 h 0) (606 + 11 * (12 * f + t) + 10) ((0 : Int32)).toInt64) 276 h 0) (18 + 7 * f + 1) 1) 31 (m_r (s_l (s_l (s_l M26 31 (m_r M26 276 h 0) (606 + 11 * (12 * f + t) + 9) ((-5 : Int32)).toInt64) 31 (m_r (s_l M26 31 (m_r M26 276 h 0) (606 + 11 * (12 * f + t) + 9) ((-5 : Int32)).toInt64) 276 h 0) (606 + 11 * (12 * f + t) + 10) ((0 : Int32)).toInt64) 31 (m_r (s_l (s_l M26 31 (m_r M26 276 h 0) (606 + 11 * (12 * f + t) + 9) ((-5 : Int32)).toInt64) 31 (m_r (s_l M26 31 (m_r M26 276 h 0) (606 + 11 * (12 * f + t) + 9) ((-5 : Int32)).toInt64) 276 h 0) (606 + 11 * (12 * f + t) + 10) ((0 : Int32)).toInt64) 276 h 0) (18 + 7 * f + 1) 1) 276 h 0) (18 + 7 * f + 3) (-5)) 31 (m_r (s_l (s_l (s_l (s_l M26 31 (m_r M26 276 h 0) (606 + 11 * (12 * f + t) + 9) ((-5 : Int32)).toInt64) 31 (m_r (s_l M26 31 (m_r M26 276 h 0) (606 + 11 * (12 * f + t) + 9) ((-5 : Int32)).toInt64) 276 h 0) (606 + 11 * (12 * f + t) + 10) ((0 : Int32)).toInt64) 31 (m_r (s_l (s_l M26 31 (m_r M26 276 h 0) (606 + 11 * (12 * f + t) + 9) ((-5 : Int32)).toInt64) 31 (m_r (s_l M26 31 (m_r M26 276 h 0) (606 + 11 * (12 * f + t) + 9) ((-5 : Int32)).toInt64) 276 h 0) (606 + 11 * (12 * f + t) + 10) ((0 : Int32)).toInt64) 276 h 0) (18 + 7 * f + 1) 1) 31 (m_r (s_l (s_l (s_l M26 31 (m_r M26 276 h 0) (606 + 11 * (12 * f + t) + 9) ((-5 : Int32)).toInt64) 31 (m_r (s_l M26 31 (m_r M26 276 h 0) (606 + 11 * (12 * f + t) + 9) ((-5 : Int32)).toInt64) 276 h 0) (606 + 11 * (12 * f + t) + 10) ((0 : Int32)).toInt64) 31 (m_r (s_l (s_l M26 31 (m_r M26 276 h 0) (606 + 11 * (12 * f + t) + 9) ((-5 : Int32)).toInt64) 31 (m_r (s_l M26 31 (m_r M26 276 h 0) (606 + 11 * (12 * f + t) + 9) ((-5 : Int32)).toInt64) 276 h 0) (606 + 11 * (12 * f + t) + 10) ((0 : Int32)).toInt64) 276 h 0) (18 + 7 * f + 1) 1) 276 h 0) (18 + 7 * f + 3) (-5)) 276 h 0) (18 + 7 * f + 5) (q_i (x_u x) 8 f 0 + 1).toInt64) := hW9
      have hte : m_t (s_l (s_l (s_l (s_l (s_l M26 31 (m_r M26 276 h 0) (606 + 11 * (12 * f + t) + 9) ((-5 : Int32)).toInt64) 31 (m_r (s_l M26 31 (m_r M26 276 h 0) (606 + 11 * (12 * f + t) + 9) ((-5 : Int32)).toInt64) 276 h 0) (606 + 11 * (12 * f + t) + 10) ((0 : Int32)).toInt64) 31 (m_r (s_l (s_l M26 31 (m_r M26 276 h 0) (606 + 11 * (12 * f + t) + 9) ((-5 : Int32)).toInt64) 31 (m_r (s_l M26 31 (m_r M26 276 h 0) (606 + 11 * (12 * f + t) + 9) ((-5 : Int32)).toInt64) 276 h 0) (606 + 11 * (12 * f + t) + 10) ((0 : Int32)).toInt64) 276 h 0) (18 + 7 * f + 1) 1) 31 (m_r (s_l (s_l (s_l M26 31 (m_r M26 276 h 0) (606 + 11 * (12 * f + t) + 9) ((-5 : Int32)).toInt64) 31 (m_r (s_l M26 31 (m_r M26 276 h 0) (606 + 11 * (12 * f + t) + 9) ((-5 : Int32)).toInt64) 276 h 0) (606 + 11 * (12 * f + t) + 10) ((0 : Int32)).toInt64) 31 (m_r (s_l (s_l M26 31 (m_r M26 276 h 0) (606 + 11 * (12 * f + t) + 9) ((-5 : Int32)).toInt64) 31 (m_r (s_l M26 31 (m_r M26 276 h 0) (606 + 11 * (12 * f + t) + 9) ((-5 : Int32)).toInt64) 276 h 0) (606 + 11 * (12 * f + t) + 10) ((0 : Int32)).toInt64) 276 h 0) (18 + 7 * f + 1) 1) 276 h 0) (18 + 7 * f + 3) (-5)) 31 (m_r (s_l (s_l (s_l (s_l M26 31 (m_r M26 276 h 0) (606 + 11 * (12 * f + t) + 9) ((-5 : Int32)).toInt64) 31 (m_r (s_l M26 31 (m_r M26 276 h 0) (606 + 11 * (12 * f + t) + 9) ((-5 : Int32)).toInt64) 276 h 0) (606 + 11 * (12 * f + t) + 10) ((0 : Int32)).toInt64) 31 (m_r (s_l (s_l M26 31 (m_r M26 276 h 0) (606 + 11 * (12 * f + t) + 9) ((-5 : Int32)).toInt64) 31 (m_r (s_l M26 31 (m_r M26 276 h 0) (606 + 11 * (12 * f + t) + 9) ((-5 : Int32)).toInt64) 276 h 0) (606 + 11 * (12 * f + t) + 10) ((0 : Int32)).toInt64) 276 h 0) (18 + 7 * f + 1) 1) 31 (m_r (s_l (s_l (s_l M26 31 (m_r M26 276 h 0) (606 + 11 * (12 * f + t) + 9) ((-5 : Int32)).toInt64) 31 (m_r (s_l M26 31 (m_r M26 276 h 0) (606 + 11 * (12 * f + t) + 9) ((-5 : Int32)).toInt64) 276 h 0) (606 + 11 * (12 * f + t) + 10) ((0 : Int32)).toInt64) 31 (m_r (s_l (s_l M26 31 (m_r M26 276 h 0) (606 + 11 * (12 * f + t) + 9) ((-5 : Int32)).toInt64) 31 (m_r (s_l M26 31 (m_r M26 276 h 0) (606 + 11 * (12 * f + t) + 9) ((-5 : Int32)).toInt64) 276 h 0) (606 + 11 * (12 * f + t) + 10) ((0 : Int32)).toInt64) 276 h 0) (18 + 7 * f + 1) 1) 276 h 0) (18 + 7 * f + 3) (-5)) 276 h 0) (18 + 7 * f + 5) (q_i (x_u x) 8 f 0 + 1).toInt64) h = 12 := ht9
      refine v_aload_n hC dX11_reject_84 rfl rfl ?_
      refine v_aload_n hC dX11_reject_85 rfl rfl ?_
      refine v_iload_n hC dX11_reject_86 rfl rfl ?_
      refine cVi1 hC (c_X11_fileBy ht9) yv_X11_fileBy rfl ht9 mw_4_222 ⟨Nat.le_of_ble_eq_true rfl, Nat.le_of_ble_eq_true rfl⟩ ⟨Nat.le_of_ble_eq_true rfl, Nat.le_of_ble_eq_true rfl⟩ (Nat.le_of_ble_eq_true rfl) dX11_reject_87 (fun r87 M89 hq => ?_)
      obtain ⟨rfl, hm⟩ := hq
      have hm2 := hm.symm
      clear hm
      subst hm2
      refine v_iconst (v := 5) hC dX11_reject_90 (by decide) ?_
      refine v_iadd hC dX11_reject_91 ?_
      rw [show nI (18 + 7 * f) + 5 = nI (18 + 7 * f + 5) from nI_add _ 5]
      refine cVi1 hC (c_X11_number hWe hte (by omega)) yv_X11_number rfl ht9 mw_4_165 ⟨Nat.le_of_ble_eq_true rfl, Nat.le_of_ble_eq_true rfl⟩ ⟨Nat.le_of_ble_eq_true rfl, Nat.le_of_ble_eq_true rfl⟩ (Nat.le_of_ble_eq_true rfl) dX11_reject_92 (fun r92 M94 hq => ?_)
      obtain ⟨rfl, hm⟩ := hq
      have hm2 := hm.symm
      clear hm
      subst hm2
      rw [show (rwM (s_l (s_l (s_l (s_l (s_l M26 31 (m_r M26 276 h 0) (606 + 11 * (12 * f + t) + 9) ((-5 : Int32)).toInt64) 31 (m_r (s_l M26 31 (m_r M26 276 h 0) (606 + 11 * (12 * f + t) + 9) ((-5 : Int32)).toInt64) 276 h 0) (606 + 11 * (12 * f + t) + 10) ((0 : Int32)).toInt64) 31 (m_r (s_l (s_l M26 31 (m_r M26 276 h 0) (606 + 11 * (12 * f + t) + 9) ((-5 : Int32)).toInt64) 31 (m_r (s_l M26 31 (m_r M26 276 h 0) (606 + 11 * (12 * f + t) + 9) ((-5 : Int32)).toInt64) 276 h 0) (606 + 11 * (12 * f + t) + 10) ((0 : Int32)).toInt64) 276 h 0) (18 + 7 * f + 1) 1) 31 (m_r (s_l (s_l (s_l M26 31 (m_r M26 276 h 0) (606 + 11 * (12 * f + t) + 9) ((-5 : Int32)).toInt64) 31 (m_r (s_l M26 31 (m_r M26 276 h 0) (606 + 11 * (12 * f + t) + 9) ((-5 : Int32)).toInt64) 276 h 0) (606 + 11 * (12 * f + t) + 10) ((0 : Int32)).toInt64) 31 (m_r (s_l (s_l M26 31 (m_r M26 276 h 0) (606 + 11 * (12 * f + t) + 9) ((-5 : Int32)).toInt64) 31 (m_r (s_l M26 31 (m_r M26 276 h 0) (606 + 11 * (12 * f + t) + 9) ((-5 : Int32)).toInt64) 276 h 0) (606 + 11 * (12 * f + t) + 10) ((0 : Int32)).toInt64) 276 h 0) (18 + 7 * f + 1) 1) 276 h 0) (18 + 7 * f + 3) (-5)) 31 (m_r (s_l (s_l (s_l (s_l M26 31 (m_r M26 276 h 0) (606 + 11 * (12 * f + t) + 9) ((-5 : Int32)).toInt64) 31 (m_r (s_l M26 31 (m_r M26 276 h 0) (606 + 11 * (12 * f + t) + 9) ((-5 : Int32)).toInt64) 276 h 0) (606 + 11 * (12 * f + t) + 10) ((0 : Int32)).toInt64) 31 (m_r (s_l (s_l M26 31 (m_r M26 276 h 0) (606 + 11 * (12 * f + t) + 9) ((-5 : Int32)).toInt64) 31 (m_r (s_l M26 31 (m_r M26 276 h 0) (606 + 11 * (12 * f + t) + 9) ((-5 : Int32)).toInt64) 276 h 0) (606 + 11 * (12 * f + t) + 10) ((0 : Int32)).toInt64) 276 h 0) (18 + 7 * f + 1) 1) 31 (m_r (s_l (s_l (s_l M26 31 (m_r M26 276 h 0) (606 + 11 * (12 * f + t) + 9) ((-5 : Int32)).toInt64) 31 (m_r (s_l M26 31 (m_r M26 276 h 0) (606 + 11 * (12 * f + t) + 9) ((-5 : Int32)).toInt64) 276 h 0) (606 + 11 * (12 * f + t) + 10) ((0 : Int32)).toInt64) 31 (m_r (s_l (s_l M26 31 (m_r M26 276 h 0) (606 + 11 * (12 * f + t) + 9) ((-5 : Int32)).toInt64) 31 (m_r (s_l M26 31 (m_r M26 276 h 0) (606 + 11 * (12 * f + t) + 9) ((-5 : Int32)).toInt64) 276 h 0) (606 + 11 * (12 * f + t) + 10) ((0 : Int32)).toInt64) 276 h 0) (18 + 7 * f + 1) 1) 276 h 0) (18 + 7 * f + 3) (-5)) 276 h 0) (18 + 7 * f + 5) (q_i (x_u x) 8 f 0 + 1).toInt64) h (18 + 7 * f + 5)).toInt32 = q_i (x_u x) 8 f 0 + 1 from by rw [rwM_w, updR_e, Int32.toInt32_toInt64]]
      refine v_iret hC dX11_reject_95 ?_
      have hD : d_reject (x_u x) (nI f) (nI t) = (q_i (x_u x) 8 f 0 + 1, some (rejU (x_u x) f t)) := by rw [d_reject, inN_s hf]; show (match inN (nI t) (n_s (x_u x) f) with | none => _ | some s => _) = _; rw [inN_s ht9s (by omega)]; exact if_neg (fun q => q h44)
      rw [hD]
      refine ⟨rfl, Wr.end hX9 (by repeat (first | exact Wr.rf | refine Wr.sl ?_)) hOn9 hW9 hTa9 ?_⟩
      exact hfin
    · refine v_bipush (v := (-4)) hC dX11_reject_20 (by decide) ?_
      refine v_iret hC dX11_reject_22 ?_
      have hD : d_reject (x_u x) (nI f) (nI t) = (-4, none) := by rw [d_reject, inN_s hf]; show (match inN (nI t) (n_s (x_u x) f) with | none => _ | some s => _) = _; rw [inN_s ht9s (by omega)]; exact if_pos h17
      rw [hD]; exact ⟨rfl, hX, On.rf, hW, Ta.rf⟩
  · refine v_if_eq hC dX11_reject_6 (tgt := 11) (by decide) (fun hx => absurd hx (by decide)) (fun _ => ?_)
    refine v_iconst (v := (-1)) hC dX11_reject_9 (by decide) ?_
    refine v_iret hC dX11_reject_10 ?_
    have hD : d_reject (x_u x) y z = (-1, none) := by
      rw [d_reject]
      by_cases w1 : rgI y (n_f (x_u x))
      · obtain ⟨f, hf, rfl⟩ := w1
        rw [inN_s hf]
        by_cases w2 : rgI z (n_s (x_u x) f)
        · obtain ⟨t, ht9s, rfl⟩ := w2
          exact absurd ⟨f, t, hf, ht9s, rfl, rfl⟩ g3
        · show (match inN z (n_s (x_u x) f) with | none => _ | some s => _) = _
          rw [inN_o w2 (by have := hA.1.2.2.2.2 f hf; omega)]
      · rw [inN_o w1]
    rw [hD]; exact ⟨rfl, hX, On.rf, hW, Ta.rf⟩
