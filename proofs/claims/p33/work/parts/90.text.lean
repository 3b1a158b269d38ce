theorem AR.tx {M : Me} {h k a j : Nat} {x : Xs} {v : Int32} (q : AR M h x) (hk : k = 42 ∨ k = 282) : AR (s_i M k a j v) h x := by
  obtain ⟨a1, a2, ⟨a3, a4, a5⟩, a6, a7, a8⟩ := q
  exact ⟨a1, a2, ⟨a3, (i_sk (by omega)).trans a4, a5⟩, (i_sk (by omega)).trans a6, a7, a8⟩
set_option maxHeartbeats 4000000 in
set_option maxRecDepth 100000 in
theorem c_X11_type {l : Launch} {G : Gd} {M : Me} {h t : Nat} {tc : Nat → Int32} {x : Xs} {y : Int32} (hW : Wt M) (hX : AR M h x) (hT : TA M h t tc) (hnar : narrow .char (.int y) = .int y) : CQ (Qi G (fun r M2 => r = (if t < 60 then nI (t + 1) else -3) ∧ AR M2 h x ∧ TA M2 h (ty_t t) (ty_c t tc y) ∧ On M M2 ∧ Wt M2)) l G yX11_type cX11_type 2 ((some .int)) 0 0 0 0 [.ref h, .int y] M := by
  refine c_of ([some (.ref h), some (.int y)] : Lo) RX11 "type" (by decide) rfl rfl (Nat.le_of_ble_eq_true rfl) rfl (fun p e s m below meth c hC nw => ?_)
  have ht := hX.1
  have hb := hT.1
  refine v_aload_n hC dX11_type_0 rfl rfl ?_
  refine gf_11_6 hC ht mw_4_126 dX11_type_1 ?_
  rw [hT.2.1]
  refine v_bipush (v := 60) hC dX11_type_4 (by decide) ?_
  refine v_icmp_ne hC dX11_type_6 (tgt := 12) (by decide) (fun h6 => ?_) (fun h6 => ?_)
  · have h60 : t < 60 := by
      rcases Nat.lt_or_ge t 60 with q | q
      · exact q
      · exact absurd (show nI t = 60 from congrArg nI (show t = 60 by omega)) h6
    refine v_aload_n hC dX11_type_12 rfl rfl ?_
    refine gf_11_5 hC ht (wf_281 hW ht) mw_4_125 dX11_type_13 ?_
    refine v_aload_n hC dX11_type_16 rfl rfl ?_
    refine gf_11_6 hC ht mw_4_126 dX11_type_17 ?_
    rw [hT.2.1]
    refine v_iload_n hC dX11_type_20 rfl rfl ?_
    refine v_cast 42 hC (wf_281 hW ht) (by decide) (by decide) (ix_c (wz_42 hW (wf_281 hW ht)) (by omega)) hnar dX11_type_21 ?_
    refine v_aload_n hC dX11_type_22 rfl rfl ?_
    refine v_dup hC dX11_type_23 rfl ?_
    refine gf_11_6 hC ht mw_4_126 dX11_type_24 ?_
    rw [show m_i (s_i M 42 (m_r M 281 h 0) t y) 282 h 0 = nI t from (i_sk (by decide)).trans hT.2.1]
    refine v_iconst (v := 1) hC dX11_type_27 (by decide) ?_
    refine v_iadd hC dX11_type_28 ?_
    rw [show nI t + 1 = nI (t + 1) from (nI_succ t).symm]
    refine pf_11_6 hC ht mw_4_126 dX11_type_29 ?_
    refine v_aload_n hC dX11_type_32 rfl rfl ?_
    refine gf_11_6 hC ht mw_4_126 dX11_type_33 ?_
    rw [i_se]
    refine v_iret hC dX11_type_36 ?_
    rw [if_pos h60, ty_t, if_pos h60, ty_c, if_pos h60]
    refine ⟨rfl, (hX.tx (Or.inl rfl)).tx (Or.inr rfl), ⟨h60, i_se, fun j hj => ?_⟩, (On.rf.si (by decide)).si (by decide), hW⟩
    refine (i_sk (by decide)).trans ?_
    refine i_sj.trans ?_
    by_cases w : j = t
    · rw [if_pos w]; exact (if_pos w).symm
    · rw [if_neg w]; exact (hT.2.2 j (by omega)).trans (if_neg w).symm
  · have h60 : ¬ t < 60 := fun q => by
      have := (nI_eq (b := 60) (by omega) (by omega)).mp (Decidable.not_not.mp (fun q => q h6))
      omega
    refine v_bipush (v := (-3)) hC dX11_type_9 (by decide) ?_
    refine v_iret hC dX11_type_11 ?_
    rw [if_neg h60, ty_t, if_neg h60, ty_c, if_neg h60]; exact ⟨rfl, hX, hT, On.rf, hW⟩

set_option maxHeartbeats 4000000 in
set_option maxRecDepth 100000 in
theorem c_X11_clearText {l : Launch} {G : Gd} {M : Me} {h t : Nat} {tc : Nat → Int32} {x : Xs} (hW : Wt M) (hX : AR M h x) (hT : TA M h t tc) : CQ (Qi G (fun r M2 => r = nI t ∧ AR M2 h x ∧ TA M2 h 0 tc ∧ On M M2 ∧ Wt M2)) l G yX11_clearText cX11_clearText 2 ((some .int)) 0 0 0 0 [.ref h] M := by
  refine c_of ([some (.ref h), none] : Lo) RX11 "clearText" (by decide) rfl rfl (Nat.le_of_ble_eq_true rfl) rfl (fun p e s m below meth c hC nw => ?_)
  have ht := hX.1
  refine v_aload_n hC dX11_clearText_0 rfl rfl ?_
  refine gf_11_6 hC ht mw_4_126 dX11_clearText_1 ?_
  rw [hT.2.1]
  refine v_ist1 hC dX11_clearText_4 (by decide) (kk := ?_)
  refine v_aload_n hC dX11_clearText_5 rfl rfl ?_
  refine v_iconst (v := 0) hC dX11_clearText_6 (by decide) ?_
  refine pf_11_6 hC ht mw_4_126 dX11_clearText_7 ?_
  refine v_iload_n hC dX11_clearText_10 rfl rfl ?_
  refine v_iret hC dX11_clearText_11 ?_
  exact ⟨rfl, hX.tx (Or.inr rfl), ⟨Nat.zero_le _, i_se, fun j hj => absurd hj (Nat.not_lt_zero j)⟩, On.rf.si (by decide), hW⟩
