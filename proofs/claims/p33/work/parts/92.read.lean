/-- the character at i is a letter -/
def ltA (c : Nat → Int32) (t i : Nat) : Prop := i < t ∧ ¬ c i < 97 ∧ ¬ (122 : Int32) < c i
set_option maxHeartbeats 4000000 in
set_option maxRecDepth 100000 in
theorem c_X11_isLetter {l : Launch} {G : Gd} {M : Me} {h t i : Nat} {tc : Nat → Int32} (hW : Wt M) (ht : m_t M h = 12) (hT : TA M h t tc) (hat : m_i M 285 h 0 = nI i) (hi60 : i ≤ 60) : CQ (Qi G (fun r M2 => M2 = M ∧ (ltA tc t i ∧ r = 1 ∨ ¬ ltA tc t i ∧ r = 0))) l G yX11_isLetter cX11_isLetter 1 ((some .boolean)) 0 0 0 0 [.ref h] M := by
  refine c_of ([some (.ref h)] : Lo) RX11 "isLetter" (by decide) rfl rfl (Nat.le_of_ble_eq_true rfl) rfl (fun p e s m below meth c hC nw => ?_)
  have hb := hT.1
  refine v_aload_n hC dX11_isLetter_0 rfl rfl ?_
  refine gf_11_9 hC ht mw_4_129 dX11_isLetter_1 ?_
  rw [hat]
  refine v_aload_n hC dX11_isLetter_4 rfl rfl ?_
  refine gf_11_6 hC ht mw_4_126 dX11_isLetter_5 ?_
  rw [hT.2.1]
  refine v_icmp_ge hC dX11_isLetter_8 (tgt := 43) (by decide) (fun h8 => ?_) (fun h8 => ?_)
  · have hi := lp_ge h8
    refine v_iconst (v := 0) hC dX11_isLetter_43 (by decide) ?_
    refine v_zret hC (Or.inl rfl) dX11_isLetter_44 ?_
    exact ⟨rfl, Or.inr ⟨fun q => by first | exact absurd q.1 (by omega) | exact q.2.1 h22 | exact q.2.2 h36, rfl⟩⟩
  · have hi := lp_lt h8
    refine v_aload_n hC dX11_isLetter_11 rfl rfl ?_
    refine gf_11_5 hC ht (wf_281 hW ht) mw_4_125 dX11_isLetter_12 ?_
    refine v_aload_n hC dX11_isLetter_15 rfl rfl ?_
    refine gf_11_9 hC ht mw_4_129 dX11_isLetter_16 ?_
    rw [hat]
    refine v_cald 42 hC (wf_281 hW ht) (by decide) (by decide) (ix_c (wz_42 hW (wf_281 hW ht)) (by omega)) dX11_isLetter_19 ?_
    rw [hT.2.2 i hi]
    refine v_bipush (v := 97) hC dX11_isLetter_20 (by decide) ?_
    refine v_icmp_lt hC dX11_isLetter_22 (tgt := 43) (by decide) (fun h22 => ?_) (fun h22 => ?_)
    · refine v_iconst (v := 0) hC dX11_isLetter_43 (by decide) ?_
      refine v_zret hC (Or.inl rfl) dX11_isLetter_44 ?_
      exact ⟨rfl, Or.inr ⟨fun q => by first | exact absurd q.1 (by omega) | exact q.2.1 h22 | exact q.2.2 h36, rfl⟩⟩
    · refine v_aload_n hC dX11_isLetter_25 rfl rfl ?_
      refine gf_11_5 hC ht (wf_281 hW ht) mw_4_125 dX11_isLetter_26 ?_
      refine v_aload_n hC dX11_isLetter_29 rfl rfl ?_
      refine gf_11_9 hC ht mw_4_129 dX11_isLetter_30 ?_
      rw [hat]
      refine v_cald 42 hC (wf_281 hW ht) (by decide) (by decide) (ix_c (wz_42 hW (wf_281 hW ht)) (by omega)) dX11_isLetter_33 ?_
      rw [hT.2.2 i hi]
      refine v_bipush (v := 122) hC dX11_isLetter_34 (by decide) ?_
      refine v_icmp_gt hC dX11_isLetter_36 (tgt := 43) (by decide) (fun h36 => ?_) (fun h36 => ?_)
      · refine v_iconst (v := 0) hC dX11_isLetter_43 (by decide) ?_
        refine v_zret hC (Or.inl rfl) dX11_isLetter_44 ?_
        exact ⟨rfl, Or.inr ⟨fun q => by first | exact absurd q.1 (by omega) | exact q.2.1 h22 | exact q.2.2 h36, rfl⟩⟩
      · refine v_iconst (v := 1) hC dX11_isLetter_39 (by decide) ?_
        refine v_goto hC dX11_isLetter_40 (tgt := 44) (by decide) ?_
        refine v_zret hC (Or.inr rfl) dX11_isLetter_44 ?_
        exact ⟨rfl, Or.inl ⟨⟨hi, h22, h36⟩, rfl⟩⟩
