abbrev rdM (M : Me) (h : Nat) : Nat → Int64 := fun p => m_l M 34 (m_r M 283 h 0) p
set_option maxHeartbeats 4000000 in
set_option maxRecDepth 100000 in
theorem c_X11_lay {l : Launch} {G : Gd} {M : Me} {h j a : Nat} (hW : Wt M) (ht : m_t M h = 12) (hj : j < 30) (ha : a + 9 ≤ 1662) : CQ (Qv G (fun M2 => Qd M M2 ∧ Wr M M2 h ∧ ∀ q, rwM M2 h q = if a ≤ q ∧ q < a + 9 then rdM M h (11 * j + (q - a)) else rwM M h q)) l G yX11_lay cX11_lay 4 (none) 0 0 0 0 [.ref h, .int (nI j), .int (nI a)] M := by
  refine c_of ([some (.ref h), some (.int (nI j)), some (.int (nI a)), none] : Lo) RX11 "lay" (by decide) rfl rfl (Nat.le_of_ble_eq_true rfl) rfl (fun p e s m below meth c hC nw => ?_)
  have loop : ∀ (k i : Nat) (M1 : Me), i + k = 10 → i ≤ 9 → Qd M M1 → Wr M M1 h → (∀ q, rwM M1 h q = if a ≤ q ∧ q < a + i then rdM M h (11 * j + (q - a)) else rwM M h q) → V p l e (rmk 0 0 0 0) s m ([.ref h, .int (nI j), .int (nI a)] : List Value).toArray below meth c 4 G (MQ below (Qv G (fun M2 => Qd M M2 ∧ Wr M M2 h ∧ ∀ q, rwM M2 h q = if a ≤ q ∧ q < a + 9 then rdM M h (11 * j + (q - a)) else rwM M h q)) ([.ref h, .int (nI j), .int (nI a)] : List Value).toArray s 0 0 (fr_ G)) M1 0 0 2 ([some (.ref h), some (.int (nI j)), some (.int (nI a)), some (.int (nI i))] : Lo) [] := by
    intro k
    induction k with
    | zero => intro i M1 w1 w2; omega
    | succ k ih =>
      intro i M1 w1 w2 hB hw hr
      obtain ⟨b9, rfl⟩ := hB
      have hW : Wt (s_q M b9) := hW
      have ht : m_t (s_q M b9) h = 12 := ht
      refine v_iload_n hC dX11_lay_2 rfl rfl ?_
      refine v_bipush (v := 9) hC dX11_lay_3 (by decide) ?_
      refine v_icmp_ge hC dX11_lay_5 (tgt := 33) (by decide) (fun h5 => ?_) (fun h5 => ?_)
      · have hi := lp_ge (N := 9) h5
        refine v_vret hC dX11_lay_33 ?_
        have hie : i = 9 := by omega
        subst hie
        exact ⟨⟨b9, rfl⟩, hw, hr⟩
      · have hi := lp_lt (N := 9) h5
        refine v_aload_n hC dX11_lay_8 rfl rfl ?_
        refine gf_11_0 hC ht (wf_276 hW ht) mw_4_120 dX11_lay_9 ?_
        refine v_iload_n hC dX11_lay_12 rfl rfl ?_
        refine v_iload_n hC dX11_lay_13 rfl rfl ?_
        refine v_iadd hC dX11_lay_14 ?_
        rw [nI_add]
        refine v_aload_n hC dX11_lay_15 rfl rfl ?_
        refine gf_11_7 hC ht (wf_283 hW ht) mw_4_127 dX11_lay_16 ?_
        refine v_bipush (v := 11) hC dX11_lay_19 (by decide) ?_
        refine v_iload_n hC dX11_lay_21 rfl rfl ?_
        refine v_imul hC dX11_lay_22 ?_
        rw [show 11 * nI j = nI (11 * j) from nI_ml 11 j]
        refine v_iload_n hC dX11_lay_23 rfl rfl ?_
        refine v_iadd hC dX11_lay_24 ?_
        rw [nI_add]
        refine v_lald 34 hC (wf_283 hW ht) (by decide) (by decide) (ix_c (wz_34 hW (wf_283 hW ht)) (by omega)) dX11_lay_25 ?_
        refine v_last 31 hC (wf_276 hW ht) (by decide) (by decide) (ix_c (wz_31 hW (wf_276 hW ht)) (by omega)) dX11_lay_26 ?_
        refine v_inc3 hC dX11_lay_27 ((nI_succ i).symm) (by decide) (kk := ?_)
        refine v_goto hC dX11_lay_30 (tgt := 2) (by decide) ?_
        refine ih (i + 1) _ (by omega) (by omega) (Qd.tr ⟨b9, rfl⟩ (Qd.sl (Or.inl rfl))) hw.sl (fun q => ?_)
        rw [show rwM (s_l (s_q M b9) 31 (m_r (s_q M b9) 276 h 0) (a + i) (m_l (s_q M b9) 34 (m_r (s_q M b9) 283 h 0) (11 * j + i))) h q = updR (rwM (s_q M b9) h) (a + i) (m_l (s_q M b9) 34 (m_r (s_q M b9) 283 h 0) (11 * j + i)) q from congrFun rwM_w q]
        by_cases w : q = a + i
        · rw [w, updR_e, if_pos (by omega), show a + i - a = i by omega]; rfl
        · rw [updR_n w, hr q]
          by_cases w2 : a ≤ q ∧ q < a + i
          · rw [if_pos w2, if_pos (by omega)]
          · rw [if_neg w2, if_neg (by omega)]
  refine v_iconst (v := 0) hC dX11_lay_0 (by decide) ?_
  refine v_ist3 hC dX11_lay_1 (by decide) (kk := ?_)
  exact loop 10 0 M (by omega) (by omega) Qd.rf Wr.rf (fun q => (if_neg (by omega)).symm)
