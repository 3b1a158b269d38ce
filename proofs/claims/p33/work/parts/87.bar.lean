theorem bx_b : ∀ b : Fin 64, ∀ q : Fin 6, ∀ z : Fin 2, ¬ brB (nI b.1) (nI q.1) = nI z.1 → ((nI b.1).toInt64 ^^^ ((1 : Int64) <<< ((nI q.1).toInt64 &&& 63)) = (sbr (nI b.1) (nI q.1) (nI z.1)).toInt64 ∧ sbr (nI b.1) (nI q.1) (nI z.1) = nI (sbr (nI b.1) (nI q.1) (nI z.1)).toNatClampNeg ∧ (sbr (nI b.1) (nI q.1) (nI z.1)).toNatClampNeg < 64) := by decide +kernel
/-- bars go both ways -/
def WfY (u : Si) : Prop := ∀ a b, a < n_p u → b < n_p u → (brd (q_i u 2 a 0) (nI b) ↔ brd (q_i u 2 b 0) (nI a))
theorem bx_u {u : Si} {a b : Nat} {w : Int32} (hB : WfB u) (ha : a < n_p u) (hb : b < 6) (hw : w = 0 ∨ w = 1) (hn : ¬ brB (q_i u 2 a 0) (nI b) = w) : (q_i u 2 a 0).toInt64 ^^^ ((1 : Int64) <<< ((nI b).toInt64 &&& 63)) = (sbr (q_i u 2 a 0) (nI b) w).toInt64 ∧ ∃ k, k < 64 ∧ sbr (q_i u 2 a 0) (nI b) w = nI k := by
  obtain ⟨B, hB1, eB⟩ := hB a ha
  rw [eB] at hn ⊢
  rcases hw with rfl | rfl
  · obtain ⟨q1, q2, q3⟩ := bx_b ⟨B, hB1⟩ ⟨b, hb⟩ 0 hn
    exact ⟨q1, _, q3, q2⟩
  · obtain ⟨q1, q2, q3⟩ := bx_b ⟨B, hB1⟩ ⟨b, hb⟩ 1 hn
    exact ⟨q1, _, q3, q2⟩
theorem brB_s {u : Si} {a b : Nat} (hY : WfY u) (ha : a < n_p u) (hb : b < n_p u) : brB (q_i u 2 a 0) (nI b) = brB (q_i u 2 b 0) (nI a) := by
  have := hY a b ha hb
  unfold brd at this
  unfold brB
  by_cases q : q_i u 2 a 0 >>> (nI b &&& 31) &&& 1 = 1
  · rw [if_pos q, if_pos (this.mp q)]
  · rw [if_neg q, if_neg (fun z => q (this.mpr z))]
set_option maxHeartbeats 4000000 in
set_option maxRecDepth 100000 in
theorem c_X11_bar {l : Launch} {G : Gd} {M : Me} {h : Nat} {x : Xs} {y z w : Int32} (hW : Wt M) (hX : AR M h x) (hB : WfB (x_u x)) (hY : WfY (x_u x)) (hw : w = 0 ∨ w = 1) : CQ (Qi G (fun r M2 => r = (d_bar (x_u x) y z w).1 ∧ AR M2 h (acX x (d_bar (x_u x) y z w).2) ∧ On M M2 ∧ Wt M2 ∧ Ta M M2 h)) l G yX11_bar cX11_bar 4 ((some .int)) 2 43 0 0 [.ref h, .int y, .int z, .int w] M := by
  refine c_of ([some (.ref h), some (.int y), some (.int z), some (.int w)] : Lo) RX11 "bar" (by decide) rfl rfl (Nat.le_of_ble_eq_true rfl) rfl (fun p e s m below meth c hC nw => ?_)
  have ht := hX.1
  have hA := hX.2.1.1
  have u1 := hA.1.1
  have u2 := hA.1.2.1
  have u3 := hA.1.2.2.1
  have u4 := hA.1.2.2.2.1
  have hwz := wz_31 hW (wf_276 hW ht)
  refine v_aload_n hC dX11_bar_0 rfl rfl ?_
  refine v_iload_n hC dX11_bar_1 rfl rfl ?_
  refine cVi1 hC (c_X11_noPerson hW ht hA) yv_X11_noPerson rfl ht mw_4_194 ⟨Nat.le_of_ble_eq_true rfl, Nat.le_of_ble_eq_true rfl⟩ ⟨Nat.le_of_ble_eq_true rfl, Nat.le_of_ble_eq_true rfl⟩ (Nat.le_of_ble_eq_true rfl) dX11_bar_2 (fun r2 M4 hq => ?_)
  obtain ⟨hm, hq2⟩ := hq
  have hm2 := hm.symm
  clear hm
  subst hm2
  obtain ⟨g2, rfl⟩ | ⟨g2, rfl⟩ := hq2
  · refine v_if_ne hC dX11_bar_5 (tgt := 16) (by decide) (fun hx => absurd hx (by decide)) (fun _ => ?_)
    refine v_aload_n hC dX11_bar_8 rfl rfl ?_
    refine v_iload_n hC dX11_bar_9 rfl rfl ?_
    refine cVi1 hC (c_X11_noPerson hW ht hA) yv_X11_noPerson rfl ht mw_4_194 ⟨Nat.le_of_ble_eq_true rfl, Nat.le_of_ble_eq_true rfl⟩ ⟨Nat.le_of_ble_eq_true rfl, Nat.le_of_ble_eq_true rfl⟩ (Nat.le_of_ble_eq_true rfl) dX11_bar_10 (fun r10 M12 hq => ?_)
    obtain ⟨hm, hq2⟩ := hq
    have hm2 := hm.symm
    clear hm
    subst hm2
    obtain ⟨g10, rfl⟩ | ⟨g10, rfl⟩ := hq2
    · refine v_if_eq hC dX11_bar_13 (tgt := 18) (by decide) (fun _ => ?_) (fun hx => absurd hx (by decide))
      obtain ⟨a, ha, rfl⟩ := g2
      obtain ⟨b, hb, rfl⟩ := g10
      refine v_iload_n hC dX11_bar_18 rfl rfl ?_
      refine v_iload_n hC dX11_bar_19 rfl rfl ?_
      refine v_icmp_ne hC dX11_bar_20 (tgt := 26) (by decide) (fun h20 => ?_) (fun h20 => ?_)
      · refine v_aload_n hC dX11_bar_26 rfl rfl ?_
        refine v_iload_n hC dX11_bar_27 rfl rfl ?_
        refine v_iload_n hC dX11_bar_28 rfl rfl ?_
        refine cVi2 hC (c_X11_areBarred hW ht hA hB ha (by omega)) yv_X11_areBarred rfl ht mw_4_198 ⟨Nat.le_of_ble_eq_true rfl, Nat.le_of_ble_eq_true rfl⟩ ⟨Nat.le_of_ble_eq_true rfl, Nat.le_of_ble_eq_true rfl⟩ (Nat.le_of_ble_eq_true rfl) dX11_bar_29 (fun r29 M31 hq => ?_)
        obtain ⟨hm, hq2⟩ := hq
        have hm2 := hm.symm
        clear hm
        subst hm2
        obtain ⟨g29, rfl⟩ | ⟨g29, rfl⟩ := hq2
        · refine v_iload_n hC dX11_bar_32 rfl rfl ?_
          refine v_icmp_ne hC dX11_bar_33 (tgt := 39) (by decide) (fun h33 => ?_) (fun h33 => ?_)
          · have hne : ¬ a = b := fun q => h20 (by rw [q])
            have hbr : ¬ brB (q_i (x_u x) 2 a 0) (nI b) = w := fun q => by
              unfold brB at q
              unfold brd at g29
              first
                | (rw [if_pos g29] at q; exact h33 q)
                | (rw [if_neg g29] at q; exact h33 q)
            obtain ⟨hx1, k9, hk9, ek9⟩ := bx_u hB ha (show b < 6 by omega) hw hbr
            obtain ⟨hx2, -⟩ := bx_u hB hb (show a < 6 by omega) hw (fun q => hbr ((brB_s hY ha hb).trans q))
            refine v_aload_n hC dX11_bar_39 rfl rfl ?_
            refine cVv0 hC (c_X11_record hW hX) yv_X11_record rfl ht mw_4_173 ⟨Nat.le_of_ble_eq_true rfl, Nat.le_of_ble_eq_true rfl⟩ ⟨Nat.le_of_ble_eq_true rfl, Nat.le_of_ble_eq_true rfl⟩ (Nat.le_of_ble_eq_true rfl) dX11_bar_40 (fun M42 hq => ?_)
            obtain ⟨hX9, hOn9, hW9, hTa9⟩ := hq
            have ht9 := hX9.1
            have hL9 := hX9.pu
            have hwz9 := wz_31 hW9 (wf_276 hW9 ht9)
            refine v_aload_n hC dX11_bar_43 rfl rfl ?_
            refine gf_11_0 hC ht9 (wf_276 hW9 ht9) mw_4_120 dX11_bar_44 ?_
            refine v_aload_n hC dX11_bar_47 rfl rfl ?_
            refine v_iload_n hC dX11_bar_48 rfl rfl ?_
            refine cVi1 hC (c_X11_personBy ht9) yv_X11_personBy rfl ht9 mw_4_185 ⟨Nat.le_of_ble_eq_true rfl, Nat.le_of_ble_eq_true rfl⟩ ⟨Nat.le_of_ble_eq_true rfl, Nat.le_of_ble_eq_true rfl⟩ (Nat.le_of_ble_eq_true rfl) dX11_bar_49 (fun r49 M51 hq => ?_)
            obtain ⟨rfl, hm⟩ := hq
            have hm2 := hm.symm
            clear hm
            subst hm2
            refine v_iconst (v := 1) hC dX11_bar_52 (by decide) ?_
            refine v_iadd hC dX11_bar_53 ?_
            rw [show nI (74 + 7 * a) + 1 = nI (74 + 7 * a + 1) from nI_add _ 1]
            refine v_dup2 hC dX11_bar_54 rfl rfl ?_
            refine v_lald 31 hC (wf_276 hW9 ht9) (by decide) (by decide) (ix_c hwz9 (by omega)) dX11_bar_55 ?_
            rw [show m_l M42 31 (m_r M42 276 h 0) (74 + 7 * a + 1) = (q_i (x_u x) 2 a 0).toInt64 from (hL9.1.p3 ha).2.1]
            refine v_lconst (v := 1) hC dX11_bar_56 (by decide) ?_
            refine v_iload_n hC dX11_bar_57 rfl rfl ?_
            refine v_lshl hC dX11_bar_58 ?_
            refine v_lxor hC dX11_bar_59 ?_
            rw [hx1]
            refine v_last 31 hC (wf_276 hW9 ht9) (by decide) (by decide) (ix_c hwz9 (by omega)) dX11_bar_60 ?_
            refine v_aload_n hC dX11_bar_61 rfl rfl ?_
            refine gf_11_0 hC ht9 (wf_276 hW9 ht9) mw_4_120 dX11_bar_62 ?_
            refine v_aload_n hC dX11_bar_65 rfl rfl ?_
            refine v_iload_n hC dX11_bar_66 rfl rfl ?_
            refine cVi1 hC (c_X11_personBy ht9) yv_X11_personBy rfl ht9 mw_4_185 ⟨Nat.le_of_ble_eq_true rfl, Nat.le_of_ble_eq_true rfl⟩ ⟨Nat.le_of_ble_eq_true rfl, Nat.le_of_ble_eq_true rfl⟩ (Nat.le_of_ble_eq_true rfl) dX11_bar_67 (fun r67 M69 hq => ?_)
            obtain ⟨rfl, hm⟩ := hq
            have hm2 := hm.symm
            clear hm
            subst hm2
            refine v_iconst (v := 1) hC dX11_bar_70 (by decide) ?_
            refine v_iadd hC dX11_bar_71 ?_
            rw [show nI (74 + 7 * b) + 1 = nI (74 + 7 * b + 1) from nI_add _ 1]
            refine v_dup2 hC dX11_bar_72 rfl rfl ?_
            refine v_lald 31 hC (wf_276 hW9 ht9) (by decide) (by decide) (ix_c hwz9 (by omega)) dX11_bar_73 ?_
            rw [show m_l (s_l M42 31 (m_r M42 276 h 0) (74 + 7 * a + 1) (sbr (q_i (x_u x) 2 a 0) (nI b) w).toInt64) 31 (m_r (s_l M42 31 (m_r M42 276 h 0) (74 + 7 * a + 1) (sbr (q_i (x_u x) 2 a 0) (nI b) w).toInt64) 276 h 0) (74 + 7 * b + 1) = (q_i (x_u x) 2 b 0).toInt64 from by
              show rwM (s_l M42 31 (m_r M42 276 h 0) (74 + 7 * a + 1) (sbr (q_i (x_u x) 2 a 0) (nI b) w).toInt64) h (74 + 7 * b + 1) = _
              rw [rwM_w, updR_n (by omega)]
              exact (hL9.1.p3 hb).2.1]
            refine v_lconst (v := 1) hC dX11_bar_74 (by decide) ?_
            refine v_iload_n hC dX11_bar_75 rfl rfl ?_
            refine v_lshl hC dX11_bar_76 ?_
            refine v_lxor hC dX11_bar_77 ?_
            rw [hx2]
            refine v_last 31 hC (wf_276 hW9 ht9) (by decide) (by decide) (ix_c hwz9 (by omega)) dX11_bar_78 ?_
            refine v_aload_n hC dX11_bar_79 rfl rfl ?_
            refine v_aload_n hC dX11_bar_80 rfl rfl ?_
            refine v_iload_n hC dX11_bar_81 rfl rfl ?_
            refine cVi1 hC (c_X11_personBy ht9) yv_X11_personBy rfl ht9 mw_4_185 ⟨Nat.le_of_ble_eq_true rfl, Nat.le_of_ble_eq_true rfl⟩ ⟨Nat.le_of_ble_eq_true rfl, Nat.le_of_ble_eq_true rfl⟩ (Nat.le_of_ble_eq_true rfl) dX11_bar_82 (fun r82 M84 hq => ?_)
            obtain ⟨rfl, hm⟩ := hq
            have hm2 := hm.symm
            clear hm
            subst hm2
            refine v_iconst (v := 1) hC dX11_bar_85 (by decide) ?_
            refine v_iadd hC dX11_bar_86 ?_
            rw [show nI (74 + 7 * a) + 1 = nI (74 + 7 * a + 1) from nI_add _ 1]
            have hWe : Wt (s_l (s_l M42 31 (m_r M42 276 h 0) (74 + 7 * a + 1) (sbr (q_i (x_u x) 2 a 0) (nI b) w).toInt64) 31 (m_r (s_l M42 31 (m_r M42 276 h 0) (74 + 7 * a + 1) (sbr (q_i (x_u x) 2 a 0) (nI b) w).toInt64) 276 h 0) (74 + 7 * b + 1) (sbr (q_i (x_u x) 2 b 0) (nI a) w).toInt64) := hW9
            have hte : m_t (s_l (s_l M42 31 (m_r M42 276 h 0) (74 + 7 * a + 1) (sbr (q_i (x_u x) 2 a 0) (nI b) w).toInt64) 31 (m_r (s_l M42 31 (m_r M42 276 h 0) (74 + 7 * a + 1) (sbr (q_i (x_u x) 2 a 0) (nI b) w).toInt64) 276 h 0) (74 + 7 * b + 1) (sbr (q_i (x_u x) 2 b 0) (nI a) w).toInt64) h = 12 := ht9
            refine cVi1 hC (c_X11_number hWe hte (by omega)) yv_X11_number rfl ht9 mw_4_165 ⟨Nat.le_of_ble_eq_true rfl, Nat.le_of_ble_eq_true rfl⟩ ⟨Nat.le_of_ble_eq_true rfl, Nat.le_of_ble_eq_true rfl⟩ (Nat.le_of_ble_eq_true rfl) dX11_bar_87 (fun r87 M89 hq => ?_)
            obtain ⟨rfl, hm⟩ := hq
            have hm2 := hm.symm
            clear hm
            subst hm2
            rw [show (rwM (s_l (s_l M42 31 (m_r M42 276 h 0) (74 + 7 * a + 1) (sbr (q_i (x_u x) 2 a 0) (nI b) w).toInt64) 31 (m_r (s_l M42 31 (m_r M42 276 h 0) (74 + 7 * a + 1) (sbr (q_i (x_u x) 2 a 0) (nI b) w).toInt64) 276 h 0) (74 + 7 * b + 1) (sbr (q_i (x_u x) 2 b 0) (nI a) w).toInt64) h (74 + 7 * a + 1)).toInt32 = nI k9 from by rw [rwM_w, updR_n (by omega), rwM_w, updR_e, Int32.toInt32_toInt64]; exact ek9]
            refine cSi1 hC (c_X11_bits hk9) ys_X11_bits mw_4_202 ⟨Nat.le_of_ble_eq_true rfl, Nat.le_of_ble_eq_true rfl⟩ ⟨Nat.le_of_ble_eq_true rfl, Nat.le_of_ble_eq_true rfl⟩ (Nat.le_of_ble_eq_true rfl) dX11_bar_90 (fun r90 M92 hq => ?_)
            obtain ⟨rfl, hm⟩ := hq
            have hm2 := hm.symm
            clear hm
            subst hm2
            refine v_iret hC dX11_bar_93 ?_
            have hD : d_bar (x_u x) (nI a) (nI b) w = (bcN (sbr (q_i (x_u x) 2 a 0) (nI b) w), some (barU (x_u x) a b w)) := by rw [d_bar, inN_s ha, inN_s hb]; show (if _ then _ else if _ then _ else _) = _; rw [if_neg hne]; exact if_neg hbr
            rw [hD]
            refine ⟨congrArg bcN ek9.symm, Wr.end hX9 (by repeat (first | exact Wr.rf | refine Wr.sl ?_)) hOn9 hW9 hTa9 ?_⟩
            have ca : cpR 2 a 0 := Or.inr (Or.inl ⟨by decide, by decide, by omega, rfl⟩)
            have cb : cpR 2 b 0 := Or.inr (Or.inl ⟨by decide, by decide, by omega, rfl⟩)
            rw [rwM_w, rwM_w, show 74 + 7 * a + 1 = pl 2 a 0 by simp [pl, pB_, pA_, pJ_]; omega, show 74 + 7 * b + 1 = pl 2 b 0 by simp [pl, pB_, pA_, pJ_]; omega]
            have a2 := (hL9.1.w (v := (sbr (q_i (x_u x) 2 a 0) (nI b) w)) 2 a 0 ca (by decide) (by decide)).w (v := (sbr (q_i (x_u x) 2 b 0) (nI a) w)) 2 b 0 cb (by decide) (by decide)
            rw [show eb 2 (sbr (q_i (x_u x) 2 a 0) (nI b) w) = (sbr (q_i (x_u x) 2 a 0) (nI b) w).toInt64 from eb_o (by decide) (by decide), show eb 2 (sbr (q_i (x_u x) 2 b 0) (nI a) w) = (sbr (q_i (x_u x) 2 b 0) (nI a) w).toInt64 from eb_o (by decide) (by decide)] at a2
            have b2 := (hL9.2.off (v := (sbr (q_i (x_u x) 2 a 0) (nI b) w).toInt64) 2 a 0 u2 (Or.inl ca) (by decide)).off (v := (sbr (q_i (x_u x) 2 b 0) (nI a) w).toInt64) 2 b 0 u2 (Or.inl cb) (by decide)
            exact ⟨a2, b2.same ((PdF.i (v := (sbr (q_i (x_u x) 2 a 0) (nI b) w)) 2 a 0 (by decide)).tr (PdF.i (v := (sbr (q_i (x_u x) 2 b 0) (nI a) w)) 2 b 0 (by decide))) rfl⟩
          · refine v_bipush (v := (-5)) hC dX11_bar_36 (by decide) ?_
            refine v_iret hC dX11_bar_38 ?_
            have hD : d_bar (x_u x) (nI a) (nI b) w = (-5, none) := by rw [d_bar, inN_s ha, inN_s hb]; show (if _ then _ else if _ then _ else _) = _; rw [if_neg (fun q => h20 (by rw [q]))]; exact if_pos (by
              unfold brB
              unfold brd at g29
              first
                | (rw [if_pos g29]; exact Decidable.not_not.mp (fun q => q h33))
                | (rw [if_neg g29]; exact Decidable.not_not.mp (fun q => q h33)))
            rw [hD]; exact ⟨rfl, hX, On.rf, hW, Ta.rf⟩
        · refine v_iload_n hC dX11_bar_32 rfl rfl ?_
          refine v_icmp_ne hC dX11_bar_33 (tgt := 39) (by decide) (fun h33 => ?_) (fun h33 => ?_)
          · have hne : ¬ a = b := fun q => h20 (by rw [q])
            have hbr : ¬ brB (q_i (x_u x) 2 a 0) (nI b) = w := fun q => by
              unfold brB at q
              unfold brd at g29
              first
                | (rw [if_pos g29] at q; exact h33 q)
                | (rw [if_neg g29] at q; exact h33 q)
            obtain ⟨hx1, k9, hk9, ek9⟩ := bx_u hB ha (show b < 6 by omega) hw hbr
            obtain ⟨hx2, -⟩ := bx_u hB hb (show a < 6 by omega) hw (fun q => hbr ((brB_s hY ha hb).trans q))
            refine v_aload_n hC dX11_bar_39 rfl rfl ?_
            refine cVv0 hC (c_X11_record hW hX) yv_X11_record rfl ht mw_4_173 ⟨Nat.le_of_ble_eq_true rfl, Nat.le_of_ble_eq_true rfl⟩ ⟨Nat.le_of_ble_eq_true rfl, Nat.le_of_ble_eq_true rfl⟩ (Nat.le_of_ble_eq_true rfl) dX11_bar_40 (fun M42 hq => ?_)
            obtain ⟨hX9, hOn9, hW9, hTa9⟩ := hq
            have ht9 := hX9.1
            have hL9 := hX9.pu
            have hwz9 := wz_31 hW9 (wf_276 hW9 ht9)
            refine v_aload_n hC dX11_bar_43 rfl rfl ?_
            refine gf_11_0 hC ht9 (wf_276 hW9 ht9) mw_4_120 dX11_bar_44 ?_
            refine v_aload_n hC dX11_bar_47 rfl rfl ?_
            refine v_iload_n hC dX11_bar_48 rfl rfl ?_
            refine cVi1 hC (c_X11_personBy ht9) yv_X11_personBy rfl ht9 mw_4_185 ⟨Nat.le_of_ble_eq_true rfl, Nat.le_of_ble_eq_true rfl⟩ ⟨Nat.le_of_ble_eq_true rfl, Nat.le_of_ble_eq_true rfl⟩ (Nat.le_of_ble_eq_true rfl) dX11_bar_49 (fun r49 M51 hq => ?_)
            obtain ⟨rfl, hm⟩ := hq
            have hm2 := hm.symm
            clear hm
            subst hm2
            refine v_iconst (v := 1) hC dX11_bar_52 (by decide) ?_
            refine v_iadd hC dX11_bar_53 ?_
            rw [show nI (74 + 7 * a) + 1 = nI (74 + 7 * a + 1) from nI_add _ 1]
            refine v_dup2 hC dX11_bar_54 rfl rfl ?_
            refine v_lald 31 hC (wf_276 hW9 ht9) (by decide) (by decide) (ix_c hwz9 (by omega)) dX11_bar_55 ?_
            rw [show m_l M42 31 (m_r M42 276 h 0) (74 + 7 * a + 1) = (q_i (x_u x) 2 a 0).toInt64 from (hL9.1.p3 ha).2.1]
            refine v_lconst (v := 1) hC dX11_bar_56 (by decide) ?_
            refine v_iload_n hC dX11_bar_57 rfl rfl ?_
            refine v_lshl hC dX11_bar_58 ?_
            refine v_lxor hC dX11_bar_59 ?_
            rw [hx1]
            refine v_last 31 hC (wf_276 hW9 ht9) (by decide) (by decide) (ix_c hwz9 (by omega)) dX11_bar_60 ?_
            refine v_aload_n hC dX11_bar_61 rfl rfl ?_
            refine gf_11_0 hC ht9 (wf_276 hW9 ht9) mw_4_120 dX11_bar_62 ?_
            refine v_aload_n hC dX11_bar_65 rfl rfl ?_
            refine v_iload_n hC dX11_bar_66 rfl rfl ?_
            refine cVi1 hC (c_X11_personBy ht9) yv_X11_personBy rfl ht9 mw_4_185 ⟨Nat.le_of_ble_eq_true rfl, Nat.le_of_ble_eq_true rfl⟩ ⟨Nat.le_of_ble_eq_true rfl, Nat.le_of_ble_eq_true rfl⟩ (Nat.le_of_ble_eq_true rfl) dX11_bar_67 (fun r67 M69 hq => ?_)
            obtain ⟨rfl, hm⟩ := hq
            have hm2 := hm.symm
            clear hm
            subst hm2
            refine v_iconst (v := 1) hC dX11_bar_70 (by decide) ?_
            refine v_iadd hC dX11_bar_71 ?_
            rw [show nI (74 + 7 * b) + 1 = nI (74 + 7 * b + 1) from nI_add _ 1]
            refine v_dup2 hC dX11_bar_72 rfl rfl ?_
            refine v_lald 31 hC (wf_276 hW9 ht9) (by decide) (by decide) (ix_c hwz9 (by omega)) dX11_bar_73 ?_
            rw [show m_l (s_l M42 31 (m_r M42 276 h 0) (74 + 7 * a + 1) (sbr (q_i (x_u x) 2 a 0) (nI b) w).toInt64) 31 (m_r (s_l M42 31 (m_r M42 276 h 0) (74 + 7 * a + 1) (sbr (q_i (x_u x) 2 a 0) (nI b) w).toInt64) 276 h 0) (74 + 7 * b + 1) = (q_i (x_u x) 2 b 0).toInt64 from by
              show rwM (s_l M42 31 (m_r M42 276 h 0) (74 + 7 * a + 1) (sbr (q_i (x_u x) 2 a 0) (nI b) w).toInt64) h (74 + 7 * b + 1) = _
              rw [rwM_w, updR_n (by omega)]
              exact (hL9.1.p3 hb).2.1]
            refine v_lconst (v := 1) hC dX11_bar_74 (by decide) ?_
            refine v_iload_n hC dX11_bar_75 rfl rfl ?_
            refine v_lshl hC dX11_bar_76 ?_
            refine v_lxor hC dX11_bar_77 ?_
            rw [hx2]
            refine v_last 31 hC (wf_276 hW9 ht9) (by decide) (by decide) (ix_c hwz9 (by omega)) dX11_bar_78 ?_
            refine v_aload_n hC dX11_bar_79 rfl rfl ?_
            refine v_aload_n hC dX11_bar_80 rfl rfl ?_
            refine v_iload_n hC dX11_bar_81 rfl rfl ?_
            refine cVi1 hC (c_X11_personBy ht9) yv_X11_personBy rfl ht9 mw_4_185 ⟨Nat.le_of_ble_eq_true rfl, Nat.le_of_ble_eq_true rfl⟩ ⟨Nat.le_of_ble_eq_true rfl, Nat.le_of_ble_eq_true rfl⟩ (Nat.le_of_ble_eq_true rfl) dX11_bar_82 (fun r82 M84 hq => ?_)
            obtain ⟨rfl, hm⟩ := hq
            have hm2 := hm.symm
            clear hm
            subst hm2
            refine v_iconst (v := 1) hC dX11_bar_85 (by decide) ?_
            refine v_iadd hC dX11_bar_86 ?_
            rw [show nI (74 + 7 * a) + 1 = nI (74 + 7 * a + 1) from nI_add _ 1]
            have hWe : Wt (s_l (s_l M42 31 (m_r M42 276 h 0) (74 + 7 * a + 1) (sbr (q_i (x_u x) 2 a 0) (nI b) w).toInt64) 31 (m_r (s_l M42 31 (m_r M42 276 h 0) (74 + 7 * a + 1) (sbr (q_i (x_u x) 2 a 0) (nI b) w).toInt64) 276 h 0) (74 + 7 * b + 1) (sbr (q_i (x_u x) 2 b 0) (nI a) w).toInt64) := hW9
            have hte : m_t (s_l (s_l M42 31 (m_r M42 276 h 0) (74 + 7 * a + 1) (sbr (q_i (x_u x) 2 a 0) (nI b) w).toInt64) 31 (m_r (s_l M42 31 (m_r M42 276 h 0) (74 + 7 * a + 1) (sbr (q_i (x_u x) 2 a 0) (nI b) w).toInt64) 276 h 0) (74 + 7 * b + 1) (sbr (q_i (x_u x) 2 b 0) (nI a) w).toInt64) h = 12 := ht9
            refine cVi1 hC (c_X11_number hWe hte (by omega)) yv_X11_number rfl ht9 mw_4_165 ⟨Nat.le_of_ble_eq_true rfl, Nat.le_of_ble_eq_true rfl⟩ ⟨Nat.le_of_ble_eq_true rfl, Nat.le_of_ble_eq_true rfl⟩ (Nat.le_of_ble_eq_true rfl) dX11_bar_87 (fun r87 M89 hq => ?_)
            obtain ⟨rfl, hm⟩ := hq
            have hm2 := hm.symm
            clear hm
            subst hm2
            rw [show (rwM (s_l (s_l M42 31 (m_r M42 276 h 0) (74 + 7 * a + 1) (sbr (q_i (x_u x) 2 a 0) (nI b) w).toInt64) 31 (m_r (s_l M42 31 (m_r M42 276 h 0) (74 + 7 * a + 1) (sbr (q_i (x_u x) 2 a 0) (nI b) w).toInt64) 276 h 0) (74 + 7 * b + 1) (sbr (q_i (x_u x) 2 b 0) (nI a) w).toInt64) h (74 + 7 * a + 1)).toInt32 = nI k9 from by rw [rwM_w, updR_n (by omega), rwM_w, updR_e, Int32.toInt32_toInt64]; exact ek9]
            refine cSi1 hC (c_X11_bits hk9) ys_X11_bits mw_4_202 ⟨Nat.le_of_ble_eq_true rfl, Nat.le_of_ble_eq_true rfl⟩ ⟨Nat.le_of_ble_eq_true rfl, Nat.le_of_ble_eq_true rfl⟩ (Nat.le_of_ble_eq_true rfl) dX11_bar_90 (fun r90 M92 hq => ?_)
            obtain ⟨rfl, hm⟩ := hq
            have hm2 := hm.symm
            clear hm
            subst hm2
            refine v_iret hC dX11_bar_93 ?_
            have hD : d_bar (x_u x) (nI a) (nI b) w = (bcN (sbr (q_i (x_u x) 2 a 0) (nI b) w), some (barU (x_u x) a b w)) := by rw [d_bar, inN_s ha, inN_s hb]; show (if _ then _ else if _ then _ else _) = _; rw [if_neg hne]; exact if_neg hbr
            rw [hD]
            refine ⟨congrArg bcN ek9.symm, Wr.end hX9 (by repeat (first | exact Wr.rf | refine Wr.sl ?_)) hOn9 hW9 hTa9 ?_⟩
            have ca : cpR 2 a 0 := Or.inr (Or.inl ⟨by decide, by decide, by omega, rfl⟩)
            have cb : cpR 2 b 0 := Or.inr (Or.inl ⟨by decide, by decide, by omega, rfl⟩)
            rw [rwM_w, rwM_w, show 74 + 7 * a + 1 = pl 2 a 0 by simp [pl, pB_, pA_, pJ_]; omega, show 74 + 7 * b + 1 = pl 2 b 0 by simp [pl, pB_, pA_, pJ_]; omega]
            have a2 := (hL9.1.w (v := (sbr (q_i (x_u x) 2 a 0) (nI b) w)) 2 a 0 ca (by decide) (by decide)).w (v := (sbr (q_i (x_u x) 2 b 0) (nI a) w)) 2 b 0 cb (by decide) (by decide)
            rw [show eb 2 (sbr (q_i (x_u x) 2 a 0) (nI b) w) = (sbr (q_i (x_u x) 2 a 0) (nI b) w).toInt64 from eb_o (by decide) (by decide), show eb 2 (sbr (q_i (x_u x) 2 b 0) (nI a) w) = (sbr (q_i (x_u x) 2 b 0) (nI a) w).toInt64 from eb_o (by decide) (by decide)] at a2
            have b2 := (hL9.2.off (v := (sbr (q_i (x_u x) 2 a 0) (nI b) w).toInt64) 2 a 0 u2 (Or.inl ca) (by decide)).off (v := (sbr (q_i (x_u x) 2 b 0) (nI a) w).toInt64) 2 b 0 u2 (Or.inl cb) (by decide)
            exact ⟨a2, b2.same ((PdF.i (v := (sbr (q_i (x_u x) 2 a 0) (nI b) w)) 2 a 0 (by decide)).tr (PdF.i (v := (sbr (q_i (x_u x) 2 b 0) (nI a) w)) 2 b 0 (by decide))) rfl⟩
          · refine v_bipush (v := (-5)) hC dX11_bar_36 (by decide) ?_
            refine v_iret hC dX11_bar_38 ?_
            have hD : d_bar (x_u x) (nI a) (nI b) w = (-5, none) := by rw [d_bar, inN_s ha, inN_s hb]; show (if _ then _ else if _ then _ else _) = _; rw [if_neg (fun q => h20 (by rw [q]))]; exact if_pos (by
              unfold brB
              unfold brd at g29
              first
                | (rw [if_pos g29]; exact Decidable.not_not.mp (fun q => q h33))
                | (rw [if_neg g29]; exact Decidable.not_not.mp (fun q => q h33)))
            rw [hD]; exact ⟨rfl, hX, On.rf, hW, Ta.rf⟩
      · refine v_bipush (v := (-2)) hC dX11_bar_23 (by decide) ?_
        refine v_iret hC dX11_bar_25 ?_
        have hD : d_bar (x_u x) (nI a) (nI b) w = (-2, none) := by rw [d_bar, inN_s ha, inN_s hb]; exact if_pos ((nI_eq (by omega) (by omega)).mp (Decidable.not_not.mp (fun q => q h20)))
        rw [hD]; exact ⟨rfl, hX, On.rf, hW, Ta.rf⟩
    · refine v_if_eq hC dX11_bar_13 (tgt := 18) (by decide) (fun hx => absurd hx (by decide)) (fun _ => ?_)
      refine v_iconst (v := (-1)) hC dX11_bar_16 (by decide) ?_
      refine v_iret hC dX11_bar_17 ?_
      first
        | (have hD : d_bar (x_u x) y z w = (-1, none) := by rw [d_bar, inN_o g2]
           rw [hD]; exact ⟨rfl, hX, On.rf, hW, Ta.rf⟩)
        | (have hD : d_bar (x_u x) y z w = (-1, none) := by
             rw [d_bar, inN_o g10]
             split
             · rename_i q; cases q
             · rfl
           rw [hD]; exact ⟨rfl, hX, On.rf, hW, Ta.rf⟩)
  · refine v_if_ne hC dX11_bar_5 (tgt := 16) (by decide) (fun _ => ?_) (fun hx => absurd hx (by decide))
    refine v_iconst (v := (-1)) hC dX11_bar_16 (by decide) ?_
    refine v_iret hC dX11_bar_17 ?_
    first
      | (have hD : d_bar (x_u x) y z w = (-1, none) := by rw [d_bar, inN_o g2]
         rw [hD]; exact ⟨rfl, hX, On.rf, hW, Ta.rf⟩)
      | (have hD : d_bar (x_u x) y z w = (-1, none) := by
           rw [d_bar, inN_o g10]
           split
           · rename_i q; cases q
           · rfl
         rw [hD]; exact ⟨rfl, hX, On.rf, hW, Ta.rf⟩)
