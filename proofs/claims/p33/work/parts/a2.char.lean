theorem txS_len : ∀ (g : Sg), (∀ w ∈ g, gWord w) → (txS g).length ≤ 9 * g.length
  | [], _ => Nat.le_refl _
  | [w], h => by
    have := (h w (by simp)).2.1
    show (w.map (96 + ·)).length ≤ 9 * 1
    rw [List.length_map]; omega
  | w :: v :: g, h => by
    have h1 := (h w (by simp)).2.1
    have h2 := txS_len (v :: g) (fun x hx => h x (List.mem_cons_of_mem _ hx))
    show (w.map (96 + ·) ++ 32 :: txS (v :: g)).length ≤ 9 * (v :: g).length + 9
    rw [List.length_append, List.length_map, List.length_cons]
    omega
theorem eca_1 {u : Si} {x y z : Int32} (c : capU u) (h : ¬ sgI u x y) : e_charAt u x y z = -1 := by
  have c1 := c.1
  rw [e_charAt]
  by_cases w1 : rgI x (n_f u)
  · obtain ⟨f, hf, rfl⟩ := w1
    have c2 := c.2.2.2.2 f hf
    rw [inN_s hf]
    by_cases w2 : rgI y (n_s u f)
    · obtain ⟨t, ht9s, rfl⟩ := w2
      exact absurd ⟨f, t, hf, ht9s, rfl, rfl⟩ h
    · show (match inN y (n_s u f) with | none => _ | some s => _) = _
      rw [inN_o w2 (by omega)]
  · rw [inN_o w1]
theorem eca_r {u : Si} {f s0 : Nat} {z : Int32} (c : capU u) (hf : f < n_f u) (hs : s0 < n_s u f) : e_charAt u (nI f) (nI s0) z = if z < 0 then -2 else match inN z (txS (q_g u 0 f s0)).length with
      | some i => nI ((txS (q_g u 0 f s0)).getD i 0)
      | none => -5 := by
  have c1 := c.1
  have c2 := c.2.2.2.2 f hf
  rw [e_charAt, inN_s hf]
  show (match inN (nI s0) (n_s u f) with | none => _ | some s => _) = _
  rw [inN_s hs (by omega)]
  rfl
theorem eca_n {u : Si} {f s0 zz : Nat} (c : capU u) (hf : f < n_f u) (hs : s0 < n_s u f) (hg : gSeg (q_g u 0 f s0)) (hz : zz < 2 ^ 31) : e_charAt u (nI f) (nI s0) (nI zz) = chr (q_g u 0 f s0) zz := by
  have hl := txS_len _ hg.2.2
  have h8 := hg.2.1
  rw [eca_r c hf hs, if_neg (nI_n0 hz)]
  unfold chr
  by_cases q : zz < (txS (q_g u 0 f s0)).length
  · rw [inN_s q (by omega), if_pos q]
  · rw [inN_o (fun ⟨j, hj, e⟩ => q (by rw [(nI_eq hz (by omega)).mp e]; exact hj)) (by omega), if_neg q]
theorem nn_of {z : Int32} (h : ¬ z < 0) : ∃ zz, zz < 2 ^ 31 ∧ z = nI zz := nI_of h
theorem nI_m1 (n : Nat) : nI n - (nI n + 1) = -1 := by
  rw [Int32.sub_eq_add_neg, Int32.neg_add, Int32.sub_eq_add_neg, ← Int32.add_assoc, Int32.add_right_neg, Int32.zero_add]
set_option maxHeartbeats 4000000 in
set_option maxRecDepth 100000 in
theorem c_X11_charAt {l : Launch} {G : Gd} {M : Me} {h : Nat} {u : Si} {y z w : Int32} (hW : Wt M) (ht : m_t M h = 12) (hA : LA (rwM M h) u) : CQ (Qi G (fun r M2 => r = e_charAt u y z w ∧ Bd M M2)) l G yX11_charAt cX11_charAt 8 ((some .int)) 3 65 0 0 [.ref h, .int y, .int z, .int w] M := by
  refine c_of ([some (.ref h), some (.int y), some (.int z), some (.int w), none, none, none, none] : Lo) RX11 "charAt" (by decide) rfl rfl (Nat.le_of_ble_eq_true rfl) rfl (fun p e s m below meth c hC nw => ?_)
  have u1 := hA.1.1
  have u2 := hA.1.2.1
  have u3 := hA.1.2.2.1
  have u4 := hA.1.2.2.2.1
  have hwz := wz_31 hW (wf_276 hW ht)
  have loop : ∀ (f s0 zz : Nat), f < n_f u → s0 < n_s u f → y = nI f → z = nI s0 → w = nI zz → zz < 2 ^ 31 → ∀ (j k zl : Nat), k + j = 10 → k ≤ (q_g u 0 f s0).length → zl < 2 ^ 31 → chr (q_g u 0 f s0) zz = chr ((q_g u 0 f s0).drop k) zl → V p l e (rmk 3 65 0 0) s m ([.ref h, .int y, .int z, .int w] : List Value).toArray below meth c 8 G (MQ below (Qi G (fun r M2 => r = e_charAt u y z w ∧ Bd M M2)) ([.ref h, .int y, .int z, .int w] : List Value).toArray s 0 0 (fr_ G)) M 0 0 32 ([some (.ref h), some (.int (nI f)), some (.int (nI s0)), some (.int (nI zz)), some (.int (nI (606 + 11 * (12 * f + s0)))), some (.int (nI zl)), some (.int (nI k)), none] : Lo) [] := by
    intro f s0 zz hf hs0 ey ez ew hzz j
    subst ey
    subst ez
    subst ew
    have h12f := hA.1.2.2.2.2 f hf
    have hsg := hA.sg hf hs0
    have h8 := hsg.1.2.1
    induction j with
    | zero => intro k zl w1 w2; omega
    | succ j ih =>
      intro k zl w1 w2 hzl hchr
      have hkl := (gD_w hsg.1 k).1
      refine v_iload hC dX11_charAt_32 rfl ?_
      refine v_i2l hC dX11_charAt_34 ?_
      rw [nI_l (by omega)]
      refine v_aload_n hC dX11_charAt_35 rfl rfl ?_
      refine gf_11_0 hC ht (wf_276 hW ht) mw_4_120 dX11_charAt_36 ?_
      refine v_iload hC dX11_charAt_39 rfl ?_
      refine v_iconst (v := 0) hC dX11_charAt_41 (by decide) ?_
      refine v_iadd hC dX11_charAt_42 ?_
      rw [show nI (606 + 11 * (12 * f + s0)) + 0 = nI (606 + 11 * (12 * f + s0)) from nI_add _ 0]
      refine v_lald 31 hC (wf_276 hW ht) (by decide) (by decide) (ix_c hwz (by omega)) dX11_charAt_43 ?_
      rw [show m_l M 31 (m_r M 276 h 0) (606 + 11 * (12 * f + s0)) = lN (q_g u 0 f s0).length from hsg.n0]
      refine v_lcmp hC dX11_charAt_44 ?_
      refine v_if_ge hC dX11_charAt_45 (tgt := 141) (by decide) (fun h45 => ?_) (fun h45 => ?_)
      · have hk := lc_ge h45
        refine v_bipush (v := (-5)) hC dX11_charAt_141 (by decide) ?_
        refine v_iret hC dX11_charAt_143 ?_
        have hke : k = (q_g u 0 f s0).length := by omega
        exact ⟨by rw [eca_n hA.1 hf hs0 hsg.1 hzz, hchr, hke, List.drop_length, chr_n], Bd.rf⟩
      · have hk := lc_lt h45
        refine v_aload_n hC dX11_charAt_48 rfl rfl ?_
        refine gf_11_0 hC ht (wf_276 hW ht) mw_4_120 dX11_charAt_49 ?_
        refine v_iload hC dX11_charAt_52 rfl ?_
        refine v_iconst (v := 1) hC dX11_charAt_54 (by decide) ?_
        refine v_iadd hC dX11_charAt_55 ?_
        rw [show nI (606 + 11 * (12 * f + s0)) + 1 = nI (606 + 11 * (12 * f + s0) + 1) from nI_add _ 1]
        refine v_iload hC dX11_charAt_56 rfl ?_
        refine v_iadd hC dX11_charAt_58 ?_
        rw [nI_add]
        refine v_lald 31 hC (wf_276 hW ht) (by decide) (by decide) (ix_c hwz (by omega)) dX11_charAt_59 ?_
        rw [show m_l M 31 (m_r M 276 h 0) (606 + 11 * (12 * f + s0) + 1 + k) = _ from hsg.wd (show k < 8 by omega)]
        refine cSi1 hC (c_X11_lettersOf (gD_w hsg.1 k).1 (gD_w hsg.1 k).2) ys_X11_lettersOf mw_5_217 ⟨Nat.le_of_ble_eq_true rfl, Nat.le_of_ble_eq_true rfl⟩ ⟨Nat.le_of_ble_eq_true rfl, Nat.le_of_ble_eq_true rfl⟩ (Nat.le_of_ble_eq_true rfl) dX11_charAt_60 (fun r60 M62 hq => ?_)
        obtain ⟨rfl, hm⟩ := hq
        have hm2 := hm.symm
        clear hm
        subst hm2
        refine v_ist7 hC dX11_charAt_63 (by decide) (kk := ?_)
        refine v_iload hC dX11_charAt_65 rfl ?_
        refine v_iload hC dX11_charAt_67 rfl ?_
        refine v_icmp_ge hC dX11_charAt_69 (tgt := 90) (by decide) (fun h69 => ?_) (fun h69 => ?_)
        · have hzk := lp_ge h69
          refine v_iload hC dX11_charAt_90 rfl ?_
          refine v_iload hC dX11_charAt_92 rfl ?_
          refine v_icmp_ne hC dX11_charAt_94 (tgt := 118) (by decide) (fun h94 => ?_) (fun h94 => ?_)
          · by_cases wz : zl = ((q_g u 0 f s0).getD k []).length
            · have hfin : chr (q_g u 0 f s0) zz = -5 := by
                rw [hchr, chr_d hk zl, if_neg (by omega), if_neg (fun q => by
                  have q2 := q.2
                  first
                    | omega
                    | exact absurd (congrArg nI q.1) h94), if_pos (by omega)]
              refine v_iload hC dX11_charAt_118 rfl ?_
              refine v_iload hC dX11_charAt_120 rfl ?_
              refine v_iconst (v := 1) hC dX11_charAt_122 (by decide) ?_
              refine v_iadd hC dX11_charAt_123 ?_
              refine v_isub hC dX11_charAt_124 ?_
              rw [wz, show nI ((q_g u 0 f s0).getD k []).length - (nI ((q_g u 0 f s0).getD k []).length + 1) = -1 from nI_m1 _]
              refine v_ist5 hC dX11_charAt_125 (by decide) (kk := ?_)
              refine v_iload hC dX11_charAt_127 rfl ?_
              refine v_if_ge hC dX11_charAt_129 (tgt := 135) (by decide) (fun hx => absurd hx (by decide)) (fun _ => ?_)
              refine v_bipush (v := (-5)) hC dX11_charAt_132 (by decide) ?_
              refine v_iret hC dX11_charAt_134 ?_
              exact ⟨by rw [eca_n hA.1 hf hs0 hsg.1 hzz, hfin], Bd.rf⟩
            · refine v_iload hC dX11_charAt_118 rfl ?_
              refine v_iload hC dX11_charAt_120 rfl ?_
              refine v_iconst (v := 1) hC dX11_charAt_122 (by decide) ?_
              refine v_iadd hC dX11_charAt_123 ?_
              rw [← nI_succ]
              refine v_isub hC dX11_charAt_124 ?_
              rw [nI_sb (by omega)]
              refine v_ist5 hC dX11_charAt_125 (by decide) (kk := ?_)
              refine v_iload hC dX11_charAt_127 rfl ?_
              refine v_if_ge hC dX11_charAt_129 (tgt := 135) (by decide) (fun h129 => ?_) (fun h129 => absurd (nI_le (a := 0) (Nat.zero_le _) (by omega)) h129)
              refine v_inc6 hC dX11_charAt_135 ((nI_succ k).symm) (by decide) (kk := ?_)
              refine v_goto hC dX11_charAt_138 (tgt := 32) (by decide) ?_
              refine v_drop 7 ?_
              exact ih (k + 1) (zl - (((q_g u 0 f s0).getD k []).length + 1)) (by omega) (by omega) (by omega) (by rw [hchr, chr_d hk zl, if_neg (by omega), if_neg (by omega), if_neg (by omega)])
          · have h94 : zl = ((q_g u 0 f s0).getD k []).length := (nI_eq (by omega) (by omega)).mp h94
            refine v_iload hC dX11_charAt_97 rfl ?_
            refine v_iconst (v := 1) hC dX11_charAt_99 (by decide) ?_
            refine v_iadd hC dX11_charAt_100 ?_
            rw [← nI_succ]
            refine v_i2l hC dX11_charAt_101 ?_
            rw [nI_l (by omega)]
            refine v_aload_n hC dX11_charAt_102 rfl rfl ?_
            refine gf_11_0 hC ht (wf_276 hW ht) mw_4_120 dX11_charAt_103 ?_
            refine v_iload hC dX11_charAt_106 rfl ?_
            refine v_iconst (v := 0) hC dX11_charAt_108 (by decide) ?_
            refine v_iadd hC dX11_charAt_109 ?_
            rw [show nI (606 + 11 * (12 * f + s0)) + 0 = nI (606 + 11 * (12 * f + s0)) from nI_add _ 0]
            refine v_lald 31 hC (wf_276 hW ht) (by decide) (by decide) (ix_c hwz (by omega)) dX11_charAt_110 ?_
            rw [show m_l M 31 (m_r M 276 h 0) (606 + 11 * (12 * f + s0)) = lN (q_g u 0 f s0).length from hsg.n0]
            refine v_lcmp hC dX11_charAt_111 ?_
            refine v_if_ge hC dX11_charAt_112 (tgt := 118) (by decide) (fun h112 => ?_) (fun h112 => ?_)
            · have hk1 := lc_ge h112
              by_cases wz : zl = ((q_g u 0 f s0).getD k []).length
              · have hfin : chr (q_g u 0 f s0) zz = -5 := by
                  rw [hchr, chr_d hk zl, if_neg (by omega), if_neg (fun q => by
                    have q2 := q.2
                    first
                      | omega
                      | exact absurd (congrArg nI q.1) h94), if_pos (by omega)]
                refine v_iload hC dX11_charAt_118 rfl ?_
                refine v_iload hC dX11_charAt_120 rfl ?_
                refine v_iconst (v := 1) hC dX11_charAt_122 (by decide) ?_
                refine v_iadd hC dX11_charAt_123 ?_
                refine v_isub hC dX11_charAt_124 ?_
                rw [wz, show nI ((q_g u 0 f s0).getD k []).length - (nI ((q_g u 0 f s0).getD k []).length + 1) = -1 from nI_m1 _]
                refine v_ist5 hC dX11_charAt_125 (by decide) (kk := ?_)
                refine v_iload hC dX11_charAt_127 rfl ?_
                refine v_if_ge hC dX11_charAt_129 (tgt := 135) (by decide) (fun hx => absurd hx (by decide)) (fun _ => ?_)
                refine v_bipush (v := (-5)) hC dX11_charAt_132 (by decide) ?_
                refine v_iret hC dX11_charAt_134 ?_
                exact ⟨by rw [eca_n hA.1 hf hs0 hsg.1 hzz, hfin], Bd.rf⟩
              · refine v_iload hC dX11_charAt_118 rfl ?_
                refine v_iload hC dX11_charAt_120 rfl ?_
                refine v_iconst (v := 1) hC dX11_charAt_122 (by decide) ?_
                refine v_iadd hC dX11_charAt_123 ?_
                rw [← nI_succ]
                refine v_isub hC dX11_charAt_124 ?_
                rw [nI_sb (by omega)]
                refine v_ist5 hC dX11_charAt_125 (by decide) (kk := ?_)
                refine v_iload hC dX11_charAt_127 rfl ?_
                refine v_if_ge hC dX11_charAt_129 (tgt := 135) (by decide) (fun h129 => ?_) (fun h129 => absurd (nI_le (a := 0) (Nat.zero_le _) (by omega)) h129)
                refine v_inc6 hC dX11_charAt_135 ((nI_succ k).symm) (by decide) (kk := ?_)
                refine v_goto hC dX11_charAt_138 (tgt := 32) (by decide) ?_
                refine v_drop 7 ?_
                exact ih (k + 1) (zl - (((q_g u 0 f s0).getD k []).length + 1)) (by omega) (by omega) (by omega) (by rw [hchr, chr_d hk zl, if_neg (by omega), if_neg (by omega), if_neg (by omega)])
            · have hk1 := lc_lt h112
              refine v_bipush (v := 32) hC dX11_charAt_115 (by decide) ?_
              refine v_iret hC dX11_charAt_117 ?_
              exact ⟨by rw [eca_n hA.1 hf hs0 hsg.1 hzz, hchr, chr_d hk zl, if_neg (by omega), if_pos ⟨h94, hk1⟩], Bd.rf⟩
        · have hzk := lp_lt h69
          refine v_aload_n hC dX11_charAt_72 rfl rfl ?_
          refine gf_11_0 hC ht (wf_276 hW ht) mw_4_120 dX11_charAt_73 ?_
          refine v_iload hC dX11_charAt_76 rfl ?_
          refine v_iconst (v := 1) hC dX11_charAt_78 (by decide) ?_
          refine v_iadd hC dX11_charAt_79 ?_
          rw [show nI (606 + 11 * (12 * f + s0)) + 1 = nI (606 + 11 * (12 * f + s0) + 1) from nI_add _ 1]
          refine v_iload hC dX11_charAt_80 rfl ?_
          refine v_iadd hC dX11_charAt_82 ?_
          rw [nI_add]
          refine v_lald 31 hC (wf_276 hW ht) (by decide) (by decide) (ix_c hwz (by omega)) dX11_charAt_83 ?_
          rw [show m_l M 31 (m_r M 276 h 0) (606 + 11 * (12 * f + s0) + 1 + k) = _ from hsg.wd (show k < 8 by omega)]
          refine v_iload hC dX11_charAt_84 rfl ?_
          refine cSi2 hC (c_X11_letter (gD_w hsg.1 k).1 (gD_w hsg.1 k).2 hzk) ys_X11_letter mw_5_220 ⟨Nat.le_of_ble_eq_true rfl, Nat.le_of_ble_eq_true rfl⟩ ⟨Nat.le_of_ble_eq_true rfl, Nat.le_of_ble_eq_true rfl⟩ (Nat.le_of_ble_eq_true rfl) dX11_charAt_86 (fun r86 M88 hq => ?_)
          obtain ⟨rfl, hm⟩ := hq
          have hm2 := hm.symm
          clear hm
          subst hm2
          refine v_iret hC dX11_charAt_89 ?_
          exact ⟨by rw [eca_n hA.1 hf hs0 hsg.1 hzz, hchr, chr_d hk zl, if_pos hzk], Bd.rf⟩
  refine v_aload_n hC dX11_charAt_0 rfl rfl ?_
  refine v_iload_n hC dX11_charAt_1 rfl rfl ?_
  refine v_iload_n hC dX11_charAt_2 rfl rfl ?_
  refine cVi2 hC (c_X11_noSegment hW ht hA) yv_X11_noSegment rfl ht mw_5_123 ⟨Nat.le_of_ble_eq_true rfl, Nat.le_of_ble_eq_true rfl⟩ ⟨Nat.le_of_ble_eq_true rfl, Nat.le_of_ble_eq_true rfl⟩ (Nat.le_of_ble_eq_true rfl) dX11_charAt_3 (fun r3 M5 hq => ?_)
  obtain ⟨hm, hq2⟩ := hq
  have hm2 := hm.symm
  clear hm
  subst hm2
  obtain ⟨g3, rfl⟩ | ⟨g3, rfl⟩ := hq2
  · refine v_if_eq hC dX11_charAt_6 (tgt := 11) (by decide) (fun _ => ?_) (fun hx => absurd hx (by decide))
    obtain ⟨f, s0, hf, hs0, rfl, rfl⟩ := g3
    have h12f := hA.1.2.2.2.2 f hf
    refine v_iload_n hC dX11_charAt_11 rfl rfl ?_
    refine v_if_ge hC dX11_charAt_12 (tgt := 18) (by decide) (fun h12 => ?_) (fun h12 => ?_)
    · have h12 : ¬ w < 0 := Int32.not_lt.mpr h12
      obtain ⟨zz, hzz, rfl⟩ := nn_of h12
      refine v_aload_n hC dX11_charAt_18 rfl rfl ?_
      refine v_iload_n hC dX11_charAt_19 rfl rfl ?_
      refine v_iload_n hC dX11_charAt_20 rfl rfl ?_
      refine cVi2 hC (c_X11_segmentAt ht) yv_X11_segmentAt rfl ht mw_5_19 ⟨Nat.le_of_ble_eq_true rfl, Nat.le_of_ble_eq_true rfl⟩ ⟨Nat.le_of_ble_eq_true rfl, Nat.le_of_ble_eq_true rfl⟩ (Nat.le_of_ble_eq_true rfl) dX11_charAt_21 (fun r21 M23 hq => ?_)
      obtain ⟨rfl, hm⟩ := hq
      have hm2 := hm.symm
      clear hm
      subst hm2
      refine v_ist4 hC dX11_charAt_24 (by decide) (kk := ?_)
      refine v_iload_n hC dX11_charAt_26 rfl rfl ?_
      refine v_ist5 hC dX11_charAt_27 (by decide) (kk := ?_)
      refine v_iconst (v := 0) hC dX11_charAt_29 (by decide) ?_
      refine v_ist6 hC dX11_charAt_30 (by decide) (kk := ?_)
      exact loop f s0 zz hf hs0 rfl rfl rfl hzz 10 0 zz (by omega) (by omega) hzz rfl
    · have h12 : w < 0 := Int32.not_le.mp h12
      refine v_bipush (v := (-2)) hC dX11_charAt_15 (by decide) ?_
      refine v_iret hC dX11_charAt_17 ?_
      exact ⟨by rw [eca_r hA.1 hf hs0, if_pos h12], Bd.rf⟩
  · refine v_if_eq hC dX11_charAt_6 (tgt := 11) (by decide) (fun hx => absurd hx (by decide)) (fun _ => ?_)
    refine v_iconst (v := (-1)) hC dX11_charAt_9 (by decide) ?_
    refine v_iret hC dX11_charAt_10 ?_
    exact ⟨(eca_1 hA.1 g3).symm, Bd.rf⟩
