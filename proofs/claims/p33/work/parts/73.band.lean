set_option maxHeartbeats 4000000 in
set_option maxRecDepth 100000 in
theorem c_X11_apart {l : Launch} {G : Gd} {M : Me} {h a b : Nat} {g1 g2 : Sg} (hW : Wt M) (ht : m_t M h = 12) (h1 : SgN (fun i => rwM M h (a + i)) g1) (h2 : SgN (fun i => rwM M h (b + i)) g2) (ha : a + 9 ≤ 1662) (hb : b + 9 ≤ 1662) : CQ (Qi G (fun r M2 => r = nI (dst g1 g2) ∧ Bd M M2)) l G yX11_apart cX11_apart 8 ((some .int)) 1 23 0 0 [.ref h, .int (nI a), .int (nI b)] M := by
  refine c_of ([some (.ref h), some (.int (nI a)), some (.int (nI b)), none, none, none, none, none] : Lo) RX11 "apart" (by decide) rfl rfl (Nat.le_of_ble_eq_true rfl) rfl (fun p e s m below meth c hC nw => ?_)
  have hwz := wz_31 hW (wf_276 hW ht)
  have b1 := h1.1.2.1
  have b2 := h2.1.2.1
  have b3 := h1.1.1
  have b4 := h2.1.1
  have hab := h1.1.2.1
  have loopD : ∀ (w : Nat), w < g1.length → (∀ M1 : Me, Bd M M1 → (∀ j, j ≤ g2.length → m_i M1 26 (m_r M1 286 h 0) j = nI (dm (eqW g1 g2) (w + 1) j)) → V p l e (rmk 1 23 0 0) s m ([.ref h, .int (nI a), .int (nI b)] : List Value).toArray below meth c 8 G (MQ below (Qi G (fun r M2 => r = nI (dst g1 g2) ∧ Bd M M2)) ([.ref h, .int (nI a), .int (nI b)] : List Value).toArray s 0 0 (fr_ G)) M1 0 0 184 ([some (.ref h), some (.int (nI a)), some (.int (nI b)), some (.int (nI g1.length)), some (.int (nI g2.length)), some (.int (nI (w + 1))), none, none] : Lo) []) → ∀ (k i : Nat) (M1 : Me), i + k = 10 → i ≤ g2.length + 1 → Bd M M1 → (∀ j, j < i → m_i M1 26 (m_r M1 286 h 0) j = nI (dm (eqW g1 g2) (w + 1) j)) → (∀ j, j ≤ g2.length → m_i M1 27 (m_r M1 287 h 0) j = nI (dm (eqW g1 g2) (w + 1) j)) → V p l e (rmk 1 23 0 0) s m ([.ref h, .int (nI a), .int (nI b)] : List Value).toArray below meth c 8 G (MQ below (Qi G (fun r M2 => r = nI (dst g1 g2) ∧ Bd M M2)) ([.ref h, .int (nI a), .int (nI b)] : List Value).toArray s 0 0 (fr_ G)) M1 0 0 157 ([some (.ref h), some (.int (nI a)), some (.int (nI b)), some (.int (nI g1.length)), some (.int (nI g2.length)), some (.int (nI (w + 1))), some (.int (nI i)), none] : Lo) [] := by
    intro w hw cont k
    induction k with
    | zero => intro i M1 w1 w2; omega
    | succ k ih =>
      intro i M1 w1 w2 hB hr hs
      obtain ⟨b9, rfl⟩ := hB
      have hW : Wt (s_d M b9) := hW
      have ht : m_t (s_d M b9) h = 12 := ht
      refine v_iload hC dX11_apart_157 rfl ?_
      refine v_iload hC dX11_apart_159 rfl ?_
      refine v_icmp_gt hC dX11_apart_161 (tgt := 184) (by decide) (fun h161 => ?_) (fun h161 => ?_)
      · have k161 := lp_gt h161
        refine v_drop 6 ?_
        exact cont _ ⟨b9, rfl⟩ (fun j hj => hr j (by omega))
      · have k161 := lp_ng h161
        refine v_aload_n hC dX11_apart_164 rfl rfl ?_
        refine gf_11_10 hC ht (wf_286 hW ht) mw_4_130 dX11_apart_165 ?_
        refine v_iload hC dX11_apart_168 rfl ?_
        refine v_aload_n hC dX11_apart_170 rfl rfl ?_
        refine gf_11_11 hC ht (wf_287 hW ht) mw_4_131 dX11_apart_171 ?_
        refine v_iload hC dX11_apart_174 rfl ?_
        refine v_iald 27 hC (wf_287 hW ht) (by decide) (by decide) (ix_c (wz_27 hW (wf_287 hW ht)) (by omega)) dX11_apart_176 ?_
        rw [hs i (by omega)]
        refine v_iast 26 hC (wf_286 hW ht) (by decide) (by decide) (ix_c (wz_26 hW (wf_286 hW ht)) (by omega)) dX11_apart_177 ?_
        refine v_inc6 hC dX11_apart_178 ((nI_succ i).symm) (by decide) (kk := ?_)
        refine v_goto hC dX11_apart_181 (tgt := 157) (by decide) ?_
        refine ih (i + 1) _ (by omega) (by omega) (Bd.tr ⟨b9, rfl⟩ (Bd.si (Or.inl rfl))) (fun j hj => ?_) (fun j hj => (i_sk (by decide)).trans (hs j hj))
        refine i_sj.trans ?_
        by_cases q : j = i
        · rw [if_pos q, q]
        · rw [if_neg q]; exact hr j (by omega)
  have loopC : ∀ (w : Nat), w < g1.length → (∀ M1 : Me, Bd M M1 → (∀ j, j ≤ g2.length → m_i M1 26 (m_r M1 286 h 0) j = nI (dm (eqW g1 g2) (w + 1) j)) → V p l e (rmk 1 23 0 0) s m ([.ref h, .int (nI a), .int (nI b)] : List Value).toArray below meth c 8 G (MQ below (Qi G (fun r M2 => r = nI (dst g1 g2) ∧ Bd M M2)) ([.ref h, .int (nI a), .int (nI b)] : List Value).toArray s 0 0 (fr_ G)) M1 0 0 184 ([some (.ref h), some (.int (nI a)), some (.int (nI b)), some (.int (nI g1.length)), some (.int (nI g2.length)), some (.int (nI (w + 1))), none, none] : Lo) []) → ∀ (k v : Nat) (M1 : Me), v + k = 9 → v ≤ g2.length → Bd M M1 → (∀ j, j ≤ g2.length → m_i M1 26 (m_r M1 286 h 0) j = nI (dm (eqW g1 g2) w j)) → (∀ j, j ≤ v → m_i M1 27 (m_r M1 287 h 0) j = nI (dm (eqW g1 g2) (w + 1) j)) → V p l e (rmk 1 23 0 0) s m ([.ref h, .int (nI a), .int (nI b)] : List Value).toArray below meth c 8 G (MQ below (Qi G (fun r M2 => r = nI (dst g1 g2) ∧ Bd M M2)) ([.ref h, .int (nI a), .int (nI b)] : List Value).toArray s 0 0 (fr_ G)) M1 0 0 62 ([some (.ref h), some (.int (nI a)), some (.int (nI b)), some (.int (nI g1.length)), some (.int (nI g2.length)), some (.int (nI (w + 1))), some (.int (nI (v + 1))), none] : Lo) [] := by
    intro w hw cont k
    induction k with
    | zero => intro v M1 w1 w2; omega
    | succ k ih =>
      intro v M1 w1 w2 hB hr hs
      obtain ⟨b9, rfl⟩ := hB
      have hW : Wt (s_d M b9) := hW
      have ht : m_t (s_d M b9) h = 12 := ht
      have z1 := dm_le (eqW g1 g2) w v
      have z2 := dm_le (eqW g1 g2) w (v + 1)
      have z3 := dm_le (eqW g1 g2) (w + 1) v
      refine v_iload hC dX11_apart_62 rfl ?_
      refine v_iload hC dX11_apart_64 rfl ?_
      refine v_icmp_gt hC dX11_apart_66 (tgt := 154) (by decide) (fun h66 => ?_) (fun h66 => ?_)
      · have k66 := lp_gt h66
        refine v_iconst (v := 0) hC dX11_apart_154 (by decide) ?_
        refine v_ist6 hC dX11_apart_155 (by decide) (kk := ?_)
        refine v_drop 7 ?_
        exact loopD w hw cont 10 0 _ (by omega) (by omega) ⟨b9, rfl⟩ (fun j hj => absurd hj (Nat.not_lt_zero j)) (fun j hj => hs j (by omega))
      · have k66 := lp_ng h66
        have hv : v < g2.length := by omega
        refine v_aload_n hC dX11_apart_69 rfl rfl ?_
        refine gf_11_0 hC ht (wf_276 hW ht) mw_4_120 dX11_apart_70 ?_
        refine v_iload_n hC dX11_apart_73 rfl rfl ?_
        refine v_iconst (v := 1) hC dX11_apart_74 (by decide) ?_
        refine v_iadd hC dX11_apart_75 ?_
        rw [show nI a + 1 = nI (a + 1) from nI_add _ 1]
        refine v_iload hC dX11_apart_76 rfl ?_
        refine v_iadd hC dX11_apart_78 ?_
        rw [nI_add]
        refine v_iconst (v := 1) hC dX11_apart_79 (by decide) ?_
        refine v_isub hC dX11_apart_80 ?_
        rw [show a + 1 + (w + 1) = (a + 1 + w) + 1 from rfl, nI_pred]
        refine v_lald 31 hC (wf_276 hW ht) (by decide) (by decide) (ix_c hwz (by omega)) dX11_apart_81 ?_
        rw [show m_l (s_d M b9) 31 (m_r (s_d M b9) 276 h 0) (a + 1 + w) = _ from h1.wd (by omega)]
        refine v_aload_n hC dX11_apart_82 rfl rfl ?_
        refine gf_11_0 hC ht (wf_276 hW ht) mw_4_120 dX11_apart_83 ?_
        refine v_iload_n hC dX11_apart_86 rfl rfl ?_
        refine v_iconst (v := 1) hC dX11_apart_87 (by decide) ?_
        refine v_iadd hC dX11_apart_88 ?_
        rw [show nI b + 1 = nI (b + 1) from nI_add _ 1]
        refine v_iload hC dX11_apart_89 rfl ?_
        refine v_iadd hC dX11_apart_91 ?_
        rw [nI_add]
        refine v_iconst (v := 1) hC dX11_apart_92 (by decide) ?_
        refine v_isub hC dX11_apart_93 ?_
        rw [show b + 1 + (v + 1) = (b + 1 + v) + 1 from rfl, nI_pred]
        refine v_lald 31 hC (wf_276 hW ht) (by decide) (by decide) (ix_c hwz (by omega)) dX11_apart_94 ?_
        rw [show m_l (s_d M b9) 31 (m_r (s_d M b9) 276 h 0) (b + 1 + v) = _ from h2.wd (by omega)]
        refine v_lcmp hC dX11_apart_95 ?_
        refine v_if_ne hC dX11_apart_96 (tgt := 103) (by decide) (fun h96 => ?_) (fun h96 => ?_)
        · have h96 : ¬ (eqW g1 g2) w v = true := fun q => h96 ((lg_cmp_eq _ _).mpr (by rw [of_decide_eq_true q]))
          refine v_iconst (v := 1) hC dX11_apart_103 (by decide) ?_
          refine v_ist7 hC dX11_apart_104 (by decide) (kk := ?_)
          refine v_aload_n hC dX11_apart_106 rfl rfl ?_
          refine gf_11_11 hC ht (wf_287 hW ht) mw_4_131 dX11_apart_107 ?_
          refine v_iload hC dX11_apart_110 rfl ?_
          refine v_aload_n hC dX11_apart_112 rfl rfl ?_
          refine gf_11_10 hC ht (wf_286 hW ht) mw_4_130 dX11_apart_113 ?_
          refine v_iload hC dX11_apart_116 rfl ?_
          refine v_iald 26 hC (wf_286 hW ht) (by decide) (by decide) (ix_c (wz_26 hW (wf_286 hW ht)) (by omega)) dX11_apart_118 ?_
          rw [hr (v + 1) (by omega)]
          refine v_iconst (v := 1) hC dX11_apart_119 (by decide) ?_
          refine v_iadd hC dX11_apart_120 ?_
          rw [nI_1]
          refine v_aload_n hC dX11_apart_121 rfl rfl ?_
          refine gf_11_11 hC ht (wf_287 hW ht) mw_4_131 dX11_apart_122 ?_
          refine v_iload hC dX11_apart_125 rfl ?_
          refine v_iconst (v := 1) hC dX11_apart_127 (by decide) ?_
          refine v_isub hC dX11_apart_128 ?_
          refine v_iald 27 hC (wf_287 hW ht) (by decide) (by decide) (ix_q (j := v) (wz_27 hW (wf_287 hW ht)) (nI_pred v) (by omega)) dX11_apart_129 ?_
          rw [hs v (by omega)]
          refine v_iconst (v := 1) hC dX11_apart_130 (by decide) ?_
          refine v_iadd hC dX11_apart_131 ?_
          rw [nI_1]
          refine v_aload_n hC dX11_apart_132 rfl rfl ?_
          refine gf_11_10 hC ht (wf_286 hW ht) mw_4_130 dX11_apart_133 ?_
          refine v_iload hC dX11_apart_136 rfl ?_
          refine v_iconst (v := 1) hC dX11_apart_138 (by decide) ?_
          refine v_isub hC dX11_apart_139 ?_
          refine v_iald 26 hC (wf_286 hW ht) (by decide) (by decide) (ix_q (j := v) (wz_26 hW (wf_286 hW ht)) (nI_pred v) (by omega)) dX11_apart_140 ?_
          rw [hr v (by omega)]
          refine v_iload hC dX11_apart_141 rfl ?_
          refine v_iadd hC dX11_apart_143 ?_
          first
            | rw [show nI (dm (eqW g1 g2) w v) + 0 = nI (dm (eqW g1 g2) w v + (if (eqW g1 g2) w v = true then 0 else 1)) from by rw [if_pos h96]; exact Int32.add_zero _]
            | rw [show nI (dm (eqW g1 g2) w v) + 1 = nI (dm (eqW g1 g2) w v + (if (eqW g1 g2) w v = true then 0 else 1)) from by rw [if_neg h96]; exact nI_1 _]
          refine cSi3 hC (c_X11_least (by omega) (by omega) (by split <;> omega)) ys_X11_least mw_5_108 ⟨Nat.le_of_ble_eq_true rfl, Nat.le_of_ble_eq_true rfl⟩ ⟨Nat.le_of_ble_eq_true rfl, Nat.le_of_ble_eq_true rfl⟩ (Nat.le_of_ble_eq_true rfl) dX11_apart_144 (fun r144 M146 hq => ?_)
          obtain ⟨rfl, hm⟩ := hq
          have hm2 := hm.symm
          clear hm
          subst hm2
          rw [← dm_3]
          refine v_iast 27 hC (wf_287 hW ht) (by decide) (by decide) (ix_c (wz_27 hW (wf_287 hW ht)) (by omega)) dX11_apart_147 ?_
          refine v_inc6 hC dX11_apart_148 ((nI_succ (v + 1)).symm) (by decide) (kk := ?_)
          refine v_goto hC dX11_apart_151 (tgt := 62) (by decide) ?_
          refine v_drop 7 ?_
          refine ih (v + 1) _ (by omega) (by omega) (Bd.tr ⟨b9, rfl⟩ (Bd.si (Or.inr rfl))) (fun j hj => (i_sk (by decide)).trans (hr j hj)) (fun j hj => ?_)
          refine i_sj.trans ?_
          by_cases q : j = v + 1
          · rw [if_pos q, q]
          · rw [if_neg q]; exact hs j (by omega)
        · have h96 : (eqW g1 g2) w v = true := decide_eq_true (w27_inj h1.1 h2.1 ((lg_cmp_eq _ _).mp h96))
          refine v_iconst (v := 0) hC dX11_apart_99 (by decide) ?_
          refine v_goto hC dX11_apart_100 (tgt := 104) (by decide) ?_
          refine v_ist7 hC dX11_apart_104 (by decide) (kk := ?_)
          refine v_aload_n hC dX11_apart_106 rfl rfl ?_
          refine gf_11_11 hC ht (wf_287 hW ht) mw_4_131 dX11_apart_107 ?_
          refine v_iload hC dX11_apart_110 rfl ?_
          refine v_aload_n hC dX11_apart_112 rfl rfl ?_
          refine gf_11_10 hC ht (wf_286 hW ht) mw_4_130 dX11_apart_113 ?_
          refine v_iload hC dX11_apart_116 rfl ?_
          refine v_iald 26 hC (wf_286 hW ht) (by decide) (by decide) (ix_c (wz_26 hW (wf_286 hW ht)) (by omega)) dX11_apart_118 ?_
          rw [hr (v + 1) (by omega)]
          refine v_iconst (v := 1) hC dX11_apart_119 (by decide) ?_
          refine v_iadd hC dX11_apart_120 ?_
          rw [nI_1]
          refine v_aload_n hC dX11_apart_121 rfl rfl ?_
          refine gf_11_11 hC ht (wf_287 hW ht) mw_4_131 dX11_apart_122 ?_
          refine v_iload hC dX11_apart_125 rfl ?_
          refine v_iconst (v := 1) hC dX11_apart_127 (by decide) ?_
          refine v_isub hC dX11_apart_128 ?_
          refine v_iald 27 hC (wf_287 hW ht) (by decide) (by decide) (ix_q (j := v) (wz_27 hW (wf_287 hW ht)) (nI_pred v) (by omega)) dX11_apart_129 ?_
          rw [hs v (by omega)]
          refine v_iconst (v := 1) hC dX11_apart_130 (by decide) ?_
          refine v_iadd hC dX11_apart_131 ?_
          rw [nI_1]
          refine v_aload_n hC dX11_apart_132 rfl rfl ?_
          refine gf_11_10 hC ht (wf_286 hW ht) mw_4_130 dX11_apart_133 ?_
          refine v_iload hC dX11_apart_136 rfl ?_
          refine v_iconst (v := 1) hC dX11_apart_138 (by decide) ?_
          refine v_isub hC dX11_apart_139 ?_
          refine v_iald 26 hC (wf_286 hW ht) (by decide) (by decide) (ix_q (j := v) (wz_26 hW (wf_286 hW ht)) (nI_pred v) (by omega)) dX11_apart_140 ?_
          rw [hr v (by omega)]
          refine v_iload hC dX11_apart_141 rfl ?_
          refine v_iadd hC dX11_apart_143 ?_
          first
            | rw [show nI (dm (eqW g1 g2) w v) + 0 = nI (dm (eqW g1 g2) w v + (if (eqW g1 g2) w v = true then 0 else 1)) from by rw [if_pos h96]; exact Int32.add_zero _]
            | rw [show nI (dm (eqW g1 g2) w v) + 1 = nI (dm (eqW g1 g2) w v + (if (eqW g1 g2) w v = true then 0 else 1)) from by rw [if_neg h96]; exact nI_1 _]
          refine cSi3 hC (c_X11_least (by omega) (by omega) (by split <;> omega)) ys_X11_least mw_5_108 ⟨Nat.le_of_ble_eq_true rfl, Nat.le_of_ble_eq_true rfl⟩ ⟨Nat.le_of_ble_eq_true rfl, Nat.le_of_ble_eq_true rfl⟩ (Nat.le_of_ble_eq_true rfl) dX11_apart_144 (fun r144 M146 hq => ?_)
          obtain ⟨rfl, hm⟩ := hq
          have hm2 := hm.symm
          clear hm
          subst hm2
          rw [← dm_3]
          refine v_iast 27 hC (wf_287 hW ht) (by decide) (by decide) (ix_c (wz_27 hW (wf_287 hW ht)) (by omega)) dX11_apart_147 ?_
          refine v_inc6 hC dX11_apart_148 ((nI_succ (v + 1)).symm) (by decide) (kk := ?_)
          refine v_goto hC dX11_apart_151 (tgt := 62) (by decide) ?_
          refine v_drop 7 ?_
          refine ih (v + 1) _ (by omega) (by omega) (Bd.tr ⟨b9, rfl⟩ (Bd.si (Or.inr rfl))) (fun j hj => (i_sk (by decide)).trans (hr j hj)) (fun j hj => ?_)
          refine i_sj.trans ?_
          by_cases q : j = v + 1
          · rw [if_pos q, q]
          · rw [if_neg q]; exact hs j (by omega)
  have loopB : ∀ (k w : Nat) (M1 : Me), w + k = 9 → w ≤ g1.length → Bd M M1 → (∀ j, j ≤ g2.length → m_i M1 26 (m_r M1 286 h 0) j = nI (dm (eqW g1 g2) w j)) → V p l e (rmk 1 23 0 0) s m ([.ref h, .int (nI a), .int (nI b)] : List Value).toArray below meth c 8 G (MQ below (Qi G (fun r M2 => r = nI (dst g1 g2) ∧ Bd M M2)) ([.ref h, .int (nI a), .int (nI b)] : List Value).toArray s 0 0 (fr_ G)) M1 0 0 45 ([some (.ref h), some (.int (nI a)), some (.int (nI b)), some (.int (nI g1.length)), some (.int (nI g2.length)), some (.int (nI (w + 1))), none, none] : Lo) [] := by
    intro k
    induction k with
    | zero => intro w M1 w1 w2; omega
    | succ k ih =>
      intro w M1 w1 w2 hB hr
      obtain ⟨b9, rfl⟩ := hB
      have hW : Wt (s_d M b9) := hW
      have ht : m_t (s_d M b9) h = 12 := ht
      refine v_iload hC dX11_apart_45 rfl ?_
      refine v_iload_n hC dX11_apart_47 rfl rfl ?_
      refine v_icmp_gt hC dX11_apart_48 (tgt := 190) (by decide) (fun h48 => ?_) (fun h48 => ?_)
      · have k48 := lp_gt h48
        refine v_aload_n hC dX11_apart_190 rfl rfl ?_
        refine gf_11_10 hC ht (wf_286 hW ht) mw_4_130 dX11_apart_191 ?_
        refine v_iload hC dX11_apart_194 rfl ?_
        refine v_iald 26 hC (wf_286 hW ht) (by decide) (by decide) (ix_c (wz_26 hW (wf_286 hW ht)) (by omega)) dX11_apart_196 ?_
        rw [hr _ (Nat.le_refl _)]
        refine v_iret hC dX11_apart_197 ?_
        have hle : w = g1.length := by omega
        subst hle
        exact ⟨rfl, ⟨b9, rfl⟩⟩
      · have k48 := lp_ng h48
        have hw : w < g1.length := by omega
        refine v_aload_n hC dX11_apart_51 rfl rfl ?_
        refine gf_11_11 hC ht (wf_287 hW ht) mw_4_131 dX11_apart_52 ?_
        refine v_iconst (v := 0) hC dX11_apart_55 (by decide) ?_
        refine v_iload hC dX11_apart_56 rfl ?_
        refine v_iast 27 hC (wf_287 hW ht) (by decide) (by decide) (ix_q (j := 0) (wz_27 hW (wf_287 hW ht)) rfl) dX11_apart_58 ?_
        refine v_iconst (v := 1) hC dX11_apart_59 (by decide) ?_
        refine v_ist6 hC dX11_apart_60 (by decide) (kk := ?_)
        refine loopC w hw (fun M1 hB2 hr2 => ?_) 9 0 _ (by omega) (by omega) (Bd.tr ⟨b9, rfl⟩ (Bd.si (Or.inr rfl))) (fun j hj => ?_) (fun j hj => ?_)
        · obtain ⟨b8, rfl⟩ := hB2
          refine v_inc5 hC dX11_apart_184 ((nI_succ (w + 1)).symm) (by decide) (kk := ?_)
          refine v_goto hC dX11_apart_187 (tgt := 45) (by decide) ?_
          exact ih (w + 1) _ (by omega) (by omega) ⟨b8, rfl⟩ hr2
        · exact (i_sk (by decide)).trans (hr j hj)
        · refine i_sj.trans ?_
          rw [if_pos (by omega), show j = 0 by omega, dm_s0]
  have loopA : ∀ (k i : Nat) (M1 : Me), i + k = 10 → i ≤ g2.length + 1 → Bd M M1 → (∀ j, j < i → m_i M1 26 (m_r M1 286 h 0) j = nI j) → V p l e (rmk 1 23 0 0) s m ([.ref h, .int (nI a), .int (nI b)] : List Value).toArray below meth c 8 G (MQ below (Qi G (fun r M2 => r = nI (dst g1 g2) ∧ Bd M M2)) ([.ref h, .int (nI a), .int (nI b)] : List Value).toArray s 0 0 (fr_ G)) M1 0 0 20 ([some (.ref h), some (.int (nI a)), some (.int (nI b)), some (.int (nI g1.length)), some (.int (nI g2.length)), some (.int (nI i)), none, none] : Lo) [] := by
    intro k
    induction k with
    | zero => intro i M1 w1 w2; omega
    | succ k ih =>
      intro i M1 w1 w2 hB hr
      obtain ⟨b9, rfl⟩ := hB
      have hW : Wt (s_d M b9) := hW
      have ht : m_t (s_d M b9) h = 12 := ht
      refine v_iload hC dX11_apart_20 rfl ?_
      refine v_iload hC dX11_apart_22 rfl ?_
      refine v_icmp_gt hC dX11_apart_24 (tgt := 42) (by decide) (fun h24 => ?_) (fun h24 => ?_)
      · have k24 := lp_gt h24
        refine v_iconst (v := 1) hC dX11_apart_42 (by decide) ?_
        refine v_ist5 hC dX11_apart_43 (by decide) (kk := ?_)
        exact loopB 9 0 _ (by omega) (by omega) ⟨b9, rfl⟩ (fun j hj => hr j (by omega))
      · have k24 := lp_ng h24
        refine v_aload_n hC dX11_apart_27 rfl rfl ?_
        refine gf_11_10 hC ht (wf_286 hW ht) mw_4_130 dX11_apart_28 ?_
        refine v_iload hC dX11_apart_31 rfl ?_
        refine v_iload hC dX11_apart_33 rfl ?_
        refine v_iast 26 hC (wf_286 hW ht) (by decide) (by decide) (ix_c (wz_26 hW (wf_286 hW ht)) (by omega)) dX11_apart_35 ?_
        refine v_inc5 hC dX11_apart_36 ((nI_succ i).symm) (by decide) (kk := ?_)
        refine v_goto hC dX11_apart_39 (tgt := 20) (by decide) ?_
        refine ih (i + 1) _ (by omega) (by omega) (Bd.tr ⟨b9, rfl⟩ (Bd.si (Or.inl rfl))) (fun j hj => ?_)
        refine i_sj.trans ?_
        by_cases q : j = i
        · rw [if_pos q, q]
        · rw [if_neg q]; exact hr j (by omega)
  refine v_aload_n hC dX11_apart_0 rfl rfl ?_
  refine v_iload_n hC dX11_apart_1 rfl rfl ?_
  refine v_iconst (v := 0) hC dX11_apart_2 (by decide) ?_
  refine v_iadd hC dX11_apart_3 ?_
  rw [show nI a + 0 = nI a from nI_add _ 0]
  refine cVi1 hC (c_X11_number hW ht (by omega)) yv_X11_number rfl ht mw_4_165 ⟨Nat.le_of_ble_eq_true rfl, Nat.le_of_ble_eq_true rfl⟩ ⟨Nat.le_of_ble_eq_true rfl, Nat.le_of_ble_eq_true rfl⟩ (Nat.le_of_ble_eq_true rfl) dX11_apart_4 (fun r4 M6 hq => ?_)
  obtain ⟨rfl, hm⟩ := hq
  have hm2 := hm.symm
  clear hm
  subst hm2
  rw [show rwM M h a = _ from h1.n0, lN_i]
  refine v_ist3 hC dX11_apart_7 (by decide) (kk := ?_)
  refine v_aload_n hC dX11_apart_8 rfl rfl ?_
  refine v_iload_n hC dX11_apart_9 rfl rfl ?_
  refine v_iconst (v := 0) hC dX11_apart_10 (by decide) ?_
  refine v_iadd hC dX11_apart_11 ?_
  rw [show nI b + 0 = nI b from nI_add _ 0]
  refine cVi1 hC (c_X11_number hW ht (by omega)) yv_X11_number rfl ht mw_4_165 ⟨Nat.le_of_ble_eq_true rfl, Nat.le_of_ble_eq_true rfl⟩ ⟨Nat.le_of_ble_eq_true rfl, Nat.le_of_ble_eq_true rfl⟩ (Nat.le_of_ble_eq_true rfl) dX11_apart_12 (fun r12 M14 hq => ?_)
  obtain ⟨rfl, hm⟩ := hq
  have hm2 := hm.symm
  clear hm
  subst hm2
  rw [show rwM M h b = _ from h2.n0, lN_i]
  refine v_ist4 hC dX11_apart_15 (by decide) (kk := ?_)
  refine v_iconst (v := 0) hC dX11_apart_17 (by decide) ?_
  refine v_ist5 hC dX11_apart_18 (by decide) (kk := ?_)
  exact loopA 10 0 M (by omega) (by omega) Bd.rf (fun j hj => absurd hj (Nat.not_lt_zero j))

set_option maxHeartbeats 4000000 in
set_option maxRecDepth 100000 in
theorem c_X11_matchOf {l : Launch} {G : Gd} {M : Me} {h a b : Nat} {g1 g2 : Sg} (hW : Wt M) (ht : m_t M h = 12) (h1 : SgN (fun i => rwM M h (a + i)) g1) (h2 : SgN (fun i => rwM M h (b + i)) g2) (ha : a + 9 ≤ 1662) (hb : b + 9 ≤ 1662) : CQ (Qi G (fun r M2 => r = mtc g1 g2 ∧ Bd M M2)) l G yX11_matchOf cX11_matchOf 6 ((some .int)) 2 50 0 0 [.ref h, .int (nI a), .int (nI b)] M := by
  refine c_of ([some (.ref h), some (.int (nI a)), some (.int (nI b)), none, none, none] : Lo) RX11 "matchOf" (by decide) rfl rfl (Nat.le_of_ble_eq_true rfl) rfl (fun p e s m below meth c hC nw => ?_)
  have hwz := wz_31 hW (wf_276 hW ht)
  have b1 := h1.1.2.1
  have b2 := h2.1.2.1
  have b3 := h1.1.1
  have b4 := h2.1.1
  refine v_aload_n hC dX11_matchOf_0 rfl rfl ?_
  refine v_iload_n hC dX11_matchOf_1 rfl rfl ?_
  refine v_iconst (v := 0) hC dX11_matchOf_2 (by decide) ?_
  refine v_iadd hC dX11_matchOf_3 ?_
  rw [show nI a + 0 = nI a from nI_add _ 0]
  refine cVi1 hC (c_X11_number hW ht (by omega)) yv_X11_number rfl ht mw_4_165 ⟨Nat.le_of_ble_eq_true rfl, Nat.le_of_ble_eq_true rfl⟩ ⟨Nat.le_of_ble_eq_true rfl, Nat.le_of_ble_eq_true rfl⟩ (Nat.le_of_ble_eq_true rfl) dX11_matchOf_4 (fun r4 M6 hq => ?_)
  obtain ⟨rfl, hm⟩ := hq
  have hm2 := hm.symm
  clear hm
  subst hm2
  rw [show rwM M h a = _ from h1.n0, lN_i]
  refine v_ist3 hC dX11_matchOf_7 (by decide) (kk := ?_)
  refine v_aload_n hC dX11_matchOf_8 rfl rfl ?_
  refine v_iload_n hC dX11_matchOf_9 rfl rfl ?_
  refine v_iconst (v := 0) hC dX11_matchOf_10 (by decide) ?_
  refine v_iadd hC dX11_matchOf_11 ?_
  rw [show nI b + 0 = nI b from nI_add _ 0]
  refine cVi1 hC (c_X11_number hW ht (by omega)) yv_X11_number rfl ht mw_4_165 ⟨Nat.le_of_ble_eq_true rfl, Nat.le_of_ble_eq_true rfl⟩ ⟨Nat.le_of_ble_eq_true rfl, Nat.le_of_ble_eq_true rfl⟩ (Nat.le_of_ble_eq_true rfl) dX11_matchOf_12 (fun r12 M14 hq => ?_)
  obtain ⟨rfl, hm⟩ := hq
  have hm2 := hm.symm
  clear hm
  subst hm2
  rw [show rwM M h b = _ from h2.n0, lN_i]
  refine v_ist4 hC dX11_matchOf_15 (by decide) (kk := ?_)
  refine v_iload_n hC dX11_matchOf_17 rfl rfl ?_
  refine v_iload hC dX11_matchOf_18 rfl ?_
  refine v_icmp_le hC dX11_matchOf_20 (tgt := 27) (by decide) (fun h20 => ?_) (fun h20 => ?_)
  · have k20 : g1.length ≤ g2.length := (nI_leI (by omega) (by omega)).mp h20
    have em : g2.length = max g1.length g2.length := by omega
    refine v_iload hC dX11_matchOf_27 rfl ?_
    refine v_ist5 hC dX11_matchOf_29 (by decide) (kk := ?_)
    refine v_bipush (v := 100) hC dX11_matchOf_31 (by decide) ?_
    refine v_iload hC dX11_matchOf_33 rfl ?_
    refine v_aload_n hC dX11_matchOf_35 rfl rfl ?_
    refine v_iload_n hC dX11_matchOf_36 rfl rfl ?_
    refine v_iload_n hC dX11_matchOf_37 rfl rfl ?_
    refine cVi2 hC (c_X11_apart hW ht h1 h2 ha hb) yv_X11_apart rfl ht mw_5_104 ⟨Nat.le_of_ble_eq_true rfl, Nat.le_of_ble_eq_true rfl⟩ ⟨Nat.le_of_ble_eq_true rfl, Nat.le_of_ble_eq_true rfl⟩ (Nat.le_of_ble_eq_true rfl) dX11_matchOf_38 (fun r38 M40 hq => ?_)
    obtain ⟨rfl, hB9⟩ := hq
    refine v_isub hC dX11_matchOf_41 ?_
    refine v_imul hC dX11_matchOf_42 ?_
    refine v_iload hC dX11_matchOf_43 rfl ?_
    refine v_idiv hC dX11_matchOf_45 (nI_ne0 (by omega) (by omega)) ?_
    refine v_iret hC dX11_matchOf_46 ?_
    exact ⟨by first | (have z : g2.length = max g1.length g2.length := em; rw [mtc, ← z]) | (have z : g1.length = max g1.length g2.length := em; rw [mtc, ← z]), hB9⟩
  · have k20 : g2.length < g1.length := Nat.not_le.mp fun q => h20 (nI_le q (by omega))
    have em : g1.length = max g1.length g2.length := by omega
    refine v_iload_n hC dX11_matchOf_23 rfl rfl ?_
    refine v_goto hC dX11_matchOf_24 (tgt := 29) (by decide) ?_
    refine v_ist5 hC dX11_matchOf_29 (by decide) (kk := ?_)
    refine v_bipush (v := 100) hC dX11_matchOf_31 (by decide) ?_
    refine v_iload hC dX11_matchOf_33 rfl ?_
    refine v_aload_n hC dX11_matchOf_35 rfl rfl ?_
    refine v_iload_n hC dX11_matchOf_36 rfl rfl ?_
    refine v_iload_n hC dX11_matchOf_37 rfl rfl ?_
    refine cVi2 hC (c_X11_apart hW ht h1 h2 ha hb) yv_X11_apart rfl ht mw_5_104 ⟨Nat.le_of_ble_eq_true rfl, Nat.le_of_ble_eq_true rfl⟩ ⟨Nat.le_of_ble_eq_true rfl, Nat.le_of_ble_eq_true rfl⟩ (Nat.le_of_ble_eq_true rfl) dX11_matchOf_38 (fun r38 M40 hq => ?_)
    obtain ⟨rfl, hB9⟩ := hq
    refine v_isub hC dX11_matchOf_41 ?_
    refine v_imul hC dX11_matchOf_42 ?_
    refine v_iload hC dX11_matchOf_43 rfl ?_
    refine v_idiv hC dX11_matchOf_45 (nI_ne0 (by omega) (by omega)) ?_
    refine v_iret hC dX11_matchOf_46 ?_
    exact ⟨by first | (have z : g2.length = max g1.length g2.length := em; rw [mtc, ← z]) | (have z : g1.length = max g1.length g2.length := em; rw [mtc, ← z]), hB9⟩

set_option maxHeartbeats 4000000 in
set_option maxRecDepth 100000 in
theorem c_X11_match {l : Launch} {G : Gd} {M : Me} {h a : Nat} {u : Si} {g : Sg} (hW : Wt M) (ht : m_t M h = 12) (hA : LA (rwM M h) u) (hg : SgN (fun i => rwM M h (a + i)) g) (ha : a + 9 ≤ 1662) : CQ (Qi G (fun r M2 => r = bm (fun e => mtc g (q_g u 1 e 0)) (n_e u) ∧ Bd M M2)) l G yX11_match cX11_match 5 ((some .int)) 3 75 0 0 [.ref h, .int (nI a)] M := by
  refine c_of ([some (.ref h), some (.int (nI a)), none, none, none] : Lo) RX11 "match" (by decide) rfl rfl (Nat.le_of_ble_eq_true rfl) rfl (fun p e s m below meth c hC nw => ?_)
  have u1 := hA.1.1
  have u2 := hA.1.2.1
  have u3 := hA.1.2.2.1
  have u4 := hA.1.2.2.2.1
  have hwz := wz_31 hW (wf_276 hW ht)
  have loop : ∀ (k i : Nat) (M1 : Me), i + k = 41 → i ≤ n_e u → Bd M M1 → V p l e (rmk 3 75 0 0) s m ([.ref h, .int (nI a)] : List Value).toArray below meth c 5 G (MQ below (Qi G (fun r M2 => r = bm (fun e => mtc g (q_g u 1 e 0)) (n_e u) ∧ Bd M M2)) ([.ref h, .int (nI a)] : List Value).toArray s 0 0 (fr_ G)) M1 0 0 4 ([some (.ref h), some (.int (nI a)), some (.int (bm (fun e => mtc g (q_g u 1 e 0)) i)), some (.int (nI i)), none] : Lo) [] := by
    intro k
    induction k with
    | zero => intro i M1 w1 w2; omega
    | succ k ih =>
      intro i M1 w1 w2 hB
      obtain ⟨b9, rfl⟩ := hB
      have hW : Wt (s_d M b9) := hW
      have ht : m_t (s_d M b9) h = 12 := ht
      have hA : LA (rwM (s_d M b9) h) u := hA
      have hg : SgN (fun i => rwM (s_d M b9) h (a + i)) g := hg
      have hwz : m_z (s_d M b9) (m_r (s_d M b9) 276 h 0) = 1662 := hwz
      refine v_iload_n hC dX11_match_4 rfl rfl ?_
      refine v_i2l hC dX11_match_5 ?_
      rw [nI_l (by omega)]
      refine v_aload_n hC dX11_match_6 rfl rfl ?_
      refine gf_11_0 hC ht (wf_276 hW ht) mw_4_120 dX11_match_7 ?_
      refine v_iconst (v := 2) hC dX11_match_10 (by decide) ?_
      refine v_lald 31 hC (wf_276 hW ht) (by decide) (by decide) (ix_q (j := 2) hwz rfl) dX11_match_11 ?_
      rw [show m_l (s_d M b9) 31 (m_r (s_d M b9) 276 h 0) 2 = _ from hA.c2]
      refine v_lcmp hC dX11_match_12 ?_
      refine v_if_ge hC dX11_match_13 (tgt := 47) (by decide) (fun h13 => ?_) (fun h13 => ?_)
      · have hi := lc_ge h13
        refine v_iload_n hC dX11_match_47 rfl rfl ?_
        refine v_iret hC dX11_match_48 ?_
        have hie : i = n_e u := by omega
        subst hie
        exact ⟨rfl, ⟨b9, rfl⟩⟩
      · have hi := lc_lt h13
        refine v_aload_n hC dX11_match_16 rfl rfl ?_
        refine v_iload_n hC dX11_match_17 rfl rfl ?_
        refine v_aload_n hC dX11_match_18 rfl rfl ?_
        refine v_iload_n hC dX11_match_19 rfl rfl ?_
        refine cVi1 hC (c_X11_entryAt ht) yv_X11_entryAt rfl ht mw_5_35 ⟨Nat.le_of_ble_eq_true rfl, Nat.le_of_ble_eq_true rfl⟩ ⟨Nat.le_of_ble_eq_true rfl, Nat.le_of_ble_eq_true rfl⟩ (Nat.le_of_ble_eq_true rfl) dX11_match_20 (fun r20 M22 hq => ?_)
        obtain ⟨rfl, hm⟩ := hq
        have hm2 := hm.symm
        clear hm
        subst hm2
        refine cVi2 hC (c_X11_matchOf hW ht hg (hA.eg hi) ha (by omega)) yv_X11_matchOf rfl ht mw_5_100 ⟨Nat.le_of_ble_eq_true rfl, Nat.le_of_ble_eq_true rfl⟩ ⟨Nat.le_of_ble_eq_true rfl, Nat.le_of_ble_eq_true rfl⟩ (Nat.le_of_ble_eq_true rfl) dX11_match_23 (fun r23 M25 hq => ?_)
        obtain ⟨rfl, hB8⟩ := hq
        obtain ⟨b8, rfl⟩ := Bd.tr ⟨b9, rfl⟩ hB8
        refine v_ist4 hC dX11_match_26 (by decide) (kk := ?_)
        refine v_iload hC dX11_match_28 rfl ?_
        refine v_iload_n hC dX11_match_30 rfl rfl ?_
        refine v_icmp_le hC dX11_match_31 (tgt := 39) (by decide) (fun h31 => ?_) (fun h31 => ?_)
        · refine v_iload_n hC dX11_match_39 rfl rfl ?_
          refine v_ist2 hC dX11_match_40 (by decide) (kk := ?_)
          refine v_inc3 hC dX11_match_41 ((nI_succ i).symm) (by decide) (kk := ?_)
          refine v_goto hC dX11_match_44 (tgt := 4) (by decide) ?_
          refine v_drop 4 ?_
          first
            | exact (show bm (fun e => mtc g (q_g u 1 e 0)) (i + 1) = bm (fun e => mtc g (q_g u 1 e 0)) i from if_neg (fun q => i_ab q h31)) ▸ ih (i + 1) _ (by omega) (by omega) ⟨b8, rfl⟩
            | exact (show bm (fun e => mtc g (q_g u 1 e 0)) (i + 1) = mtc g (q_g u 1 i 0) from if_pos (i_nle h31)) ▸ ih (i + 1) _ (by omega) (by omega) ⟨b8, rfl⟩
        · refine v_iload hC dX11_match_34 rfl ?_
          refine v_goto hC dX11_match_36 (tgt := 40) (by decide) ?_
          refine v_ist2 hC dX11_match_40 (by decide) (kk := ?_)
          refine v_inc3 hC dX11_match_41 ((nI_succ i).symm) (by decide) (kk := ?_)
          refine v_goto hC dX11_match_44 (tgt := 4) (by decide) ?_
          refine v_drop 4 ?_
          first
            | exact (show bm (fun e => mtc g (q_g u 1 e 0)) (i + 1) = bm (fun e => mtc g (q_g u 1 e 0)) i from if_neg (fun q => i_ab q h31)) ▸ ih (i + 1) _ (by omega) (by omega) ⟨b8, rfl⟩
            | exact (show bm (fun e => mtc g (q_g u 1 e 0)) (i + 1) = mtc g (q_g u 1 i 0) from if_pos (i_nle h31)) ▸ ih (i + 1) _ (by omega) (by omega) ⟨b8, rfl⟩
  refine v_iconst (v := 0) hC dX11_match_0 (by decide) ?_
  refine v_ist2 hC dX11_match_1 (by decide) (kk := ?_)
  refine v_iconst (v := 0) hC dX11_match_2 (by decide) ?_
  refine v_ist3 hC dX11_match_3 (by decide) (kk := ?_)
  exact loop 41 0 M (by omega) (by omega) Bd.rf
