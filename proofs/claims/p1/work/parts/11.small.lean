set_option maxHeartbeats 4000000 in
set_option maxRecDepth 100000 in
theorem c_X5_reset {l : Launch} {G : Gd} {M : Me} {h : Nat} {r : Int32} (ht : m_t M h = 6) : CQ (Qv G (fun M2 => M2 = f_pR M h r)) l G yX5_reset cX5_reset 2 (none) 0 0 0 0 [.ref h, .int r] M := by
  refine c_of ([some (.ref h), some (.int r)] : Lo) RX5 "reset" (by decide) rfl rfl (Nat.le_of_ble_eq_true rfl) rfl (fun p e s m below meth c hC nw => ?_)
  refine v_aload_n hC dX5_reset_0 rfl rfl ?_
  refine v_iload_n hC dX5_reset_1 rfl rfl ?_
  refine pf_5_0 hC ht mw_1_103 dX5_reset_2 ?_
  refine v_aload_n hC dX5_reset_5 rfl rfl ?_
  refine v_iconst (v := 0) hC dX5_reset_6 (by decide) ?_
  refine pf_5_1 hC ht mw_1_105 dX5_reset_7 ?_
  refine v_aload_n hC dX5_reset_10 rfl rfl ?_
  refine v_bipush (v := (-5)) hC dX5_reset_11 (by decide) ?_
  refine pf_5_2 hC ht mw_1_107 dX5_reset_13 ?_
  refine v_vret hC dX5_reset_16 ?_
  exact rfl

set_option maxHeartbeats 4000000 in
set_option maxRecDepth 100000 in
theorem c_X5_init {l : Launch} {G : Gd} {M : Me} {h : Nat} (ht : m_t M h = 6) : CQ (Qv G (fun M2 => M2 = f_pR M h 0)) l G yX5_init cX5_init 1 (none) 1 22 0 0 [.ref h] M := by
  refine c_of ([some (.ref h)] : Lo) RX5 "<init>" (by decide) rfl rfl (Nat.le_of_ble_eq_true rfl) rfl (fun p e s m below meth c hC nw => ?_)
  refine v_aload_n hC dX5_init_0 rfl rfl ?_
  refine v_oinit hC mw_1_98 (Nat.le_of_ble_eq_true rfl) (Nat.le_of_ble_eq_true rfl) dX5_init_1 ?_
  refine v_aload_n hC dX5_init_4 rfl rfl ?_
  refine v_iconst (v := 0) hC dX5_init_5 (by decide) ?_
  refine cVv1 hC (c_X5_reset ht) yv_X5_reset rfl ht mw_1_99 ⟨Nat.le_of_ble_eq_true rfl, Nat.le_of_ble_eq_true rfl⟩ ⟨Nat.le_of_ble_eq_true rfl, Nat.le_of_ble_eq_true rfl⟩ (Nat.le_of_ble_eq_true rfl) dX5_init_6 (fun M8 hq => ?_)
  subst hq
  refine v_vret hC dX5_init_9 ?_
  exact rfl

set_option maxHeartbeats 4000000 in
set_option maxRecDepth 100000 in
theorem c_X9_reset {l : Launch} {G : Gd} {M : Me} {h : Nat} (ht : m_t M h = 10) : CQ (Qv G (fun M2 => M2 = f_wR M h)) l G yX9_reset cX9_reset 1 (none) 0 0 0 0 [.ref h] M := by
  refine c_of ([some (.ref h)] : Lo) RX9 "reset" (by decide) rfl rfl (Nat.le_of_ble_eq_true rfl) rfl (fun p e s m below meth c hC nw => ?_)
  refine v_aload_n hC dX9_reset_0 rfl rfl ?_
  refine v_iconst (v := 0) hC dX9_reset_1 (by decide) ?_
  refine pf_9_0 hC ht mw_1_130 dX9_reset_2 ?_
  refine v_aload_n hC dX9_reset_5 rfl rfl ?_
  refine v_bipush (v := (-5)) hC dX9_reset_6 (by decide) ?_
  refine pf_9_1 hC ht mw_1_133 dX9_reset_8 ?_
  refine v_aload_n hC dX9_reset_11 rfl rfl ?_
  refine v_bipush (v := (-5)) hC dX9_reset_12 (by decide) ?_
  refine pf_9_2 hC ht mw_1_136 dX9_reset_14 ?_
  refine v_aload_n hC dX9_reset_17 rfl rfl ?_
  refine v_bipush (v := (-5)) hC dX9_reset_18 (by decide) ?_
  refine pf_9_3 hC ht mw_1_139 dX9_reset_20 ?_
  refine v_aload_n hC dX9_reset_23 rfl rfl ?_
  refine v_iconst (v := 0) hC dX9_reset_24 (by decide) ?_
  refine pf_9_4 hC ht mw_1_142 dX9_reset_25 ?_
  refine v_aload_n hC dX9_reset_28 rfl rfl ?_
  refine v_iconst (v := 0) hC dX9_reset_29 (by decide) ?_
  refine pf_9_5 hC ht mw_1_144 dX9_reset_30 ?_
  refine v_vret hC dX9_reset_33 ?_
  exact rfl

set_option maxHeartbeats 4000000 in
set_option maxRecDepth 100000 in
theorem c_X0_reset {l : Launch} {G : Gd} {M : Me} {h : Nat} {x y z : Int32} (ht : m_t M h = 1) : CQ (Qv G (fun M2 => M2 = f_dR M h x y z)) l G yX0_reset cX0_reset 4 (none) 0 0 0 0 [.ref h, .int x, .int y, .int z] M := by
  refine c_of ([some (.ref h), some (.int x), some (.int y), some (.int z)] : Lo) RX0 "reset" (by decide) rfl rfl (Nat.le_of_ble_eq_true rfl) rfl (fun p e s m below meth c hC nw => ?_)
  refine v_aload_n hC dX0_reset_0 rfl rfl ?_
  refine v_iload_n hC dX0_reset_1 rfl rfl ?_
  refine pf_0_0 hC ht mw_1_224 dX0_reset_2 ?_
  refine v_aload_n hC dX0_reset_5 rfl rfl ?_
  refine v_iload_n hC dX0_reset_6 rfl rfl ?_
  refine pf_0_1 hC ht mw_1_228 dX0_reset_7 ?_
  refine v_aload_n hC dX0_reset_10 rfl rfl ?_
  refine v_iload_n hC dX0_reset_11 rfl rfl ?_
  refine pf_0_2 hC ht mw_1_231 dX0_reset_12 ?_
  refine v_aload_n hC dX0_reset_15 rfl rfl ?_
  refine v_iconst (v := 0) hC dX0_reset_16 (by decide) ?_
  refine pf_0_3 hC ht mw_1_234 dX0_reset_17 ?_
  refine v_vret hC dX0_reset_20 ?_
  exact rfl

set_option maxHeartbeats 4000000 in
set_option maxRecDepth 100000 in
theorem c_X0_init {l : Launch} {G : Gd} {M : Me} {h : Nat} (ht : m_t M h = 1) : CQ (Qv G (fun M2 => M2 = f_dR M h 0 0 0)) l G yX0_init cX0_init 1 (none) 1 23 0 0 [.ref h] M := by
  refine c_of ([some (.ref h)] : Lo) RX0 "<init>" (by decide) rfl rfl (Nat.le_of_ble_eq_true rfl) rfl (fun p e s m below meth c hC nw => ?_)
  refine v_aload_n hC dX0_init_0 rfl rfl ?_
  refine v_oinit hC mw_1_219 (Nat.le_of_ble_eq_true rfl) (Nat.le_of_ble_eq_true rfl) dX0_init_1 ?_
  refine v_aload_n hC dX0_init_4 rfl rfl ?_
  refine v_iconst (v := 0) hC dX0_init_5 (by decide) ?_
  refine v_iconst (v := 0) hC dX0_init_6 (by decide) ?_
  refine v_iconst (v := 0) hC dX0_init_7 (by decide) ?_
  refine cVv3 hC (c_X0_reset ht) yv_X0_reset rfl ht mw_1_220 ⟨Nat.le_of_ble_eq_true rfl, Nat.le_of_ble_eq_true rfl⟩ ⟨Nat.le_of_ble_eq_true rfl, Nat.le_of_ble_eq_true rfl⟩ (Nat.le_of_ble_eq_true rfl) dX0_init_8 (fun M10 hq => ?_)
  subst hq
  refine v_vret hC dX0_init_11 ?_
  exact rfl

set_option maxHeartbeats 4000000 in
set_option maxRecDepth 100000 in
theorem c_X1_reset {l : Launch} {G : Gd} {M : Me} {h g : Nat} {x : Int32} (ht : m_t M h = 2) (hg : m_t M g = 7) : CQ (Qv G (fun M2 => M2 = f_eR M h g x)) l G yX1_reset cX1_reset 3 (none) 0 0 0 0 [.ref h, .ref g, .int x] M := by
  refine c_of ([some (.ref h), some (.ref g), some (.int x)] : Lo) RX1 "reset" (by decide) rfl rfl (Nat.le_of_ble_eq_true rfl) rfl (fun p e s m below meth c hC nw => ?_)
  refine v_aload_n hC dX1_reset_0 rfl rfl ?_
  refine v_aload_n hC dX1_reset_1 rfl rfl ?_
  refine pf_1_0 hC ht hg mw_1_194 dX1_reset_2 ?_
  refine v_aload_n hC dX1_reset_5 rfl rfl ?_
  refine v_iload_n hC dX1_reset_6 rfl rfl ?_
  refine pf_1_1 hC ht mw_1_198 dX1_reset_7 ?_
  refine v_aload_n hC dX1_reset_10 rfl rfl ?_
  refine v_iconst (v := 0) hC dX1_reset_11 (by decide) ?_
  refine pf_1_2 hC ht (Or.inl rfl) mw_1_202 dX1_reset_12 ?_
  refine v_vret hC dX1_reset_15 ?_
  exact rfl

set_option maxHeartbeats 4000000 in
set_option maxRecDepth 100000 in
theorem c_X1_init {l : Launch} {G : Gd} {M : Me} {h g : Nat} (ht : m_t M h = 2) (hg : m_t M g = 7) : CQ (Qv G (fun M2 => M2 = f_eR M h g 0)) l G yX1_init cX1_init 2 (none) 1 22 0 0 [.ref h, .ref g] M := by
  refine c_of ([some (.ref h), some (.ref g)] : Lo) RX1 "<init>" (by decide) rfl rfl (Nat.le_of_ble_eq_true rfl) rfl (fun p e s m below meth c hC nw => ?_)
  refine v_aload_n hC dX1_init_0 rfl rfl ?_
  refine v_oinit hC mw_1_189 (Nat.le_of_ble_eq_true rfl) (Nat.le_of_ble_eq_true rfl) dX1_init_1 ?_
  refine v_aload_n hC dX1_init_4 rfl rfl ?_
  refine v_aload_n hC dX1_init_5 rfl rfl ?_
  refine v_iconst (v := 0) hC dX1_init_6 (by decide) ?_
  refine cVv2 hC (c_X1_reset ht hg) yv_X1_reset rfl ht mw_1_190 ⟨Nat.le_of_ble_eq_true rfl, Nat.le_of_ble_eq_true rfl⟩ ⟨Nat.le_of_ble_eq_true rfl, Nat.le_of_ble_eq_true rfl⟩ (Nat.le_of_ble_eq_true rfl) dX1_init_7 (fun M9 hq => ?_)
  subst hq
  refine v_vret hC dX1_init_10 ?_
  exact rfl

set_option maxHeartbeats 4000000 in
set_option maxRecDepth 100000 in
theorem c_X9_init {l : Launch} {G : Gd} {M : Me} {h b : Nat} (ht : m_t M h = 10) (hb : m_t M b = 7) : CQ (Qv G (fun M2 => M2 = f_wI M h b)) l G yX9_init cX9_init 3 (none) 1 22 3 36 [.ref h, .ref b] M := by
  refine c_of ([some (.ref h), some (.ref b), none] : Lo) RX9 "<init>" (by decide) rfl rfl (Nat.le_of_ble_eq_true rfl) rfl (fun p e s m below meth c hC nw => ?_)
  have loop : ∀ (k i : Nat), i + k = 13 → i ≤ 12 → V p l e (rmk 1 22 3 36) s m ([.ref h, .ref b] : List Value).toArray below meth c 3 G (MQ below (Qv G (fun M2 => M2 = f_wI M h b)) ([.ref h, .ref b] : List Value).toArray s 3 36 (fr_ G)) (f_fl (s_r (s_new M 52 12) 250 h 0 (m_n M)) 52 (m_n M) b i) 1 12 15 ([some (.ref h), some (.ref b), some (.int (nI i))] : Lo) [] := by
    intro k
    induction k with
    | zero => intro i h1 h2; omega
    | succ k ih =>
      intro i h1 h2
      have hr : m_r (f_fl (s_r (s_new M 52 12) 250 h 0 (m_n M)) 52 (m_n M) b i) 250 h 0 = m_n M := by rw [r_fl (by decide), r_sr, if_pos ⟨rfl, rfl, rfl⟩]
      have hs : m_t (f_fl (s_r (s_new M 52 12) 250 h 0 (m_n M)) 52 (m_n M) b i) (m_n M) = 52 := by rw [t_fl, t_sr]; exact tn_n
      have hz : m_z (f_fl (s_r (s_new M 52 12) 250 h 0 (m_n M)) 52 (m_n M) b i) (m_n M) = 12 := by rw [z_fl, z_sr]; exact zn_n
      have hl : m_t (f_fl (s_r (s_new M 52 12) 250 h 0 (m_n M)) 52 (m_n M) b i) h = 10 := by rw [t_fl, t_sr]; exact (Nw.kt nw).u ht
      have hbl : m_t (f_fl (s_r (s_new M 52 12) 250 h 0 (m_n M)) 52 (m_n M) b i) b = 7 := by rw [t_fl, t_sr]; exact (Nw.kt nw).u hb
      refine v_iload_n hC dX9_init_15 rfl rfl ?_
      refine v_bipush (v := 12) hC dX9_init_16 (by decide) ?_
      refine v_icmp_ge hC dX9_init_18 (tgt := 34) (by decide) (fun h18 => ?_) (fun h18 => ?_)
      · obtain rfl : i = 12 := by have := lp_ge (N := 12) h18; omega
        refine v_aload_n hC dX9_init_34 rfl rfl ?_
        refine v_bipush (v := 12) hC dX9_init_35 (by decide) ?_
        refine v_newi 24 hC (N := 12) (by decide) (by decide) (by decide) (by decide) (by decide) (Nat.le_of_ble_eq_true rfl) (Nat.le_of_ble_eq_true rfl) dX9_init_37 (fun nw37 => ?_)
        refine pf_9_7 hC ((Nw.kt (t := 24) (z := 12) nw37).u hl) tn_n mw_1_152 dX9_init_39 ?_
        refine v_aload_n hC dX9_init_42 rfl rfl ?_
        refine v_bipush (v := 12) hC dX9_init_43 (by decide) ?_
        refine v_newi 25 hC (N := 12) (by decide) (by decide) (by decide) (by decide) (by decide) (Nat.le_of_ble_eq_true rfl) (Nat.le_of_ble_eq_true rfl) dX9_init_45 (fun nw45 => ?_)
        refine pf_9_8 hC ((Nw.kt (t := 25) (z := 12) nw45).u ((Nw.kt (t := 24) (z := 12) nw37).u hl)) tn_n mw_1_156 dX9_init_47 ?_
        refine v_aload_n hC dX9_init_50 rfl rfl ?_
        refine cVv0 hC (c_X9_reset ((Nw.kt (t := 25) (z := 12) nw45).u ((Nw.kt (t := 24) (z := 12) nw37).u hl))) yv_X9_reset rfl ((Nw.kt (t := 25) (z := 12) nw45).u ((Nw.kt (t := 24) (z := 12) nw37).u hl)) mw_1_126 ⟨Nat.le_of_ble_eq_true rfl, Nat.le_of_ble_eq_true rfl⟩ ⟨Nat.le_of_ble_eq_true rfl, Nat.le_of_ble_eq_true rfl⟩ (Nat.le_of_ble_eq_true rfl) dX9_init_51 (fun M53 hq => ?_)
        subst hq
        refine v_wide (k := 3) (n := 36) (Nat.le_of_ble_eq_true rfl) (Nat.le_of_ble_eq_true rfl) ?_
        refine v_vret hC dX9_init_54 ?_
        exact rfl
      · refine v_aload_n hC dX9_init_21 rfl rfl ?_
        refine gf_9_6 hC hl (by rw [hr]; exact hs) mw_1_148 dX9_init_22 ?_
        rw [hr]
        refine v_iload_n hC dX9_init_25 rfl rfl ?_
        refine v_aload_n hC dX9_init_26 rfl rfl ?_
        refine v_aast 52 6 hC hs (by decide) rfl rfl (ix_c hz (lp_lt h18)) hbl dX9_init_27 ?_
        refine v_inc2 hC dX9_init_28 ((nI_succ i).symm) (by decide) (kk := ?_)
        refine v_goto hC dX9_init_31 (tgt := 15) (by decide) ?_
        exact ih (i + 1) (by omega) (by have := lp_lt (N := 12) h18; omega)
  refine v_aload_n hC dX9_init_0 rfl rfl ?_
  refine v_oinit hC mw_1_123 (Nat.le_of_ble_eq_true rfl) (Nat.le_of_ble_eq_true rfl) dX9_init_1 ?_
  refine v_aload_n hC dX9_init_4 rfl rfl ?_
  refine v_bipush (v := 12) hC dX9_init_5 (by decide) ?_
  refine v_newq 52 hC (N := 12) (by decide) rfl (by decide) (by decide) (by decide) mw_1_124 (by decide) (Nat.le_of_ble_eq_true rfl) (Nat.le_of_ble_eq_true rfl) dX9_init_7 (fun nw7 => ?_)
  refine pf_9_6 hC ((Nw.kt (t := 52) (z := 12) nw7).u ht) tn_n mw_1_148 dX9_init_10 ?_
  refine v_iconst (v := 0) hC dX9_init_13 (by decide) ?_
  refine v_ist2 hC dX9_init_14 (by decide) (kk := ?_)
  exact loop 13 0 (by omega) (by omega)
