set_option maxHeartbeats 4000000 in
set_option maxRecDepth 100000 in
theorem c_X5_reset {l : Launch} {G : Gd} {M : Me} {h : Nat} {r : Int32} (ht : m_t M h = 6) : CQ (Qv G (fun M2 => M2 = f_pR M h r)) l G yX5_reset cX5_reset 2 (none) 0 0 0 0 [.ref h, .int r] M := by
  refine c_of ([some (.ref h), some (.int r)] : Lo) RX5 "reset" (by decide) rfl rfl (Nat.le_of_ble_eq_true rfl) rfl (fun p e s m below meth c hC nw => ?_)
  refine v_aload_n hC dX5_reset_0 rfl rfl ?_
  refine v_iload_n hC dX5_reset_1 rfl rfl ?_
  refine pf_5_0 hC ht mw_1_103 dX5_reset_2 ?_
  refine v_aload_n hC dX5_reset_5 rfl rfl ?_
  refine v_iconst (v := 0) hC dX5_reset_6 (by decide) ?_
  refine pf_5_1 hC ht mw_1_105 dX5_reset_7 ?_
  refine v_aload_n hC dX5_reset_10 rfl rfl ?_
  refine v_bipush (v := (-5)) hC dX5_reset_11 (by decide) ?_
  refine pf_5_2 hC ht mw_1_107 dX5_reset_13 ?_
  refine v_vret hC dX5_reset_16 ?_
  exact rfl

set_option maxHeartbeats 4000000 in
set_option maxRecDepth 100000 in
theorem c_X5_init {l : Launch} {G : Gd} {M : Me} {h : Nat} (ht : m_t M h = 6) : CQ (Qv G (fun M2 => M2 = f_pR M h 0)) l G yX5_init cX5_init 1 (none) 1 22 0 0 [.ref h] M := by
  refine c_of ([some (.ref h)] : Lo) RX5 "<init>" (by decide) rfl rfl (Nat.le_of_ble_eq_true rfl) rfl (fun p e s m below meth c hC nw => ?_)
  refine v_aload_n hC dX5_init_0 rfl rfl ?_
  refine v_oinit hC mw_1_98 (Nat.le_of_ble_eq_true rfl) (Nat.le_of_ble_eq_true rfl) dX5_init_1 ?_
  refine v_aload_n hC dX5_init_4 rfl rfl ?_
  refine v_iconst (v := 0) hC dX5_init_5 (by decide) ?_
  refine cVv1 hC (c_X5_reset ht) yv_X5_reset rfl ht mw_1_99 ⟨Nat.le_of_ble_eq_true rfl, Nat.le_of_ble_eq_true rfl⟩ ⟨Nat.le_of_ble_eq_true rfl, Nat.le_of_ble_eq_true rfl⟩ (Nat.le_of_ble_eq_true rfl) dX5_init_6 (fun M8 hq => ?_)
  subst hq
  refine v_vret hC dX5_init_9 ?_
  exact rfl

set_option maxHeartbeats 4000000 in
set_option maxRecDepth 100000 in
theorem c_X9_reset {l : Launch} {G : Gd} {M : Me} {h : Nat} (ht : m_t M h = 10) : CQ (Qv G (fun M2 => M2 = f_wR M h)) l G yX9_reset cX9_reset 1 (none) 0 0 0 0 [.ref h] M := by
  refine c_of ([some (.ref h)] : Lo) RX9 "reset" (by decide) rfl rfl (Nat.le_of_ble_eq_true rfl) rfl (fun p e s m below meth c hC nw => ?_)
  refine v_aload_n hC dX9_reset_0 rfl rfl ?_
  refine v_iconst (v := 0) hC dX9_reset_1 (by decide) ?_
  refine pf_9_0 hC ht mw_1_130 dX9_reset_2 ?_
  refine v_aload_n hC dX9_reset_5 rfl rfl ?_
  refine v_bipush (v := (-5)) hC dX9_reset_6 (by decide) ?_
  refine pf_9_1 hC ht mw_1_133 dX9_reset_8 ?_
  refine v_aload_n hC dX9_reset_11 rfl rfl ?_
  refine v_bipush (v := (-5)) hC dX9_reset_12 (by decide) ?_
  refine pf_9_2 hC ht mw_1_136 dX9_reset_14 ?_
  refine v_aload_n hC dX9_reset_17 rfl rfl ?_
  refine v_bipush (v := (-5)) hC dX9_reset_18 (by decide) ?_
  refine pf_9_3 hC ht mw_1_139 dX9_reset_20 ?_
  refine v_aload_n hC dX9_reset_23 rfl rfl ?_
  refine v_iconst (v := 0) hC dX9_reset_24 (by decide) ?_
  refine pf_9_4 hC ht mw_1_142 dX9_reset_25 ?_
  refine v_aload_n hC dX9_reset_28 rfl rfl ?_
  refine v_iconst (v := 0) hC dX9_reset_29 (by decide) ?_
  refine pf_9_5 hC ht mw_1_144 dX9_reset_30 ?_
  refine v_vret hC dX9_reset_33 ?_
  exact rfl

set_option maxHeartbeats 4000000 in
set_option maxRecDepth 100000 in
theorem c_X0_reset {l : Launch} {G : Gd} {M : Me} {h : Nat} {x y z : Int32} (ht : m_t M h = 1) : CQ (Qv G (fun M2 => M2 = f_dR M h x y z)) l G yX0_reset cX0_reset 4 (none) 0 0 0 0 [.ref h, .int x, .int y, .int z] M := by
  refine c_of ([some (.ref h), some (.int x), some (.int y), some (.int z)] : Lo) RX0 "reset" (by decide) rfl rfl (Nat.le_of_ble_eq_true rfl) rfl (fun p e s m below meth c hC nw => ?_)
  refine v_aload_n hC dX0_reset_0 rfl rfl ?_
  refine v_iload_n hC dX0_reset_1 rfl rfl ?_
  refine pf_0_0 hC ht mw_1_224 dX0_reset_2 ?_
  refine v_aload_n hC dX0_reset_5 rfl rfl ?_
  refine v_iload_n hC dX0_reset_6 rfl rfl ?_
  refine pf_0_1 hC ht mw_1_228 dX0_reset_7 ?_
  refine v_aload_n hC dX0_reset_10 rfl rfl ?_
  refine v_iload_n hC dX0_reset_11 rfl rfl ?_
  refine pf_0_2 hC ht mw_1_231 dX0_reset_12 ?_
  refine v_aload_n hC dX0_reset_15 rfl rfl ?_
  refine v_iconst (v := 0) hC dX0_reset_16 (by decide) ?_
  refine pf_0_3 hC ht mw_1_234 dX0_reset_17 ?_
  refine v_vret hC dX0_reset_20 ?_
  exact rfl

set_option maxHeartbeats 4000000 in
set_option maxRecDepth 100000 in
theorem c_X0_init {l : Launch} {G : Gd} {M : Me} {h : Nat} (ht : m_t M h = 1) : CQ (Qv G (fun M2 => M2 = f_dR M h 0 0 0)) l G yX0_init cX0_init 1 (none) 1 23 0 0 [.ref h] M := by
  refine c_of ([some (.ref h)] : Lo) RX0 "<init>" (by decide) rfl rfl (Nat.le_of_ble_eq_true rfl) rfl (fun p e s m below meth c hC nw => ?_)
  refine v_aload_n hC dX0_init_0 rfl rfl ?_
  refine v_oinit hC mw_1_219 (Nat.le_of_ble_eq_true rfl) (Nat.le_of_ble_eq_true rfl) dX0_init_1 ?_
  refine v_aload_n hC dX0_init_4 rfl rfl ?_
  refine v_iconst (v := 0) hC dX0_init_5 (by decide) ?_
  refine v_iconst (v := 0) hC dX0_init_6 (by decide) ?_
  refine v_iconst (v := 0) hC dX0_init_7 (by decide) ?_
  refine cVv3 hC (c_X0_reset ht) yv_X0_reset rfl ht mw_1_220 ⟨Nat.le_of_ble_eq_true rfl, Nat.le_of_ble_eq_true rfl⟩ ⟨Nat.le_of_ble_eq_true rfl, Nat.le_of_ble_eq_true rfl⟩ (Nat.le_of_ble_eq_true rfl) dX0_init_8 (fun M10 hq => ?_)
  subst hq
  refine v_vret hC dX0_init_11 ?_
  exact rfl

set_option maxHeartbeats 4000000 in
set_option maxRecDepth 100000 in
theorem c_X1_reset {l : Launch} {G : Gd} {M : Me} {h g : Nat} {x : Int32} (ht : m_t M h = 2) (hg : m_t M g = 7) : CQ (Qv G (fun M2 => M2 = f_eR M h g x)) l G yX1_reset cX1_reset 3 (none) 0 0 0 0 [.ref h, .ref g, .int x] M := by
  refine c_of ([some (.ref h), some (.ref g), some (.int x)] : Lo) RX1 "reset" (by decide) rfl rfl (Nat.le_of_ble_eq_true rfl) rfl (fun p e s m below meth c hC nw => ?_)
  refine v_aload_n hC dX1_reset_0 rfl rfl ?_
  refine v_aload_n hC dX1_reset_1 rfl rfl ?_
  refine pf_1_0 hC ht hg mw_1_194 dX1_reset_2 ?_
  refine v_aload_n hC dX1_reset_5 rfl rfl ?_
  refine v_iload_n hC dX1_reset_6 rfl rfl ?_
  refine pf_1_1 hC ht mw_1_198 dX1_reset_7 ?_
  refine v_aload_n hC dX1_reset_10 rfl rfl ?_
  refine v_iconst (v := 0) hC dX1_reset_11 (by decide) ?_
  refine pf_1_2 hC ht (Or.inl rfl) mw_1_202 dX1_reset_12 ?_
  refine v_vret hC dX1_reset_15 ?_
  exact rfl

set_option maxHeartbeats 4000000 in
set_option maxRecDepth 100000 in
theorem c_X1_init {l : Launch} {G : Gd} {M : Me} {h g : Nat} (ht : m_t M h = 2) (hg : m_t M g = 7) : CQ (Qv G (fun M2 => M2 = f_eR M h g 0)) l G yX1_init cX1_init 2 (none) 1 22 0 0 [.ref h, .ref g] M := by
  refine c_of ([some (.ref h), some (.ref g)] : Lo) RX1 "<init>" (by decide) rfl rfl (Nat.le_of_ble_eq_true rfl) rfl (fun p e s m below meth c hC nw => ?_)
  refine v_aload_n hC dX1_init_0 rfl rfl ?_
  refine v_oinit hC mw_1_189 (Nat.le_of_ble_eq_true rfl) (Nat.le_of_ble_eq_true rfl) dX1_init_1 ?_
  refine v_aload_n hC dX1_init_4 rfl rfl ?_
  refine v_aload_n hC dX1_init_5 rfl rfl ?_
  refine v_iconst (v := 0) hC dX1_init_6 (by decide) ?_
  refine cVv2 hC (c_X1_reset ht hg) yv_X1_reset rfl ht mw_1_190 ⟨Nat.le_of_ble_eq_true rfl, Nat.le_of_ble_eq_true rfl⟩ ⟨Nat.le_of_ble_eq_true rfl, Nat.le_of_ble_eq_true rfl⟩ (Nat.le_of_ble_eq_true rfl) dX1_init_7 (fun M9 hq => ?_)
  subst hq
  refine v_vret hC dX1_init_10 ?_
  exact rfl

set_option maxHeartbeats 4000000 in
set_option maxRecDepth 100000 in
theorem c_X9_init {l : Launch} {G : Gd} {M : Me} {h b : Nat} (ht : m_t M h = 10) (hb : m_t M b = 7) : CQ (Qv G (fun M2 => M2 = f_wI M h b)) l G yX9_init cX9_init 3 (none) 1 22 3 36 [.ref h, .ref b] M := by
  refine c_of ([some (.ref h), some (.ref b), none] : Lo) RX9 "<init>" (by decide) rfl rfl (Nat.le_of_ble_eq_true rfl) rfl (fun p e s m below meth c hC nw => ?_)
  have loop : ∀ (k i : Nat), i + k = 13 → i ≤ 12 → V p l e (rmk 1 22 3 36) s m ([.ref h, .ref b] : List Value).toArray below meth c 3 G (MQ below (Qv G (fun M2 => M2 = f_wI M h b)) ([.ref h, .ref b] : List Value).toArray s 3 36 (fr_ G)) (f_fl (s_r (s_new M 52 12) 250 h 0 (m_n M)) 52 (m_n M) b i) 1 12 15 ([some (.ref h), some (.ref b), some (.int (nI i))] : Lo) [] := by
    intro k
    induction k with
    | zero => intro i h1 h2; omega
    | succ k ih =>
      intro i h1 h2
      have hr : m_r (f_fl (s_r (s_new M 52 12) 250 h 0 (m_n M)) 52 (m_n M) b i) 250 h 0 = m_n M := by rw [r_fl (by decide), r_sr, if_pos ⟨rfl, rfl, rfl⟩]
      have hs : m_t (f_fl (s_r (s_new M 52 12) 250 h 0 (m_n M)) 52 (m_n M) b i) (m_n M) = 52 := by rw [t_fl, t_sr]; exact tn_n
      have hz : m_z (f_fl (s_r (s_new M 52 12) 250 h 0 (m_n M)) 52 (m_n M) b i) (m_n M) = 12 := by rw [z_fl, z_sr]; exact zn_n
      have hl : m_t (f_fl (s_r (s_new M 52 12) 250 h 0 (m_n M)) 52 (m_n M) b i) h = 10 := by rw [t_fl, t_sr]; exact (Nw.kt nw).u ht
      have hbl : m_t (f_fl (s_r (s_new M 52 12) 250 h 0 (m_n M)) 52 (m_n M) b i) b = 7 := by rw [t_fl, t_sr]; exact (Nw.kt nw).u hb
      refine v_iload_n hC dX9_init_15 rfl rfl ?_
      refine v_bipush (v := 12) hC dX9_init_16 (by decide) ?_
      refine v_icmp_ge hC dX9_init_18 (tgt := 34) (by decide) (fun h18 => ?_) (fun h18 => ?_)
      · obtain rfl : i = k_12 := by have := lp_ge (N := 12) h18; have := k12; omega
        refine v_aload_n hC dX9_init_34 rfl rfl ?_
        refine v_bipush (v := 12) hC dX9_init_35 (by decide) ?_
        refine v_newi 24 hC (N := 12) (by decide) (by decide) (by decide) (by decide) (by decide) (Nat.le_of_ble_eq_true rfl) (Nat.le_of_ble_eq_true rfl) dX9_init_37 (fun nw37 => ?_)
        refine pf_9_7 hC ((Nw.kt (t := 24) (z := 12) nw37).u hl) (tn_n (z := 12)) mw_1_152 dX9_init_39 ?_
        refine v_aload_n hC dX9_init_42 rfl rfl ?_
        refine v_bipush (v := 12) hC dX9_init_43 (by decide) ?_
        refine v_newi 25 hC (N := 12) (by decide) (by decide) (by decide) (by decide) (by decide) (Nat.le_of_ble_eq_true rfl) (Nat.le_of_ble_eq_true rfl) dX9_init_45 (fun nw45 => ?_)
        refine pf_9_8 hC ((Nw.kt (t := 25) (z := 12) nw45).u ((Nw.kt (t := 24) (z := 12) nw37).u hl)) (tn_n (z := 12)) mw_1_156 dX9_init_47 ?_
        refine v_aload_n hC dX9_init_50 rfl rfl ?_
        refine cVv0 hC (c_X9_reset ((Nw.kt (t := 25) (z := 12) nw45).u ((Nw.kt (t := 24) (z := 12) nw37).u hl))) yv_X9_reset rfl ((Nw.kt (t := 25) (z := 12) nw45).u ((Nw.kt (t := 24) (z := 12) nw37).u hl)) mw_1_126 ⟨Nat.le_of_ble_eq_true rfl, Nat.le_of_ble_eq_true rfl⟩ ⟨Nat.le_of_ble_eq_true rfl, Nat.le_of_ble_eq_true rfl⟩ (Nat.le_of_ble_eq_true rfl) dX9_init_51 (fun M53 hq => ?_)
        subst hq
        refine v_wide (k := 3) (n := 36) (Nat.le_of_ble_eq_true rfl) (Nat.le_of_ble_eq_true rfl) ?_
        refine v_vret hC dX9_init_54 ?_
        exact rfl
      · refine v_aload_n hC dX9_init_21 rfl rfl ?_
        refine gf_9_6 hC hl (by rw [hr]; exact hs) mw_1_148 dX9_init_22 ?_
        rw [hr]
        refine v_iload_n hC dX9_init_25 rfl rfl ?_
        refine v_aload_n hC dX9_init_26 rfl rfl ?_
        refine v_aast 52 6 hC hs (by decide) rfl rfl (ix_c hz (lp_lt h18)) hbl dX9_init_27 ?_
        refine v_inc2 hC dX9_init_28 ((nI_succ i).symm) (by decide) (kk := ?_)
        refine v_goto hC dX9_init_31 (tgt := 15) (by decide) ?_
        exact ih (i + 1) (by omega) (by have := lp_lt (N := 12) h18; omega)
  refine v_aload_n hC dX9_init_0 rfl rfl ?_
  refine v_oinit hC mw_1_123 (Nat.le_of_ble_eq_true rfl) (Nat.le_of_ble_eq_true rfl) dX9_init_1 ?_
  refine v_aload_n hC dX9_init_4 rfl rfl ?_
  refine v_bipush (v := 12) hC dX9_init_5 (by decide) ?_
  refine v_newq 52 hC (N := 12) (by decide) rfl (by decide) (by decide) (by decide) mw_1_124 (by decide) (Nat.le_of_ble_eq_true rfl) (Nat.le_of_ble_eq_true rfl) dX9_init_7 (fun nw7 => ?_)
  refine pf_9_6 hC ((Nw.kt (t := 52) (z := 12) nw7).u ht) (tn_n (z := 12)) mw_1_148 dX9_init_10 ?_
  refine v_iconst (v := 0) hC dX9_init_13 (by decide) ?_
  refine v_ist2 hC dX9_init_14 (by decide) (kk := ?_)
  exact loop 13 0 (by omega) (by omega)

set_option maxHeartbeats 4000000 in
set_option maxRecDepth 100000 in
theorem c_X4_init {l : Launch} {G : Gd} {M : Me} {h me b : Nat} (ht : m_t M h = 5) (hme : m_t M me = 4) (hb : m_t M b = 7) : CQ (Qv G (fun M2 => M2 = f_MI M h me b)) l G yX4_init cX4_init 4 (none) 2 43 52 210 [.ref h, .ref me, .ref b] M := by
  refine c_of ([some (.ref h), some (.ref me), some (.ref b), none] : Lo) RX4 "<init>" (by decide) rfl rfl (Nat.le_of_ble_eq_true rfl) rfl (fun p e s m below meth c hC nw => ?_)
  have hB : h < m_n M := nw h (by rw [ht]; decide)
  have nwB1 : Nw (s_r (s_new (f_M1 M h me) 53 40) 165 h 0 (m_n (f_M1 M h me))) := Nw.sn (M := f_M1 M h me) (t := 53) (z := 40) nw
  have q2 := al_inv (mk := (fun X => f_eR (s_new X 2 0) (m_n X) b 0)) (t := 53) (c := 1) (u := 1) (P := m_n (f_M1 M h me)) (M := (s_r (s_new (f_M1 M h me) 53 40) 165 h 0 (m_n (f_M1 M h me)))) (h := h) (fld := 165) nwB1 (by rw [n_sr, n_sn]; exact Nat.lt_succ_of_lt hB) r_se (by rw [n_sr, n_sn]; omega) (by have : m_n (f_M1 M h me) = m_n M := rfl; omega) (fun X nwX kX => mkE nwX (kX.u ((Nw.kt (t := 53) (z := 40) nw).u hb))) k_40
  have nw3 : Nw (f_M3 M h me b) := q2.2.1
  have ht3 : m_t (f_M3 M h me b) h = 5 := q2.2.2.1.u ((Nw.kt (t := 53) (z := 40) nw).u ht)
  have hme3 : m_t (f_M3 M h me b) me = 4 := q2.2.2.1.u ((Nw.kt (t := 53) (z := 40) nw).u hme)
  have hb3 : m_t (f_M3 M h me b) b = 7 := q2.2.2.1.u ((Nw.kt (t := 53) (z := 40) nw).u hb)
  have hB3 : h < m_n (f_M3 M h me b) := nw3 h (by rw [ht3]; decide)
  have nwB2 : Nw (s_r (s_new (f_M3 M h me b) 54 10) 167 h 0 (m_n (f_M3 M h me b))) := Nw.sn (M := f_M3 M h me b) (t := 54) (z := 10) nw3
  have loop2 : ∀ (k i : Nat), i + k = 11 → i ≤ 10 → V p l e (rmk 2 43 52 210) s m ([.ref h, .ref me, .ref b] : List Value).toArray below meth c 4 G (MQ below (Qv G (fun M2 => M2 = f_MI M h me b)) ([.ref h, .ref me, .ref b] : List Value).toArray s 52 210 (fr_ G)) (f_al (fun X => f_dR (s_new X 1 0) (m_n X) 0 0 0) (s_r (s_new (f_M3 M h me b) 54 10) 167 h 0 (m_n (f_M3 M h me b))) 167 h 54 i) (42 + 1 * i) (170 + 4 * i) 62 ([some (.ref h), some (.ref me), some (.ref b), some (.int (nI i))] : Lo) [] := by
    intro k
    induction k with
    | zero => intro i h1 h2; omega
    | succ k ih =>
      intro i h1 h2
      have ai := al_inv (mk := (fun X => f_dR (s_new X 1 0) (m_n X) 0 0 0)) (t := 54) (c := 1) (u := 0) (P := m_n (f_M3 M h me b)) (M := (s_r (s_new (f_M3 M h me b) 54 10) 167 h 0 (m_n (f_M3 M h me b)))) (h := h) (fld := 167) nwB2 (by rw [n_sr, n_sn]; omega) r_se (by rw [n_sr, n_sn]; omega) (by omega) (fun X nwX kX => mkD nwX) i
      have hs : m_t (f_al (fun X => f_dR (s_new X 1 0) (m_n X) 0 0 0) (s_r (s_new (f_M3 M h me b) 54 10) 167 h 0 (m_n (f_M3 M h me b))) 167 h 54 i) (m_r (f_al (fun X => f_dR (s_new X 1 0) (m_n X) 0 0 0) (s_r (s_new (f_M3 M h me b) 54 10) 167 h 0 (m_n (f_M3 M h me b))) 167 h 54 i) 167 h 0) = 54 := by rw [ai.2.2.2.2.2.1, ai.2.2.2.2.1.1, t_sr]; exact tn_n (z := 10)
      have hz : m_z (f_al (fun X => f_dR (s_new X 1 0) (m_n X) 0 0 0) (s_r (s_new (f_M3 M h me b) 54 10) 167 h 0 (m_n (f_M3 M h me b))) 167 h 54 i) (m_r (f_al (fun X => f_dR (s_new X 1 0) (m_n X) 0 0 0) (s_r (s_new (f_M3 M h me b) 54 10) 167 h 0 (m_n (f_M3 M h me b))) 167 h 54 i) 167 h 0) = 10 := by rw [ai.2.2.2.2.2.1, ai.2.2.2.2.1.2, z_sr]; exact zn_n (t := 54)
      have hl := ai.2.2.1.u ((Nw.kt (t := 54) (z := 10) nw3).u ht3)
      have hml := ai.2.2.1.u ((Nw.kt (t := 54) (z := 10) nw3).u hme3)
      have hbl := ai.2.2.1.u ((Nw.kt (t := 54) (z := 10) nw3).u hb3)
      refine v_iload_n hC dX4_init_62 rfl rfl ?_
      refine v_bipush (v := 10) hC dX4_init_63 (by decide) ?_
      refine v_icmp_ge hC dX4_init_65 (tgt := 87) (by decide) (fun h65 => ?_) (fun h65 => ?_)
      · obtain rfl : i = k_10 := by have := lp_ge (N := 10) h65; have := k10; omega
        refine v_aload_n hC dX4_init_87 rfl rfl ?_
        refine v_iconst (v := 0) hC dX4_init_88 (by decide) ?_
        refine pf_4_4 hC hl mw_2_15 dX4_init_89 ?_
        refine v_wide (k := 52) (n := 210) (by have := k10; omega) (by have := k10; omega) ?_
        refine v_vret hC dX4_init_92 ?_
        exact rfl
      · have hi := lp_lt (N := 10) h65
        refine v_aload_n hC dX4_init_68 rfl rfl ?_
        refine gf_4_3 hC hl hs mw_2_12 dX4_init_69 ?_
        refine v_iload_n hC dX4_init_72 rfl rfl ?_
        refine nw_0 hC mw_1_213 (by show _ ≤ (52 : Nat); omega) (by show _ ≤ (210 : Nat); omega) dX4_init_73 (fun nw73 => ?_)
        refine v_dup hC dX4_init_76 rfl ?_
        refine cIv0 hC (c_X0_init (tn_n (z := 0))) yi_X0_init mw_1_216 ⟨Nat.le_of_ble_eq_true rfl, Nat.le_of_ble_eq_true rfl⟩ ⟨(by show _ ≤ (52 : Nat); omega), (by show _ ≤ (210 : Nat); omega)⟩ (Nat.le_of_ble_eq_true rfl) dX4_init_77 (fun M79 hq => ?_)
        subst hq
        refine v_aast 54 0 hC ((Nw.kt (t := 1) (z := 0) nw73).u hs) (by decide) rfl rfl (ix_c ((zn_o (t2 := 1) (z := 0) nw73 hs).trans hz) hi) (tn_n (z := 0)) dX4_init_80 ?_
        refine v_inc3 hC dX4_init_81 ((nI_succ i).symm) (by decide) (kk := ?_)
        refine v_goto hC dX4_init_84 (tgt := 62) (by decide) ?_
        refine v_wide (k := 42 + 1 * (i + 1)) (n := 170 + 4 * (i + 1)) (by omega) (by omega) ?_
        exact ih (i + 1) (by omega) (by omega)
  have loop1 : ∀ (k i : Nat), i + k = 41 → i ≤ 40 → V p l e (rmk 2 43 52 210) s m ([.ref h, .ref me, .ref b] : List Value).toArray below meth c 4 G (MQ below (Qv G (fun M2 => M2 = f_MI M h me b)) ([.ref h, .ref me, .ref b] : List Value).toArray s 52 210 (fr_ G)) (f_al (fun X => f_eR (s_new X 2 0) (m_n X) b 0) (s_r (s_new (f_M1 M h me) 53 40) 165 h 0 (m_n (f_M1 M h me))) 165 h 53 i) (1 + 1 * i) (40 + 3 * i) 20 ([some (.ref h), some (.ref me), some (.ref b), some (.int (nI i))] : Lo) [] := by
    intro k
    induction k with
    | zero => intro i h1 h2; omega
    | succ k ih =>
      intro i h1 h2
      have ai := al_inv (mk := (fun X => f_eR (s_new X 2 0) (m_n X) b 0)) (t := 53) (c := 1) (u := 1) (P := m_n (f_M1 M h me)) (M := (s_r (s_new (f_M1 M h me) 53 40) 165 h 0 (m_n (f_M1 M h me)))) (h := h) (fld := 165) nwB1 (by rw [n_sr, n_sn]; exact Nat.lt_succ_of_lt hB) r_se (by rw [n_sr, n_sn]; omega) (by have : m_n (f_M1 M h me) = m_n M := rfl; omega) (fun X nwX kX => mkE nwX (kX.u ((Nw.kt (t := 53) (z := 40) nw).u hb))) i
      have hs : m_t (f_al (fun X => f_eR (s_new X 2 0) (m_n X) b 0) (s_r (s_new (f_M1 M h me) 53 40) 165 h 0 (m_n (f_M1 M h me))) 165 h 53 i) (m_r (f_al (fun X => f_eR (s_new X 2 0) (m_n X) b 0) (s_r (s_new (f_M1 M h me) 53 40) 165 h 0 (m_n (f_M1 M h me))) 165 h 53 i) 165 h 0) = 53 := by rw [ai.2.2.2.2.2.1, ai.2.2.2.2.1.1, t_sr]; exact tn_n (z := 40)
      have hz : m_z (f_al (fun X => f_eR (s_new X 2 0) (m_n X) b 0) (s_r (s_new (f_M1 M h me) 53 40) 165 h 0 (m_n (f_M1 M h me))) 165 h 53 i) (m_r (f_al (fun X => f_eR (s_new X 2 0) (m_n X) b 0) (s_r (s_new (f_M1 M h me) 53 40) 165 h 0 (m_n (f_M1 M h me))) 165 h 53 i) 165 h 0) = 40 := by rw [ai.2.2.2.2.2.1, ai.2.2.2.2.1.2, z_sr]; exact zn_n (t := 53)
      have hl := ai.2.2.1.u ((Nw.kt (t := 53) (z := 40) nw).u ht)
      have hml := ai.2.2.1.u ((Nw.kt (t := 53) (z := 40) nw).u hme)
      have hbl := ai.2.2.1.u ((Nw.kt (t := 53) (z := 40) nw).u hb)
      refine v_iload_n hC dX4_init_20 rfl rfl ?_
      refine v_bipush (v := 40) hC dX4_init_21 (by decide) ?_
      refine v_icmp_ge hC dX4_init_23 (tgt := 46) (by decide) (fun h23 => ?_) (fun h23 => ?_)
      · obtain rfl : i = k_40 := by have := lp_ge (N := 40) h23; have := k40; omega
        refine v_aload_n hC dX4_init_46 rfl rfl ?_
        refine v_iconst (v := 0) hC dX4_init_47 (by decide) ?_
        refine pf_4_2 hC hl mw_2_10 dX4_init_48 ?_
        refine v_aload_n hC dX4_init_51 rfl rfl ?_
        refine v_bipush (v := 10) hC dX4_init_52 (by decide) ?_
        refine v_newq 54 hC (N := 10) (by decide) rfl (by decide) (by decide) (by decide) mw_1_213 (by decide) (by have := k40; show _ ≤ (52 : Nat); omega) (by have := k40; show _ ≤ (210 : Nat); omega) dX4_init_54 (fun nw54 => ?_)
        refine pf_4_3 hC ((Nw.kt (t := 54) (z := 10) nw54).u hl) (tn_n (z := 10)) mw_2_12 dX4_init_57 ?_
        refine v_iconst (v := 0) hC dX4_init_60 (by decide) ?_
        refine v_ist3 hC dX4_init_61 (by decide) (kk := ?_)
        refine v_wide (k := 42 + 1 * 0) (n := 170 + 4 * 0) (by have := k40; omega) (by have := k40; omega) ?_
        exact loop2 11 0 (by omega) (by omega)
      · have hi := lp_lt (N := 40) h23
        refine v_aload_n hC dX4_init_26 rfl rfl ?_
        refine gf_4_1 hC hl hs mw_2_7 dX4_init_27 ?_
        refine v_iload_n hC dX4_init_30 rfl rfl ?_
        refine nw_1 hC mw_1_183 (by show _ ≤ (52 : Nat); omega) (by show _ ≤ (210 : Nat); omega) dX4_init_31 (fun nw31 => ?_)
        refine v_dup hC dX4_init_34 rfl ?_
        refine v_aload_n hC dX4_init_35 rfl rfl ?_
        refine cIv1 hC (c_X1_init (tn_n (z := 0)) ((Nw.kt (t := 2) (z := 0) nw31).u hbl)) yi_X1_init mw_1_186 ⟨Nat.le_of_ble_eq_true rfl, Nat.le_of_ble_eq_true rfl⟩ ⟨(by show _ ≤ (52 : Nat); omega), (by show _ ≤ (210 : Nat); omega)⟩ (Nat.le_of_ble_eq_true rfl) dX4_init_36 (fun M38 hq => ?_)
        subst hq
        refine v_aast 53 1 hC ((Nw.kt (t := 2) (z := 0) nw31).u hs) (by decide) rfl rfl (ix_c ((zn_o (t2 := 2) (z := 0) nw31 hs).trans hz) hi) (tn_n (z := 0)) dX4_init_39 ?_
        refine v_inc3 hC dX4_init_40 ((nI_succ i).symm) (by decide) (kk := ?_)
        refine v_goto hC dX4_init_43 (tgt := 20) (by decide) ?_
        refine v_wide (k := 1 + 1 * (i + 1)) (n := 40 + 3 * (i + 1)) (by omega) (by omega) ?_
        exact ih (i + 1) (by omega) (by omega)
  refine v_aload_n hC dX4_init_0 rfl rfl ?_
  refine v_oinit hC mw_1_182 (Nat.le_of_ble_eq_true rfl) (Nat.le_of_ble_eq_true rfl) dX4_init_1 ?_
  refine v_aload_n hC dX4_init_4 rfl rfl ?_
  refine v_aload_n hC dX4_init_5 rfl rfl ?_
  refine pf_4_0 hC ht hme mw_2_6 dX4_init_6 ?_
  refine v_aload_n hC dX4_init_9 rfl rfl ?_
  refine v_bipush (v := 40) hC dX4_init_10 (by decide) ?_
  refine v_newq 53 hC (N := 40) (by decide) rfl (by decide) (by decide) (by decide) mw_1_183 (by decide) (Nat.le_of_ble_eq_true rfl) (Nat.le_of_ble_eq_true rfl) dX4_init_12 (fun nw12 => ?_)
  refine pf_4_1 hC ((Nw.kt (t := 53) (z := 40) nw12).u ht) (tn_n (z := 40)) mw_2_7 dX4_init_15 ?_
  refine v_iconst (v := 0) hC dX4_init_18 (by decide) ?_
  refine v_ist3 hC dX4_init_19 (by decide) (kk := ?_)
  refine v_wide (k := 1 + 1 * 0) (n := 40 + 3 * 0) (by omega) (by omega) ?_
  exact loop1 41 0 (by omega) (by omega)

set_option maxHeartbeats 4000000 in
set_option maxRecDepth 100000 in
theorem c_X7_init {l : Launch} {G : Gd} {M : Me} {h me b : Nat} (ht : m_t M h = 8) (hme : m_t M me = 4) (hb : m_t M b = 7) : CQ (Qv G (fun M2 => M2 = f_SI M h me b)) l G yX7_init cX7_init 4 (none) 3 66 96 627 [.ref h, .ref me, .ref b] M := by
  refine c_of ([some (.ref h), some (.ref me), some (.ref b), none] : Lo) RX7 "<init>" (by decide) rfl rfl (Nat.le_of_ble_eq_true rfl) rfl (fun p e s m below meth c hC nw => ?_)
  have hB : h < m_n M := nw h (by rw [ht]; decide)
  have nw1 : Nw (f_S1 M h) := sh_nw nw
  have ht1 : m_t (f_S1 M h) h = 8 := (sh_kt nw).u ht
  have hme1 : m_t (f_S1 M h) me = 4 := (sh_kt nw).u hme
  have hb1 : m_t (f_S1 M h) b = 7 := (sh_kt nw).u hb
  have hB1 : h < m_n (f_S1 M h) := nw1 h (by rw [ht1]; decide)
  have nwB1 : Nw (s_r (s_new (f_S1 M h) 50 6) 213 h 0 (m_n (f_S1 M h))) := Nw.sn (M := (f_S1 M h)) (t := 50) (z := 6) nw1
  have q2 := al_inv (mk := (fun X => f_pR (s_new X 6 0) (m_n X) 0)) (t := 50) (c := 1) (u := 5) (P := m_n (f_S1 M h)) (M := (s_r (s_new (f_S1 M h) 50 6) 213 h 0 (m_n (f_S1 M h)))) (h := h) (fld := 213) nwB1 (by rw [n_sr, n_sn]; omega) r_se (by rw [n_sr, n_sn]; omega) (by omega) (fun X nwX kX => mkP nwX) k_6
  have nw3 : Nw (f_S3 M h) := q2.2.1
  have ht3 : m_t (f_S3 M h) h = 8 := q2.2.2.1.u ((Nw.kt (t := 50) (z := 6) nw1).u ht1)
  have hme3 : m_t (f_S3 M h) me = 4 := q2.2.2.1.u ((Nw.kt (t := 50) (z := 6) nw1).u hme1)
  have hb3 : m_t (f_S3 M h) b = 7 := q2.2.2.1.u ((Nw.kt (t := 50) (z := 6) nw1).u hb1)
  have hB3 : h < m_n (f_S3 M h) := nw3 h (by rw [ht3]; decide)
  have nwB2 : Nw (s_r (s_new (f_S3 M h) 51 8) 215 h 0 (m_n (f_S3 M h))) := Nw.sn (M := (f_S3 M h)) (t := 51) (z := 8) nw3
  have loop2 : ∀ (k i : Nat), i + k = 9 → i ≤ 8 → V p l e (rmk 3 66 96 627) s m ([.ref h, .ref me, .ref b] : List Value).toArray below meth c 4 G (MQ below (Qv G (fun M2 => M2 = f_SI M h me b)) ([.ref h, .ref me, .ref b] : List Value).toArray s 96 627 (fr_ G)) (f_al (fun X => f_wI (s_new X 10 0) (m_n X) b) (s_r (s_new (f_S3 M h) 51 8) 215 h 0 (m_n (f_S3 M h))) 215 h 51 i) (9 + 4 * i) (38 + 45 * i) 69 ([some (.ref h), some (.ref me), some (.ref b), some (.int (nI i))] : Lo) [] := by
    intro k
    induction k with
    | zero => intro i h1 h2; omega
    | succ k ih =>
      intro i h1 h2
      have ai := al_inv (mk := (fun X => f_wI (s_new X 10 0) (m_n X) b)) (t := 51) (c := 4) (u := 9) (P := m_n (f_S3 M h)) (M := (s_r (s_new (f_S3 M h) 51 8) 215 h 0 (m_n (f_S3 M h)))) (h := h) (fld := 215) nwB2 (by rw [n_sr, n_sn]; omega) r_se (by rw [n_sr, n_sn]; omega) (by omega) (fun X nwX kX => mkW nwX (kX.u ((Nw.kt (t := 51) (z := 8) nw3).u hb3))) i
      have hs : m_t (f_al (fun X => f_wI (s_new X 10 0) (m_n X) b) (s_r (s_new (f_S3 M h) 51 8) 215 h 0 (m_n (f_S3 M h))) 215 h 51 i) (m_r (f_al (fun X => f_wI (s_new X 10 0) (m_n X) b) (s_r (s_new (f_S3 M h) 51 8) 215 h 0 (m_n (f_S3 M h))) 215 h 51 i) 215 h 0) = 51 := by rw [ai.2.2.2.2.2.1, ai.2.2.2.2.1.1, t_sr]; exact tn_n (z := 8)
      have hz : m_z (f_al (fun X => f_wI (s_new X 10 0) (m_n X) b) (s_r (s_new (f_S3 M h) 51 8) 215 h 0 (m_n (f_S3 M h))) 215 h 51 i) (m_r (f_al (fun X => f_wI (s_new X 10 0) (m_n X) b) (s_r (s_new (f_S3 M h) 51 8) 215 h 0 (m_n (f_S3 M h))) 215 h 51 i) 215 h 0) = 8 := by rw [ai.2.2.2.2.2.1, ai.2.2.2.2.1.2, z_sr]; exact zn_n (t := 51)
      have hl := ai.2.2.1.u ((Nw.kt (t := 51) (z := 8) nw3).u ht3)
      have hml := ai.2.2.1.u ((Nw.kt (t := 51) (z := 8) nw3).u hme3)
      have hbl := ai.2.2.1.u ((Nw.kt (t := 51) (z := 8) nw3).u hb3)
      refine v_iload_n hC dX7_init_69 rfl rfl ?_
      refine v_bipush (v := 8) hC dX7_init_70 (by decide) ?_
      refine v_icmp_ge hC dX7_init_72 (tgt := 95) (by decide) (fun h72 => ?_) (fun h72 => ?_)
      · obtain rfl : i = k_8 := by have := lp_ge (N := 8) h72; have := k8; omega
        refine v_aload_n hC dX7_init_95 rfl rfl ?_
        refine v_iconst (v := 0) hC dX7_init_96 (by decide) ?_
        refine pf_7_4 hC hl mw_2_36 dX7_init_97 ?_
        refine v_aload_n hC dX7_init_100 rfl rfl ?_
        refine v_bipush (v := 8) hC dX7_init_101 (by decide) ?_
        refine v_newi 21 hC (N := 8) (by decide) (by decide) (by decide) (by decide) (by decide) (by have := k6; have := k8; show _ ≤ (96 : Nat); omega) (by have := k6; have := k8; show _ ≤ (627 : Nat); omega) dX7_init_103 (fun nw103 => ?_)
        refine pf_7_5 hC ((Nw.kt (t := 21) (z := 8) nw103).u hl) (tn_n (z := 8)) mw_2_38 dX7_init_105 ?_
        refine v_aload_n hC dX7_init_108 rfl rfl ?_
        refine nw_4 hC mw_1_177 (by have := k6; have := k8; show _ ≤ (96 : Nat); omega) (by have := k6; have := k8; show _ ≤ (627 : Nat); omega) dX7_init_109 (fun nw109 => ?_)
        refine v_dup hC dX7_init_112 rfl ?_
        refine v_aload_n hC dX7_init_113 rfl rfl ?_
        refine v_aload_n hC dX7_init_114 rfl rfl ?_
        refine cIv2 hC (c_X4_init (tn_n (z := 0)) ((Nw.kt (t := 5) (z := 0) nw109).u ((Nw.kt (t := 21) (z := 8) nw103).u hml)) ((Nw.kt (t := 5) (z := 0) nw109).u ((Nw.kt (t := 21) (z := 8) nw103).u hbl))) yi_X4_init mw_1_179 ⟨Nat.le_of_ble_eq_true rfl, Nat.le_of_ble_eq_true rfl⟩ ⟨(by have := k6; have := k8; show _ ≤ (96 : Nat); omega), (by have := k6; have := k8; show _ ≤ (627 : Nat); omega)⟩ (Nat.le_of_ble_eq_true rfl) dX7_init_115 (fun M117 hq => ?_)
        subst hq
        have cn115 := (MI_cn (nw109.sn (t := 5) (z := 0)) (tn_n (M := f_S6 M h b) (t := 5) (z := 0)) ((Nw.kt (t := 5) (z := 0) nw109).u ((Nw.kt (t := 21) (z := 8) nw103).u hml)) ((Nw.kt (t := 5) (z := 0) nw109).u ((Nw.kt (t := 21) (z := 8) nw103).u hbl))).1
        have kt115 := cn115.1.kt (nw109.sn (t := 5) (z := 0))
        refine pf_7_6 hC (kt115.u ((Nw.kt (t := 5) (z := 0) nw109).u ((Nw.kt (t := 21) (z := 8) nw103).u hl))) (kt115.u (tn_n (z := 0))) mw_2_40 dX7_init_118 ?_
        refine v_aload_n hC dX7_init_121 rfl rfl ?_
        refine v_bipush (v := 6) hC dX7_init_122 (by decide) ?_
        refine v_newi 22 hC (N := 6) (by decide) (by decide) (by decide) (by decide) (by decide) (by have := k6; have := k8; show _ ≤ (96 : Nat); omega) (by have := k6; have := k8; show _ ≤ (627 : Nat); omega) dX7_init_124 (fun nw124 => ?_)
        refine pf_7_7 hC ((Nw.kt (t := 22) (z := 6) nw124).u (kt115.u ((Nw.kt (t := 5) (z := 0) nw109).u ((Nw.kt (t := 21) (z := 8) nw103).u hl)))) (tn_n (z := 6)) mw_2_42 dX7_init_126 ?_
        refine v_wide (k := 96) (n := 627) (by have := k6; have := k8; omega) (by have := k6; have := k8; omega) ?_
        refine v_vret hC dX7_init_129 ?_
        exact rfl
      · have hi := lp_lt (N := 8) h72
        refine v_aload_n hC dX7_init_75 rfl rfl ?_
        refine gf_7_3 hC hl hs mw_2_34 dX7_init_76 ?_
        refine v_iload_n hC dX7_init_79 rfl rfl ?_
        refine nw_9 hC mw_1_117 (by show _ ≤ (96 : Nat); omega) (by show _ ≤ (627 : Nat); omega) dX7_init_80 (fun nw80 => ?_)
        refine v_dup hC dX7_init_83 rfl ?_
        refine v_aload_n hC dX7_init_84 rfl rfl ?_
        refine cIv1 hC (c_X9_init (tn_n (z := 0)) ((Nw.kt (t := 10) (z := 0) nw80).u hbl)) yi_X9_init mw_1_120 ⟨Nat.le_of_ble_eq_true rfl, Nat.le_of_ble_eq_true rfl⟩ ⟨(by show _ ≤ (96 : Nat); omega), (by show _ ≤ (627 : Nat); omega)⟩ (Nat.le_of_ble_eq_true rfl) dX7_init_85 (fun M87 hq => ?_)
        subst hq
        have cn85 := wI_cn (nw80.sn (t := 10) (z := 0)) (tn_n (M := (f_al (fun X => f_wI (s_new X 10 0) (m_n X) b) (s_r (s_new (f_S3 M h) 51 8) 215 h 0 (m_n (f_S3 M h))) 215 h 51 i)) (t := 10) (z := 0)) ((Nw.kt (t := 10) (z := 0) nw80).u hbl)
        have kt85 := cn85.1.kt (nw80.sn (t := 10) (z := 0))
        have hz85 : m_z (f_wI (s_new (f_al (fun X => f_wI (s_new X 10 0) (m_n X) b) (s_r (s_new (f_S3 M h) 51 8) 215 h 0 (m_n (f_S3 M h))) 215 h 51 i) 10 0) (m_n (f_al (fun X => f_wI (s_new X 10 0) (m_n X) b) (s_r (s_new (f_S3 M h) 51 8) 215 h 0 (m_n (f_S3 M h))) 215 h 51 i)) b) (m_r (f_al (fun X => f_wI (s_new X 10 0) (m_n X) b) (s_r (s_new (f_S3 M h) 51 8) 215 h 0 (m_n (f_S3 M h))) 215 h 51 i) 215 h 0) = 8 := by
          have hs2 := (Nw.kt (t := 10) (z := 0) nw80).u hs
          have h9 := nw80 (m_r (f_al (fun X => f_wI (s_new X 10 0) (m_n X) b) (s_r (s_new (f_S3 M h) 51 8) 215 h 0 (m_n (f_S3 M h))) 215 h 51 i) 215 h 0) (by rw [hs]; decide)
          rw [(cn85.1.2.2.1 (m_r (f_al (fun X => f_wI (s_new X 10 0) (m_n X) b) (s_r (s_new (f_S3 M h) 51 8) 215 h 0 (m_n (f_S3 M h))) 215 h 51 i) 215 h 0) (by rw [n_sn]; omega) (by omega)).2.1, zn_o nw80 hs]; exact hz
        refine v_aast 51 9 hC (kt85.u ((Nw.kt (t := 10) (z := 0) nw80).u hs)) (by decide) rfl rfl (ix_c (hz85) hi) (kt85.u (tn_n (z := 0))) dX7_init_88 ?_
        refine v_inc3 hC dX7_init_89 ((nI_succ i).symm) (by decide) (kk := ?_)
        refine v_goto hC dX7_init_92 (tgt := 69) (by decide) ?_
        refine v_wide (k := 9 + 4 * (i + 1)) (n := 38 + 45 * (i + 1)) (by omega) (by omega) ?_
        exact ih (i + 1) (by omega) (by omega)
  have loop1 : ∀ (k i : Nat), i + k = 7 → i ≤ 6 → V p l e (rmk 3 66 96 627) s m ([.ref h, .ref me, .ref b] : List Value).toArray below meth c 4 G (MQ below (Qv G (fun M2 => M2 = f_SI M h me b)) ([.ref h, .ref me, .ref b] : List Value).toArray s 96 627 (fr_ G)) (f_al (fun X => f_pR (s_new X 6 0) (m_n X) 0) (s_r (s_new (f_S1 M h) 50 6) 213 h 0 (m_n (f_S1 M h))) 213 h 50 i) (2 + 1 * i) (12 + 3 * i) 28 ([some (.ref h), some (.ref me), some (.ref b), some (.int (nI i))] : Lo) [] := by
    intro k
    induction k with
    | zero => intro i h1 h2; omega
    | succ k ih =>
      intro i h1 h2
      have ai := al_inv (mk := (fun X => f_pR (s_new X 6 0) (m_n X) 0)) (t := 50) (c := 1) (u := 5) (P := m_n (f_S1 M h)) (M := (s_r (s_new (f_S1 M h) 50 6) 213 h 0 (m_n (f_S1 M h)))) (h := h) (fld := 213) nwB1 (by rw [n_sr, n_sn]; omega) r_se (by rw [n_sr, n_sn]; omega) (by omega) (fun X nwX kX => mkP nwX) i
      have hs : m_t (f_al (fun X => f_pR (s_new X 6 0) (m_n X) 0) (s_r (s_new (f_S1 M h) 50 6) 213 h 0 (m_n (f_S1 M h))) 213 h 50 i) (m_r (f_al (fun X => f_pR (s_new X 6 0) (m_n X) 0) (s_r (s_new (f_S1 M h) 50 6) 213 h 0 (m_n (f_S1 M h))) 213 h 50 i) 213 h 0) = 50 := by rw [ai.2.2.2.2.2.1, ai.2.2.2.2.1.1, t_sr]; exact tn_n (z := 6)
      have hz : m_z (f_al (fun X => f_pR (s_new X 6 0) (m_n X) 0) (s_r (s_new (f_S1 M h) 50 6) 213 h 0 (m_n (f_S1 M h))) 213 h 50 i) (m_r (f_al (fun X => f_pR (s_new X 6 0) (m_n X) 0) (s_r (s_new (f_S1 M h) 50 6) 213 h 0 (m_n (f_S1 M h))) 213 h 50 i) 213 h 0) = 6 := by rw [ai.2.2.2.2.2.1, ai.2.2.2.2.1.2, z_sr]; exact zn_n (t := 50)
      have hl := ai.2.2.1.u ((Nw.kt (t := 50) (z := 6) nw1).u ht1)
      have hml := ai.2.2.1.u ((Nw.kt (t := 50) (z := 6) nw1).u hme1)
      have hbl := ai.2.2.1.u ((Nw.kt (t := 50) (z := 6) nw1).u hb1)
      refine v_iload_n hC dX7_init_28 rfl rfl ?_
      refine v_bipush (v := 6) hC dX7_init_29 (by decide) ?_
      refine v_icmp_ge hC dX7_init_31 (tgt := 53) (by decide) (fun h31 => ?_) (fun h31 => ?_)
      · obtain rfl : i = k_6 := by have := lp_ge (N := 6) h31; have := k6; omega
        refine v_aload_n hC dX7_init_53 rfl rfl ?_
        refine v_iconst (v := 0) hC dX7_init_54 (by decide) ?_
        refine pf_7_2 hC hl mw_2_32 dX7_init_55 ?_
        refine v_aload_n hC dX7_init_58 rfl rfl ?_
        refine v_bipush (v := 8) hC dX7_init_59 (by decide) ?_
        refine v_newq 51 hC (N := 8) (by decide) rfl (by decide) (by decide) (by decide) mw_1_117 (by decide) (by have := k6; have := k8; show _ ≤ (96 : Nat); omega) (by have := k6; have := k8; show _ ≤ (627 : Nat); omega) dX7_init_61 (fun nw61 => ?_)
        refine pf_7_3 hC ((Nw.kt (t := 51) (z := 8) nw61).u hl) (tn_n (z := 8)) mw_2_34 dX7_init_64 ?_
        refine v_iconst (v := 0) hC dX7_init_67 (by decide) ?_
        refine v_ist3 hC dX7_init_68 (by decide) (kk := ?_)
        refine v_wide (k := 9 + 4 * 0) (n := 38 + 45 * 0) (by have := k6; omega) (by have := k6; omega) ?_
        exact loop2 9 0 (by omega) (by omega)
      · have hi := lp_lt (N := 6) h31
        refine v_aload_n hC dX7_init_34 rfl rfl ?_
        refine gf_7_1 hC hl hs mw_2_30 dX7_init_35 ?_
        refine v_iload_n hC dX7_init_38 rfl rfl ?_
        refine nw_5 hC mw_1_92 (by show _ ≤ (96 : Nat); omega) (by show _ ≤ (627 : Nat); omega) dX7_init_39 (fun nw39 => ?_)
        refine v_dup hC dX7_init_42 rfl ?_
        refine cIv0 hC (c_X5_init (tn_n (z := 0))) yi_X5_init mw_1_95 ⟨Nat.le_of_ble_eq_true rfl, Nat.le_of_ble_eq_true rfl⟩ ⟨(by show _ ≤ (96 : Nat); omega), (by show _ ≤ (627 : Nat); omega)⟩ (Nat.le_of_ble_eq_true rfl) dX7_init_43 (fun M45 hq => ?_)
        subst hq
        refine v_aast 50 5 hC ((Nw.kt (t := 6) (z := 0) nw39).u hs) (by decide) rfl rfl (ix_c ((zn_o (t2 := 6) (z := 0) nw39 hs).trans hz) hi) (tn_n (z := 0)) dX7_init_46 ?_
        refine v_inc3 hC dX7_init_47 ((nI_succ i).symm) (by decide) (kk := ?_)
        refine v_goto hC dX7_init_50 (tgt := 28) (by decide) ?_
        refine v_wide (k := 2 + 1 * (i + 1)) (n := 12 + 3 * (i + 1)) (by omega) (by omega) ?_
        exact ih (i + 1) (by omega) (by omega)
  refine v_aload_n hC dX7_init_0 rfl rfl ?_
  refine v_oinit hC mw_1_82 (Nat.le_of_ble_eq_true rfl) (Nat.le_of_ble_eq_true rfl) dX7_init_1 ?_
  refine v_aload_n hC dX7_init_4 rfl rfl ?_
  refine v_gsh hC dX7_init_5 (fun tsh hsh => ?_)
  refine v_clone hC hsh (Nat.le_of_ble_eq_true rfl) (Nat.le_of_ble_eq_true rfl) (Nat.le_of_ble_eq_true rfl) (Nat.le_of_ble_eq_true rfl) dX7_init_8 (fun nw8 => ?_)
  refine v_castI (t := 0) hC sh_t dX7_init_11 ?_
  refine pf_7_0 hC ((sh_kt nw8).u ht) sh_t mw_2_28 dX7_init_14 ?_
  refine v_aload_n hC dX7_init_17 rfl rfl ?_
  refine v_bipush (v := 6) hC dX7_init_18 (by decide) ?_
  refine v_newq 50 hC (N := 6) (by decide) rfl (by decide) (by decide) (by decide) mw_1_92 (by decide) (Nat.le_of_ble_eq_true rfl) (Nat.le_of_ble_eq_true rfl) dX7_init_20 (fun nw20 => ?_)
  refine pf_7_1 hC ((Nw.kt (t := 50) (z := 6) nw20).u ((sh_kt nw8).u ht)) (tn_n (z := 6)) mw_2_30 dX7_init_23 ?_
  refine v_iconst (v := 0) hC dX7_init_26 (by decide) ?_
  refine v_ist3 hC dX7_init_27 (by decide) (kk := ?_)
  refine v_wide (k := 2 + 1 * 0) (n := 12 + 3 * 0) (by omega) (by omega) ?_
  exact loop1 7 0 (by omega) (by omega)

set_option maxHeartbeats 4000000 in
set_option maxRecDepth 100000 in
theorem c_X3_init {l : Launch} {G : Gd} {M : Me} {h : Nat} (ht : m_t M h = 4) : CQ (Qv G (fun M2 => M2 = f_ms M h)) l G yX3_init cX3_init 1 (none) 1 22 1 9 [.ref h] M := by
  refine c_of ([some (.ref h)] : Lo) RX3 "<init>" (by decide) rfl rfl (Nat.le_of_ble_eq_true rfl) rfl (fun p e s m below meth c hC nw => ?_)
  refine v_aload_n hC dX3_init_0 rfl rfl ?_
  refine v_oinit hC mw_1_28 (Nat.le_of_ble_eq_true rfl) (Nat.le_of_ble_eq_true rfl) dX3_init_1 ?_
  refine v_aload_n hC dX3_init_4 rfl rfl ?_
  refine v_bipush (v := 9) hC dX3_init_5 (by decide) ?_
  refine v_newi 23 hC (N := 9) (by decide) (by decide) (by decide) (by decide) (by decide) (Nat.le_of_ble_eq_true rfl) (Nat.le_of_ble_eq_true rfl) dX3_init_7 (fun nw7 => ?_)
  refine pf_3_0 hC ((Nw.kt (t := 23) (z := 9) nw7).u ht) (tn_n (z := 9)) mw_1_29 dX3_init_9 ?_
  refine v_wide (k := 1) (n := 9) (Nat.le_of_ble_eq_true rfl) (Nat.le_of_ble_eq_true rfl) ?_
  refine v_vret hC dX3_init_12 ?_
  exact rfl

set_option maxHeartbeats 4000000 in
set_option maxRecDepth 100000 in
theorem c_X8_init {l : Launch} {G : Gd} {M : Me} {h : Nat} (ht : m_t M h = 9) : CQ (Qv G (fun M2 => M2 = f_tx M h)) l G yX8_init cX8_init 1 (none) 1 22 1 60 [.ref h] M := by
  refine c_of ([some (.ref h)] : Lo) RX8 "<init>" (by decide) rfl rfl (Nat.le_of_ble_eq_true rfl) rfl (fun p e s m below meth c hC nw => ?_)
  refine v_aload_n hC dX8_init_0 rfl rfl ?_
  refine v_oinit hC mw_1_68 (Nat.le_of_ble_eq_true rfl) (Nat.le_of_ble_eq_true rfl) dX8_init_1 ?_
  refine v_aload_n hC dX8_init_4 rfl rfl ?_
  refine v_bipush (v := 60) hC dX8_init_5 (by decide) ?_
  refine v_newc 41 hC (N := 60) (by decide) (by decide) (by decide) (by decide) (by decide) (Nat.le_of_ble_eq_true rfl) (Nat.le_of_ble_eq_true rfl) dX8_init_7 (fun nw7 => ?_)
  refine pf_8_0 hC ((Nw.kt (t := 41) (z := 60) nw7).u ht) (tn_n (z := 60)) mw_1_69 dX8_init_9 ?_
  refine v_aload_n hC dX8_init_12 rfl rfl ?_
  refine v_iconst (v := 0) hC dX8_init_13 (by decide) ?_
  refine pf_8_1 hC ((Nw.kt (t := 41) (z := 60) nw7).u ht) mw_1_70 dX8_init_14 ?_
  refine v_wide (k := 1) (n := 60) (Nat.le_of_ble_eq_true rfl) (Nat.le_of_ble_eq_true rfl) ?_
  refine v_vret hC dX8_init_17 ?_
  exact rfl

set_option maxHeartbeats 4000000 in
set_option maxRecDepth 100000 in
theorem c_X6_addWord0 {l : Launch} {G : Gd} {M : Me} {h : Nat} (ht : m_t M h = 7) : CQ (Qv G (fun M2 => M2 = M)) l G yX6_addWord cX6_addWord 3 (none) 0 0 0 0 [.ref h, .long 0] M := by
  refine c_of ([some (.ref h), some (.long 0), none] : Lo) RX6 "addWord" (by decide) rfl rfl (Nat.le_of_ble_eq_true rfl) rfl (fun p e s m below meth c hC nw => ?_)
  refine v_lload_n hC dX6_addWord_0 rfl rfl ?_
  refine v_lconst (v := 0) hC dX6_addWord_1 (by decide) ?_
  refine v_lcmp hC dX6_addWord_2 ?_
  refine v_if_eq hC dX6_addWord_3 (tgt := 35) (by decide) (fun h3 => ?_) (fun h3 => absurd (by decide) h3)
  refine v_vret hC dX6_addWord_35 ?_
  exact rfl

set_option maxHeartbeats 4000000 in
set_option maxRecDepth 100000 in
theorem c_X6_init0 {l : Launch} {G : Gd} {M : Me} {h ch : Nat} (ht : m_t M h = 7) (hc : m_t M ch = 40) (hz0 : m_z M ch = 0) : CQ (Qv G (fun M2 => M2 = f_sg M h ch)) l G yX6_init cX6_init 5 (none) 1 22 1 8 [.ref h, .ref ch] M := by
  refine c_of ([some (.ref h), some (.ref ch), none, none, none] : Lo) RX6 "<init>" (by decide) rfl rfl (Nat.le_of_ble_eq_true rfl) rfl (fun p e s m below meth c hC nw => ?_)
  refine v_aload_n hC dX6_init_0 rfl rfl ?_
  refine v_oinit hC mw_1_39 (Nat.le_of_ble_eq_true rfl) (Nat.le_of_ble_eq_true rfl) dX6_init_1 ?_
  refine v_aload_n hC dX6_init_4 rfl rfl ?_
  refine v_aload_n hC dX6_init_5 rfl rfl ?_
  refine pf_6_0 hC ht hc mw_1_45 dX6_init_6 ?_
  refine v_aload_n hC dX6_init_9 rfl rfl ?_
  refine v_bipush (v := 8) hC dX6_init_10 (by decide) ?_
  refine v_newl 30 hC (N := 8) (by decide) (by decide) (by decide) (by decide) (by decide) (Nat.le_of_ble_eq_true rfl) (Nat.le_of_ble_eq_true rfl) dX6_init_12 (fun nw12 => ?_)
  refine pf_6_1 hC ((Nw.kt (t := 30) (z := 8) nw12).u ht) (tn_n (z := 8)) mw_1_47 dX6_init_14 ?_
  refine v_aload_n hC dX6_init_17 rfl rfl ?_
  refine v_iconst (v := 0) hC dX6_init_18 (by decide) ?_
  refine pf_6_2 hC ((Nw.kt (t := 30) (z := 8) nw12).u ht) mw_1_49 dX6_init_19 ?_
  refine v_lconst (v := 0) hC dX6_init_22 (by decide) ?_
  refine v_lst2 hC dX6_init_23 (by decide) (kk := ?_)
  refine v_iconst (v := 0) hC dX6_init_24 (by decide) ?_
  refine v_ist4 hC dX6_init_25 (by decide) (kk := ?_)
  refine v_iload hC dX6_init_27 rfl ?_
  refine v_aload_n hC dX6_init_29 rfl rfl ?_
  refine v_alez hC ((Nw.kt (t := 30) (z := 8) nw12).u hc) ((zn_o (t2 := 30) (z := 8) nw12 hc).trans hz0) dX6_init_30 ?_
  refine v_icmp_ge hC dX6_init_31 (tgt := 76) (by decide) (fun _ => ?_) (fun hx => absurd hx (by decide))
  refine v_aload_n hC dX6_init_76 rfl rfl ?_
  refine v_lload_n hC dX6_init_77 rfl rfl ?_
  refine cVv1 hC (c_X6_addWord0 ((Nw.kt (t := 30) (z := 8) nw12).u ht)) yv_X6_addWord rfl ((Nw.kt (t := 30) (z := 8) nw12).u ht) mw_1_40 ⟨Nat.le_of_ble_eq_true rfl, Nat.le_of_ble_eq_true rfl⟩ ⟨Nat.le_of_ble_eq_true rfl, Nat.le_of_ble_eq_true rfl⟩ (Nat.le_of_ble_eq_true rfl) dX6_init_78 (fun M80 hq => ?_)
  subst hq
  refine v_wide (k := 1) (n := 8) (Nat.le_of_ble_eq_true rfl) (Nat.le_of_ble_eq_true rfl) ?_
  refine v_vret hC dX6_init_81 ?_
  exact rfl

set_option maxHeartbeats 4000000 in
set_option maxRecDepth 100000 in
theorem c_X2_init {l : Launch} {G : Gd} {M : Me} {h me b : Nat} (ht : m_t M h = 3) (hme : m_t M me = 4) (hb : m_t M b = 7) : CQ (Qv G (fun M2 => M2 = f_HI M h me b)) l G yX2_init cX2_init 4 (none) 4 89 389 2544 [.ref h, .ref me, .ref b] M := by
  refine c_of ([some (.ref h), some (.ref me), some (.ref b), none] : Lo) RX2 "<init>" (by decide) rfl rfl (Nat.le_of_ble_eq_true rfl) rfl (fun p e s m below meth c hC nw => ?_)
  have hB : h < m_n M := nw h (by rw [ht]; decide)
  have nwB1 : Nw (s_r (s_new M 55 4) 132 h 0 (m_n M)) := Nw.sn (M := M) (t := 55) (z := 4) nw
  have loop1 : ∀ (k i : Nat), i + k = 5 → i ≤ 4 → V p l e (rmk 4 89 389 2544) s m ([.ref h, .ref me, .ref b] : List Value).toArray below meth c 4 G (MQ below (Qv G (fun M2 => M2 = f_HI M h me b)) ([.ref h, .ref me, .ref b] : List Value).toArray s 389 2544 (fr_ G)) (f_al (fun X => f_SI (s_new X 8 0) (m_n X) me b) (s_r (s_new M 55 4) 132 h 0 (m_n M)) 132 h 55 i) (1 + 97 * i) (4 + 635 * i) 14 ([some (.ref h), some (.ref me), some (.ref b), some (.int (nI i))] : Lo) [] := by
    intro k
    induction k with
    | zero => intro i h1 h2; omega
    | succ k ih =>
      intro i h1 h2
      have ai := al_inv (mk := (fun X => f_SI (s_new X 8 0) (m_n X) me b)) (t := 55) (c := 97) (u := 7) (P := m_n M) (M := (s_r (s_new M 55 4) 132 h 0 (m_n M))) (h := h) (fld := 132) nwB1 (by rw [n_sr, n_sn]; omega) r_se (by rw [n_sr, n_sn]; omega) (by omega) (fun X nwX kX => mkS nwX (kX.u ((Nw.kt (t := 55) (z := 4) nw).u hme)) (kX.u ((Nw.kt (t := 55) (z := 4) nw).u hb))) i
      have hs : m_t (f_al (fun X => f_SI (s_new X 8 0) (m_n X) me b) (s_r (s_new M 55 4) 132 h 0 (m_n M)) 132 h 55 i) (m_r (f_al (fun X => f_SI (s_new X 8 0) (m_n X) me b) (s_r (s_new M 55 4) 132 h 0 (m_n M)) 132 h 55 i) 132 h 0) = 55 := by rw [ai.2.2.2.2.2.1, ai.2.2.2.2.1.1, t_sr]; exact tn_n (z := 4)
      have hz : m_z (f_al (fun X => f_SI (s_new X 8 0) (m_n X) me b) (s_r (s_new M 55 4) 132 h 0 (m_n M)) 132 h 55 i) (m_r (f_al (fun X => f_SI (s_new X 8 0) (m_n X) me b) (s_r (s_new M 55 4) 132 h 0 (m_n M)) 132 h 55 i) 132 h 0) = 4 := by rw [ai.2.2.2.2.2.1, ai.2.2.2.2.1.2, z_sr]; exact zn_n (t := 55)
      have hl := ai.2.2.1.u ((Nw.kt (t := 55) (z := 4) nw).u ht)
      have hml := ai.2.2.1.u ((Nw.kt (t := 55) (z := 4) nw).u hme)
      have hbl := ai.2.2.1.u ((Nw.kt (t := 55) (z := 4) nw).u hb)
      refine v_iload_n hC dX2_init_14 rfl rfl ?_
      refine v_iconst (v := 4) hC dX2_init_15 (by decide) ?_
      refine v_icmp_ge hC dX2_init_16 (tgt := 40) (by decide) (fun h16 => ?_) (fun h16 => ?_)
      · obtain rfl : i = k_4 := by have := lp_ge (N := 4) h16; have := k4; omega
        refine v_aload_n hC dX2_init_40 rfl rfl ?_
        refine v_iconst (v := 0) hC dX2_init_41 (by decide) ?_
        refine pf_2_1 hC hl mw_2_71 dX2_init_42 ?_
        refine v_wide (k := 389) (n := 2544) (by have := k4; omega) (by have := k4; omega) ?_
        refine v_vret hC dX2_init_45 ?_
        exact rfl
      · have hi := lp_lt (N := 4) h16
        refine v_aload_n hC dX2_init_19 rfl rfl ?_
        refine gf_2_0 hC hl hs mw_2_70 dX2_init_20 ?_
        refine v_iload_n hC dX2_init_23 rfl rfl ?_
        refine nw_7 hC mw_2_67 (by show _ ≤ (389 : Nat); omega) (by show _ ≤ (2544 : Nat); omega) dX2_init_24 (fun nw24 => ?_)
        refine v_dup hC dX2_init_27 rfl ?_
        refine v_aload_n hC dX2_init_28 rfl rfl ?_
        refine v_aload_n hC dX2_init_29 rfl rfl ?_
        refine cIv2 hC (c_X7_init (tn_n (z := 0)) ((Nw.kt (t := 8) (z := 0) nw24).u hml) ((Nw.kt (t := 8) (z := 0) nw24).u hbl)) yi_X7_init mw_2_69 ⟨Nat.le_of_ble_eq_true rfl, Nat.le_of_ble_eq_true rfl⟩ ⟨(by show _ ≤ (389 : Nat); omega), (by show _ ≤ (2544 : Nat); omega)⟩ (Nat.le_of_ble_eq_true rfl) dX2_init_30 (fun M32 hq => ?_)
        subst hq
        have cn30 := (SI_cn (nw24.sn (t := 8) (z := 0)) (tn_n (M := (f_al (fun X => f_SI (s_new X 8 0) (m_n X) me b) (s_r (s_new M 55 4) 132 h 0 (m_n M)) 132 h 55 i)) (t := 8) (z := 0)) ((Nw.kt (t := 8) (z := 0) nw24).u hml) ((Nw.kt (t := 8) (z := 0) nw24).u hbl)).1
        have kt30 := cn30.1.kt (nw24.sn (t := 8) (z := 0))
        have hz30 : m_z (f_SI (s_new (f_al (fun X => f_SI (s_new X 8 0) (m_n X) me b) (s_r (s_new M 55 4) 132 h 0 (m_n M)) 132 h 55 i) 8 0) (m_n (f_al (fun X => f_SI (s_new X 8 0) (m_n X) me b) (s_r (s_new M 55 4) 132 h 0 (m_n M)) 132 h 55 i)) me b) (m_r (f_al (fun X => f_SI (s_new X 8 0) (m_n X) me b) (s_r (s_new M 55 4) 132 h 0 (m_n M)) 132 h 55 i) 132 h 0) = 4 := by
          have h9 := nw24 (m_r (f_al (fun X => f_SI (s_new X 8 0) (m_n X) me b) (s_r (s_new M 55 4) 132 h 0 (m_n M)) 132 h 55 i) 132 h 0) (by rw [hs]; decide)
          rw [(cn30.1.2.2.1 (m_r (f_al (fun X => f_SI (s_new X 8 0) (m_n X) me b) (s_r (s_new M 55 4) 132 h 0 (m_n M)) 132 h 55 i) 132 h 0) (by rw [n_sn]; omega) (by omega)).2.1, zn_o nw24 hs]; exact hz
        refine v_aast 55 7 hC (kt30.u ((Nw.kt (t := 8) (z := 0) nw24).u hs)) (by decide) rfl rfl (ix_c (hz30) hi) (kt30.u (tn_n (z := 0))) dX2_init_33 ?_
        refine v_inc3 hC dX2_init_34 ((nI_succ i).symm) (by decide) (kk := ?_)
        refine v_goto hC dX2_init_37 (tgt := 14) (by decide) ?_
        refine v_wide (k := 1 + 97 * (i + 1)) (n := 4 + 635 * (i + 1)) (by omega) (by omega) ?_
        exact ih (i + 1) (by omega) (by omega)
  refine v_aload_n hC dX2_init_0 rfl rfl ?_
  refine v_oinit hC mw_2_66 (Nat.le_of_ble_eq_true rfl) (Nat.le_of_ble_eq_true rfl) dX2_init_1 ?_
  refine v_aload_n hC dX2_init_4 rfl rfl ?_
  refine v_iconst (v := 4) hC dX2_init_5 (by decide) ?_
  refine v_newq 55 hC (N := 4) (by decide) rfl (by decide) (by decide) (by decide) mw_2_67 (by decide) (Nat.le_of_ble_eq_true rfl) (Nat.le_of_ble_eq_true rfl) dX2_init_6 (fun nw6 => ?_)
  refine pf_2_0 hC ((Nw.kt (t := 55) (z := 4) nw6).u ht) (tn_n (z := 4)) mw_2_70 dX2_init_9 ?_
  refine v_iconst (v := 0) hC dX2_init_12 (by decide) ?_
  refine v_ist3 hC dX2_init_13 (by decide) (kk := ?_)
  refine v_wide (k := 1 + 97 * 0) (n := 4 + 635 * 0) (by omega) (by omega) ?_
  exact loop1 5 0 (by omega) (by omega)

set_option maxHeartbeats 4000000 in
set_option maxRecDepth 100000 in
theorem c_X10_init {l : Launch} {G : Gd} {M : Me} {h : Nat} (ht : m_t M h = 11) : CQ (Qv G (fun M2 => M2 = f_BI M h)) l G yX10_init cX10_init 3 (none) 5 112 591 3899 [.ref h] M := by
  refine c_of ([some (.ref h), none, none] : Lo) RX10 "<init>" (by decide) rfl rfl (Nat.le_of_ble_eq_true rfl) rfl (fun p e s m below meth c hC nw => ?_)
  refine v_aload_n hC dX10_init_0 rfl rfl ?_
  refine v_oinit hC mw_1_20 (Nat.le_of_ble_eq_true rfl) (Nat.le_of_ble_eq_true rfl) dX10_init_1 ?_
  refine nw_3 hC mw_1_23 (Nat.le_of_ble_eq_true rfl) (Nat.le_of_ble_eq_true rfl) dX10_init_4 (fun nw4 => ?_)
  refine v_dup hC dX10_init_7 rfl ?_
  refine cIv0 hC (c_X3_init (tn_n (z := 0))) yi_X3_init mw_1_25 ⟨Nat.le_of_ble_eq_true rfl, Nat.le_of_ble_eq_true rfl⟩ ⟨Nat.le_of_ble_eq_true rfl, Nat.le_of_ble_eq_true rfl⟩ (Nat.le_of_ble_eq_true rfl) dX10_init_8 (fun M10 hq => ?_)
  subst hq
  have kt8 : Kt (s_new M 4 0) (f_ms (s_new M 4 0) (m_n M)) := ms_kt (nw4.sn (t := 4) (z := 0))
  refine v_ast1 hC dX10_init_11 (by decide) (kk := ?_)
  refine nw_6 hC mw_1_34 (Nat.le_of_ble_eq_true rfl) (Nat.le_of_ble_eq_true rfl) dX10_init_12 (fun nw12 => ?_)
  refine v_dup hC dX10_init_15 rfl ?_
  refine v_iconst (v := 0) hC dX10_init_16 (by decide) ?_
  refine v_newc 40 hC (N := 0) (by decide) (by decide) (by decide) (by decide) (by decide) (Nat.le_of_ble_eq_true rfl) (Nat.le_of_ble_eq_true rfl) dX10_init_17 (fun nw17 => ?_)
  refine cIv1 hC (c_X6_init0 ((Nw.kt (t := 40) (z := 0) nw17).u (tn_n (z := 0))) (tn_n (z := 0)) (zn_n (t := 40))) yi_X6_init mw_1_36 ⟨Nat.le_of_ble_eq_true rfl, Nat.le_of_ble_eq_true rfl⟩ ⟨Nat.le_of_ble_eq_true rfl, Nat.le_of_ble_eq_true rfl⟩ (Nat.le_of_ble_eq_true rfl) dX10_init_19 (fun M21 hq => ?_)
  subst hq
  have kt19 : Kt (s_new (s_new (f_ms (s_new M 4 0) (m_n M)) 7 0) 40 0) (f_sg (s_new (s_new (f_ms (s_new M 4 0) (m_n M)) 7 0) 40 0) (m_n (f_ms (s_new M 4 0) (m_n M))) (m_n (s_new (f_ms (s_new M 4 0) (m_n M)) 7 0))) := sg_kt (nw17.sn (t := 40) (z := 0))
  refine v_ast2 hC dX10_init_22 (by decide) (kk := ?_)
  refine v_aload_n hC dX10_init_23 rfl rfl ?_
  refine nw_8 hC mw_1_63 (Nat.le_of_ble_eq_true rfl) (Nat.le_of_ble_eq_true rfl) dX10_init_24 (fun nw24 => ?_)
  refine v_dup hC dX10_init_27 rfl ?_
  refine cIv0 hC (c_X8_init (tn_n (z := 0))) yi_X8_init mw_1_65 ⟨Nat.le_of_ble_eq_true rfl, Nat.le_of_ble_eq_true rfl⟩ ⟨Nat.le_of_ble_eq_true rfl, Nat.le_of_ble_eq_true rfl⟩ (Nat.le_of_ble_eq_true rfl) dX10_init_28 (fun M30 hq => ?_)
  subst hq
  have kt28 : Kt (s_new (f_sg (s_new (s_new (f_ms (s_new M 4 0) (m_n M)) 7 0) 40 0) (m_n (f_ms (s_new M 4 0) (m_n M))) (m_n (s_new (f_ms (s_new M 4 0) (m_n M)) 7 0))) 9 0) (f_tx (s_new (f_sg (s_new (s_new (f_ms (s_new M 4 0) (m_n M)) 7 0) 40 0) (m_n (f_ms (s_new M 4 0) (m_n M))) (m_n (s_new (f_ms (s_new M 4 0) (m_n M)) 7 0))) 9 0) (m_n (f_sg (s_new (s_new (f_ms (s_new M 4 0) (m_n M)) 7 0) 40 0) (m_n (f_ms (s_new M 4 0) (m_n M))) (m_n (s_new (f_ms (s_new M 4 0) (m_n M)) 7 0))))) := tx_kt (nw24.sn (t := 9) (z := 0))
  refine pf_10_0 hC (kt28.u ((Nw.kt (t := 9) (z := 0) nw24).u (kt19.u ((Nw.kt (t := 40) (z := 0) nw17).u ((Nw.kt (t := 7) (z := 0) nw12).u (kt8.u ((Nw.kt (t := 4) (z := 0) nw4).u ht))))))) (kt28.u (tn_n (z := 0))) mw_2_78 dX10_init_31 ?_
  refine v_aload_n hC dX10_init_34 rfl rfl ?_
  refine nw_7 hC mw_1_77 (Nat.le_of_ble_eq_true rfl) (Nat.le_of_ble_eq_true rfl) dX10_init_35 (fun nw35 => ?_)
  refine v_dup hC dX10_init_38 rfl ?_
  refine v_aload_n hC dX10_init_39 rfl rfl ?_
  refine v_aload_n hC dX10_init_40 rfl rfl ?_
  refine cIv2 hC (c_X7_init (tn_n (z := 0)) ((Nw.kt (t := 8) (z := 0) nw35).u (kt28.u ((Nw.kt (t := 9) (z := 0) nw24).u (kt19.u ((Nw.kt (t := 40) (z := 0) nw17).u ((Nw.kt (t := 7) (z := 0) nw12).u (kt8.u (tn_n (z := 0))))))))) ((Nw.kt (t := 8) (z := 0) nw35).u (kt28.u ((Nw.kt (t := 9) (z := 0) nw24).u (kt19.u ((Nw.kt (t := 40) (z := 0) nw17).u (tn_n (z := 0)))))))) yi_X7_init mw_1_79 ⟨Nat.le_of_ble_eq_true rfl, Nat.le_of_ble_eq_true rfl⟩ ⟨Nat.le_of_ble_eq_true rfl, Nat.le_of_ble_eq_true rfl⟩ (Nat.le_of_ble_eq_true rfl) dX10_init_41 (fun M43 hq => ?_)
  subst hq
  have kt41 := (SI_cn (nw35.sn (t := 8) (z := 0)) (tn_n (z := 0)) ((Nw.kt (t := 8) (z := 0) nw35).u (kt28.u ((Nw.kt (t := 9) (z := 0) nw24).u (kt19.u ((Nw.kt (t := 40) (z := 0) nw17).u ((Nw.kt (t := 7) (z := 0) nw12).u (kt8.u (tn_n (z := 0))))))))) ((Nw.kt (t := 8) (z := 0) nw35).u (kt28.u ((Nw.kt (t := 9) (z := 0) nw24).u (kt19.u ((Nw.kt (t := 40) (z := 0) nw17).u (tn_n (z := 0)))))))).1.1.kt (nw35.sn (t := 8) (z := 0))
  refine pf_10_1 hC (kt41.u ((Nw.kt (t := 8) (z := 0) nw35).u (kt28.u ((Nw.kt (t := 9) (z := 0) nw24).u (kt19.u ((Nw.kt (t := 40) (z := 0) nw17).u ((Nw.kt (t := 7) (z := 0) nw12).u (kt8.u ((Nw.kt (t := 4) (z := 0) nw4).u ht))))))))) (kt41.u (tn_n (z := 0))) mw_2_79 dX10_init_44 ?_
  refine v_aload_n hC dX10_init_47 rfl rfl ?_
  refine nw_7 hC mw_1_77 (Nat.le_of_ble_eq_true rfl) (Nat.le_of_ble_eq_true rfl) dX10_init_48 (fun nw48 => ?_)
  refine v_dup hC dX10_init_51 rfl ?_
  refine v_aload_n hC dX10_init_52 rfl rfl ?_
  refine v_aload_n hC dX10_init_53 rfl rfl ?_
  refine cIv2 hC (c_X7_init (tn_n (z := 0)) ((Nw.kt (t := 8) (z := 0) nw48).u (kt41.u ((Nw.kt (t := 8) (z := 0) nw35).u (kt28.u ((Nw.kt (t := 9) (z := 0) nw24).u (kt19.u ((Nw.kt (t := 40) (z := 0) nw17).u ((Nw.kt (t := 7) (z := 0) nw12).u (kt8.u (tn_n (z := 0))))))))))) ((Nw.kt (t := 8) (z := 0) nw48).u (kt41.u ((Nw.kt (t := 8) (z := 0) nw35).u (kt28.u ((Nw.kt (t := 9) (z := 0) nw24).u (kt19.u ((Nw.kt (t := 40) (z := 0) nw17).u (tn_n (z := 0)))))))))) yi_X7_init mw_1_79 ⟨Nat.le_of_ble_eq_true rfl, Nat.le_of_ble_eq_true rfl⟩ ⟨Nat.le_of_ble_eq_true rfl, Nat.le_of_ble_eq_true rfl⟩ (Nat.le_of_ble_eq_true rfl) dX10_init_54 (fun M56 hq => ?_)
  subst hq
  have kt54 := (SI_cn (nw48.sn (t := 8) (z := 0)) (tn_n (z := 0)) ((Nw.kt (t := 8) (z := 0) nw48).u (kt41.u ((Nw.kt (t := 8) (z := 0) nw35).u (kt28.u ((Nw.kt (t := 9) (z := 0) nw24).u (kt19.u ((Nw.kt (t := 40) (z := 0) nw17).u ((Nw.kt (t := 7) (z := 0) nw12).u (kt8.u (tn_n (z := 0))))))))))) ((Nw.kt (t := 8) (z := 0) nw48).u (kt41.u ((Nw.kt (t := 8) (z := 0) nw35).u (kt28.u ((Nw.kt (t := 9) (z := 0) nw24).u (kt19.u ((Nw.kt (t := 40) (z := 0) nw17).u (tn_n (z := 0)))))))))).1.1.kt (nw48.sn (t := 8) (z := 0))
  refine pf_10_2 hC (kt54.u ((Nw.kt (t := 8) (z := 0) nw48).u (kt41.u ((Nw.kt (t := 8) (z := 0) nw35).u (kt28.u ((Nw.kt (t := 9) (z := 0) nw24).u (kt19.u ((Nw.kt (t := 40) (z := 0) nw17).u ((Nw.kt (t := 7) (z := 0) nw12).u (kt8.u ((Nw.kt (t := 4) (z := 0) nw4).u ht))))))))))) (kt54.u (tn_n (z := 0))) mw_2_80 dX10_init_57 ?_
  refine v_aload_n hC dX10_init_60 rfl rfl ?_
  refine nw_2 hC mw_2_61 (Nat.le_of_ble_eq_true rfl) (Nat.le_of_ble_eq_true rfl) dX10_init_61 (fun nw61 => ?_)
  refine v_dup hC dX10_init_64 rfl ?_
  refine v_aload_n hC dX10_init_65 rfl rfl ?_
  refine v_aload_n hC dX10_init_66 rfl rfl ?_
  refine cIv2 hC (c_X2_init (tn_n (z := 0)) ((Nw.kt (t := 3) (z := 0) nw61).u (kt54.u ((Nw.kt (t := 8) (z := 0) nw48).u (kt41.u ((Nw.kt (t := 8) (z := 0) nw35).u (kt28.u ((Nw.kt (t := 9) (z := 0) nw24).u (kt19.u ((Nw.kt (t := 40) (z := 0) nw17).u ((Nw.kt (t := 7) (z := 0) nw12).u (kt8.u (tn_n (z := 0))))))))))))) ((Nw.kt (t := 3) (z := 0) nw61).u (kt54.u ((Nw.kt (t := 8) (z := 0) nw48).u (kt41.u ((Nw.kt (t := 8) (z := 0) nw35).u (kt28.u ((Nw.kt (t := 9) (z := 0) nw24).u (kt19.u ((Nw.kt (t := 40) (z := 0) nw17).u (tn_n (z := 0)))))))))))) yi_X2_init mw_2_63 ⟨Nat.le_of_ble_eq_true rfl, Nat.le_of_ble_eq_true rfl⟩ ⟨Nat.le_of_ble_eq_true rfl, Nat.le_of_ble_eq_true rfl⟩ (Nat.le_of_ble_eq_true rfl) dX10_init_67 (fun M69 hq => ?_)
  subst hq
  have kt67 := (HI_cn (nw61.sn (t := 3) (z := 0)) (tn_n (z := 0)) ((Nw.kt (t := 3) (z := 0) nw61).u (kt54.u ((Nw.kt (t := 8) (z := 0) nw48).u (kt41.u ((Nw.kt (t := 8) (z := 0) nw35).u (kt28.u ((Nw.kt (t := 9) (z := 0) nw24).u (kt19.u ((Nw.kt (t := 40) (z := 0) nw17).u ((Nw.kt (t := 7) (z := 0) nw12).u (kt8.u (tn_n (z := 0))))))))))))) ((Nw.kt (t := 3) (z := 0) nw61).u (kt54.u ((Nw.kt (t := 8) (z := 0) nw48).u (kt41.u ((Nw.kt (t := 8) (z := 0) nw35).u (kt28.u ((Nw.kt (t := 9) (z := 0) nw24).u (kt19.u ((Nw.kt (t := 40) (z := 0) nw17).u (tn_n (z := 0)))))))))))).1.1.kt (nw61.sn (t := 3) (z := 0))
  refine pf_10_3 hC (kt67.u ((Nw.kt (t := 3) (z := 0) nw61).u (kt54.u ((Nw.kt (t := 8) (z := 0) nw48).u (kt41.u ((Nw.kt (t := 8) (z := 0) nw35).u (kt28.u ((Nw.kt (t := 9) (z := 0) nw24).u (kt19.u ((Nw.kt (t := 40) (z := 0) nw17).u ((Nw.kt (t := 7) (z := 0) nw12).u (kt8.u ((Nw.kt (t := 4) (z := 0) nw4).u ht))))))))))))) (kt67.u (tn_n (z := 0))) mw_2_81 dX10_init_70 ?_
  refine v_aload_n hC dX10_init_73 rfl rfl ?_
  refine v_iconst (v := 0) hC dX10_init_74 (by decide) ?_
  refine pf_10_4 hC (kt67.u ((Nw.kt (t := 3) (z := 0) nw61).u (kt54.u ((Nw.kt (t := 8) (z := 0) nw48).u (kt41.u ((Nw.kt (t := 8) (z := 0) nw35).u (kt28.u ((Nw.kt (t := 9) (z := 0) nw24).u (kt19.u ((Nw.kt (t := 40) (z := 0) nw17).u ((Nw.kt (t := 7) (z := 0) nw12).u (kt8.u ((Nw.kt (t := 4) (z := 0) nw4).u ht))))))))))))) (Or.inl rfl) mw_2_82 dX10_init_75 ?_
  refine v_wide (k := 591) (n := 3899) (Nat.le_of_ble_eq_true rfl) (Nat.le_of_ble_eq_true rfl) ?_
  refine v_vret hC dX10_init_78 ?_
  unfold f_BI f_B6 f_B5 f_B4 f_B3 f_B2 f_B1 f_g0
  rfl

set_option maxHeartbeats 4000000 in
set_option maxRecDepth 100000 in
theorem c_X11_init {l : Launch} {G : Gd} {M : Me} {h : Nat} (ht : m_t M h = 12) : CQ (Qv G (fun M2 => M2 = f_NI M h)) l G yX11_init cX11_init 1 (none) 1 22 7 10380 [.ref h] M := by
  refine c_of ([some (.ref h)] : Lo) RX11 "<init>" (by decide) rfl rfl (Nat.le_of_ble_eq_true rfl) rfl (fun p e s m below meth c hC nw => ?_)
  refine v_aload_n hC dX11_init_0 rfl rfl ?_
  refine v_oinit hC mw_4_113 (Nat.le_of_ble_eq_true rfl) (Nat.le_of_ble_eq_true rfl) dX11_init_1 ?_
  refine v_aload_n hC dX11_init_4 rfl rfl ?_
  refine v_sipush (v := 1662) hC dX11_init_5 (by decide) ?_
  refine v_newl 31 hC (N := 1662) (by decide) (by decide) (by decide) (by decide) (by decide) (Nat.le_of_ble_eq_true rfl) (Nat.le_of_ble_eq_true rfl) dX11_init_8 (fun nw8 => ?_)
  refine pf_11_0 hC ((Nw.kt (t := 31) (z := 1662) nw8).u ht) (tn_n (z := 1662)) mw_4_120 dX11_init_10 ?_
  refine v_aload_n hC dX11_init_13 rfl rfl ?_
  refine v_sipush (v := 6648) hC dX11_init_14 (by decide) ?_
  refine v_newl 32 hC (N := 6648) (by decide) (by decide) (by decide) (by decide) (by decide) (Nat.le_of_ble_eq_true rfl) (Nat.le_of_ble_eq_true rfl) dX11_init_17 (fun nw17 => ?_)
  refine pf_11_1 hC ((Nw.kt (t := 32) (z := 6648) nw17).u ((Nw.kt (t := 31) (z := 1662) nw8).u ht)) (tn_n (z := 6648)) mw_4_121 dX11_init_19 ?_
  refine v_aload_n hC dX11_init_22 rfl rfl ?_
  refine v_sipush (v := 1662) hC dX11_init_23 (by decide) ?_
  refine v_newl 33 hC (N := 1662) (by decide) (by decide) (by decide) (by decide) (by decide) (Nat.le_of_ble_eq_true rfl) (Nat.le_of_ble_eq_true rfl) dX11_init_26 (fun nw26 => ?_)
  refine pf_11_2 hC ((Nw.kt (t := 33) (z := 1662) nw26).u ((Nw.kt (t := 32) (z := 6648) nw17).u ((Nw.kt (t := 31) (z := 1662) nw8).u ht))) (tn_n (z := 1662)) mw_4_122 dX11_init_28 ?_
  refine v_aload_n hC dX11_init_31 rfl rfl ?_
  refine v_bipush (v := 60) hC dX11_init_32 (by decide) ?_
  refine v_newc 42 hC (N := 60) (by decide) (by decide) (by decide) (by decide) (by decide) (Nat.le_of_ble_eq_true rfl) (Nat.le_of_ble_eq_true rfl) dX11_init_34 (fun nw34 => ?_)
  refine pf_11_5 hC ((Nw.kt (t := 42) (z := 60) nw34).u ((Nw.kt (t := 33) (z := 1662) nw26).u ((Nw.kt (t := 32) (z := 6648) nw17).u ((Nw.kt (t := 31) (z := 1662) nw8).u ht)))) (tn_n (z := 60)) mw_4_125 dX11_init_36 ?_
  refine v_aload_n hC dX11_init_39 rfl rfl ?_
  refine v_sipush (v := 330) hC dX11_init_40 (by decide) ?_
  refine v_newl 34 hC (N := 330) (by decide) (by decide) (by decide) (by decide) (by decide) (Nat.le_of_ble_eq_true rfl) (Nat.le_of_ble_eq_true rfl) dX11_init_43 (fun nw43 => ?_)
  refine pf_11_7 hC ((Nw.kt (t := 34) (z := 330) nw43).u ((Nw.kt (t := 42) (z := 60) nw34).u ((Nw.kt (t := 33) (z := 1662) nw26).u ((Nw.kt (t := 32) (z := 6648) nw17).u ((Nw.kt (t := 31) (z := 1662) nw8).u ht))))) (tn_n (z := 330)) mw_4_127 dX11_init_45 ?_
  refine v_aload_n hC dX11_init_48 rfl rfl ?_
  refine v_bipush (v := 9) hC dX11_init_49 (by decide) ?_
  refine v_newi 26 hC (N := 9) (by decide) (by decide) (by decide) (by decide) (by decide) (Nat.le_of_ble_eq_true rfl) (Nat.le_of_ble_eq_true rfl) dX11_init_51 (fun nw51 => ?_)
  refine pf_11_10 hC ((Nw.kt (t := 26) (z := 9) nw51).u ((Nw.kt (t := 34) (z := 330) nw43).u ((Nw.kt (t := 42) (z := 60) nw34).u ((Nw.kt (t := 33) (z := 1662) nw26).u ((Nw.kt (t := 32) (z := 6648) nw17).u ((Nw.kt (t := 31) (z := 1662) nw8).u ht)))))) (tn_n (z := 9)) mw_4_130 dX11_init_53 ?_
  refine v_aload_n hC dX11_init_56 rfl rfl ?_
  refine v_bipush (v := 9) hC dX11_init_57 (by decide) ?_
  refine v_newi 27 hC (N := 9) (by decide) (by decide) (by decide) (by decide) (by decide) (Nat.le_of_ble_eq_true rfl) (Nat.le_of_ble_eq_true rfl) dX11_init_59 (fun nw59 => ?_)
  refine pf_11_11 hC ((Nw.kt (t := 27) (z := 9) nw59).u ((Nw.kt (t := 26) (z := 9) nw51).u ((Nw.kt (t := 34) (z := 330) nw43).u ((Nw.kt (t := 42) (z := 60) nw34).u ((Nw.kt (t := 33) (z := 1662) nw26).u ((Nw.kt (t := 32) (z := 6648) nw17).u ((Nw.kt (t := 31) (z := 1662) nw8).u ht))))))) (tn_n (z := 9)) mw_4_131 dX11_init_61 ?_
  refine v_mem (M2 := f_N7 M h) rfl ?_
  have hB : h < m_n M := nw h (by rw [ht]; decide)
  have hr := (N7_h hB).1.1
  have h31b : m_t (f_N7 M h) (m_n M) = 31 := by rw [N7_t, if_neg (by omega), if_neg (by omega), if_neg (by omega), if_neg (by omega), if_neg (by omega), if_neg (by omega), if_pos rfl]
  have hz : m_z (f_N7 M h) (m_n M) = 1662 := by rw [N7_z, if_neg (by omega), if_neg (by omega), if_neg (by omega), if_neg (by omega), if_neg (by omega), if_neg (by omega), if_pos rfl]
  have h31 : m_t (f_N7 M h) (m_r (f_N7 M h) 276 h 0) = 31 := by rw [hr]; exact h31b
  have hl : m_t (f_N7 M h) h = 12 := by rw [N7_t, if_neg (by omega), if_neg (by omega), if_neg (by omega), if_neg (by omega), if_neg (by omega), if_neg (by omega), if_neg (by omega)]; exact ht
  refine v_aload_n hC dX11_init_64 rfl rfl ?_
  refine gf_11_0 hC hl (by first | exact h31 | (rw [hr]; exact h31b)) mw_4_120 dX11_init_65 ?_
  rw [hr]
  refine v_iconst (v := 4) hC dX11_init_68 (by decide) ?_
  refine v_ldc2 hC mw_4_114 dX11_init_69 ?_
  refine v_last 31 hC h31b (by decide) (by decide) (⟨vp_in_nI (n := 4) (by rw [hz]; decide) (by rw [hz]; decide), rfl⟩) dX11_init_72 ?_
  refine v_aload_n hC dX11_init_73 rfl rfl ?_
  refine gf_11_0 hC hl (by first | exact h31 | (rw [r_sl, hr]; exact h31b)) mw_4_120 dX11_init_74 ?_
  rw [r_sl, hr]
  refine v_iconst (v := 5) hC dX11_init_77 (by decide) ?_
  refine v_ldc2 hC mw_4_115 dX11_init_78 ?_
  refine v_last 31 hC h31b (by decide) (by decide) (⟨vp_in_nI (n := 5) (by rw [z_sl, hz]; decide) (by rw [z_sl, hz]; decide), rfl⟩) dX11_init_81 ?_
  refine v_aload_n hC dX11_init_82 rfl rfl ?_
  refine gf_11_0 hC hl (by first | exact h31 | (rw [r_sl, r_sl, hr]; exact h31b)) mw_4_120 dX11_init_83 ?_
  rw [r_sl, r_sl, hr]
  refine v_bipush (v := 6) hC dX11_init_86 (by decide) ?_
  refine v_ldc2 hC mw_4_116 dX11_init_88 ?_
  refine v_last 31 hC h31b (by decide) (by decide) (⟨vp_in_nI (n := 6) (by rw [z_sl, z_sl, hz]; decide) (by rw [z_sl, z_sl, hz]; decide), rfl⟩) dX11_init_91 ?_
  refine v_aload_n hC dX11_init_92 rfl rfl ?_
  refine gf_11_0 hC hl (by first | exact h31 | (rw [r_sl, r_sl, r_sl, hr]; exact h31b)) mw_4_120 dX11_init_93 ?_
  rw [r_sl, r_sl, r_sl, hr]
  refine v_bipush (v := 7) hC dX11_init_96 (by decide) ?_
  refine v_ldc2 hC mw_4_117 dX11_init_98 ?_
  refine v_last 31 hC h31b (by decide) (by decide) (⟨vp_in_nI (n := 7) (by rw [z_sl, z_sl, z_sl, hz]; decide) (by rw [z_sl, z_sl, z_sl, hz]; decide), rfl⟩) dX11_init_101 ?_
  refine v_aload_n hC dX11_init_102 rfl rfl ?_
  refine gf_11_0 hC hl (by first | exact h31 | (rw [r_sl, r_sl, r_sl, r_sl, hr]; exact h31b)) mw_4_120 dX11_init_103 ?_
  rw [r_sl, r_sl, r_sl, r_sl, hr]
  refine v_bipush (v := 8) hC dX11_init_106 (by decide) ?_
  refine v_ldc2 hC mw_4_118 dX11_init_108 ?_
  refine v_last 31 hC h31b (by decide) (by decide) (⟨vp_in_nI (n := 8) (by rw [z_sl, z_sl, z_sl, z_sl, hz]; decide) (by rw [z_sl, z_sl, z_sl, z_sl, hz]; decide), rfl⟩) dX11_init_111 ?_
  refine v_aload_n hC dX11_init_112 rfl rfl ?_
  refine gf_11_0 hC hl (by first | exact h31 | (rw [r_sl, r_sl, r_sl, r_sl, r_sl, hr]; exact h31b)) mw_4_120 dX11_init_113 ?_
  rw [r_sl, r_sl, r_sl, r_sl, r_sl, hr]
  refine v_bipush (v := 9) hC dX11_init_116 (by decide) ?_
  refine v_ldc2 hC mw_4_119 dX11_init_118 ?_
  refine v_last 31 hC h31b (by decide) (by decide) (⟨vp_in_nI (n := 9) (by rw [z_sl, z_sl, z_sl, z_sl, z_sl, hz]; decide) (by rw [z_sl, z_sl, z_sl, z_sl, z_sl, hz]; decide), rfl⟩) dX11_init_121 ?_
  refine v_wide (k := 7) (n := 10380) (Nat.le_of_ble_eq_true rfl) (Nat.le_of_ble_eq_true rfl) ?_
  refine v_vret hC dX11_init_122 ?_
  exact rfl
