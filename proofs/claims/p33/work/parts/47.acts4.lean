theorem u_ic {u : Si} {k a j k2 a2 j2 : Nat} {v w : Int32} (h : ¬ (k2 = k ∧ a2 = a ∧ j2 = j)) : u_i (u_i u k a j v) k2 a2 j2 w = u_i (u_i u k2 a2 j2 w) k a j v := by
  have e : ∀ k3 a3 j3, (if k3 = k2 ∧ a3 = a2 ∧ j3 = j2 then w else if k3 = k ∧ a3 = a ∧ j3 = j then v else u.2.1 k3 a3 j3) = if k3 = k ∧ a3 = a ∧ j3 = j then v else if k3 = k2 ∧ a3 = a2 ∧ j3 = j2 then w else u.2.1 k3 a3 j3 := fun k3 a3 j3 => by
    by_cases q : k3 = k2 ∧ a3 = a2 ∧ j3 = j2
    · rw [if_pos q, if_pos q, if_neg (fun z => h ⟨q.1.symm.trans z.1, q.2.1.symm.trans z.2.1, q.2.2.symm.trans z.2.2⟩)]
    · rw [if_neg q, if_neg q]
  exact congrArg (fun z : Nat → Nat → Nat → Int32 => ((u.1, z, u.2.2) : Si)) (funext fun k3 => funext fun a3 => funext fun j3 => e k3 a3 j3)
def swpU (u : Si) (a b f o : Nat) : Si := u_i (u_i u 17 0 a (nI o)) 17 0 b (nI f)
def exU (u : Si) (a b f o i : Nat) : Si := if a < i then (if b < i then swpU u a b f o else u_i u 17 0 a (nI o)) else if b < i then u_i u 17 0 b (nI f) else u
theorem exU_r {u : Si} {a b f o i : Nat} : q_i (exU u a b f o i) 17 0 i = q_i u 17 0 i := by
  unfold exU swpU
  split
  · split
    · rw [q_ij (by omega), q_ij (by omega)]
    · rw [q_ij (by omega)]
  · split
    · rw [q_ij (by omega)]
    · rfl
theorem exU_n {u : Si} {a b f o i : Nat} : (exU u a b f o i).1 = u.1 := by
  unfold exU swpU
  split <;> split <;> rfl
theorem exU_0 {u : Si} {a b f o i : Nat} (h1 : i ≠ a) (h2 : i ≠ b) : exU u a b f o (i + 1) = exU u a b f o i := by
  unfold exU
  by_cases q1 : a < i
  · rw [if_pos q1, if_pos (show a < i + 1 by omega)]
    by_cases q2 : b < i
    · rw [if_pos q2, if_pos (show b < i + 1 by omega)]
    · rw [if_neg q2, if_neg (show ¬ b < i + 1 by omega)]
  · rw [if_neg q1, if_neg (show ¬ a < i + 1 by omega)]
    by_cases q2 : b < i
    · rw [if_pos q2, if_pos (show b < i + 1 by omega)]
    · rw [if_neg q2, if_neg (show ¬ b < i + 1 by omega)]
theorem exU_a {u : Si} {b f o i : Nat} (h : i ≠ b) : exU u i b f o (i + 1) = u_i (exU u i b f o i) 17 0 i (nI o) := by
  unfold exU swpU
  rw [if_pos (Nat.lt_succ_self i), if_neg (Nat.lt_irrefl i)]
  by_cases q2 : b < i
  · rw [if_pos q2, if_pos (show b < i + 1 by omega)]
    exact u_ic (fun z => h z.2.2.symm)
  · rw [if_neg q2, if_neg (show ¬ b < i + 1 by omega)]
theorem exU_b {u : Si} {a f o i : Nat} (h : i ≠ a) : exU u a i f o (i + 1) = u_i (exU u a i f o i) 17 0 i (nI f) := by
  unfold exU swpU
  rw [if_pos (Nat.lt_succ_self i), if_neg (Nat.lt_irrefl i), if_pos (Nat.lt_succ_self i), if_neg (Nat.lt_irrefl i)]
  by_cases q2 : a < i
  · rw [if_pos q2, if_pos (show a < i + 1 by omega)]
  · rw [if_neg q2, if_neg (show ¬ a < i + 1 by omega)]
theorem exU_e {u : Si} {a b f o i : Nat} (h1 : a < i) (h2 : b < i) : exU u a b f o i = swpU u a b f o := by
  unfold exU
  rw [if_pos h1, if_pos h2]
theorem mkB_t {u : Si} {d e : Nat} {x : Int32} : q_i (mkB u d e x) 11 e 0 = x := by rw [mkB, q_ik (by decide), q_ie]
set_option maxHeartbeats 4000000 in
set_option maxRecDepth 100000 in
theorem c_X7_spreadTarget {l : Launch} {G : Gd} {M : Me} {h g0 : Nat} {u : Si} {g : Sg} {t : Int32} (hW : Wt M) (ht : m_t M h = 8) (hR : CR M h u) (hg : SgR M g0 g) : CQ (Qi G (fun r M2 => r = fC (stS g t) (ctS g t) u (n_f u) ∧ CR M2 h (fU (stS g t) u (n_f u)) ∧ Rg M M2 h ∧ Fx M M2)) l G yX7_spreadTarget cX7_spreadTarget 5 ((some .int)) 2 47 0 0 [.ref h, .ref g0, .int t] M := by
  refine c_of ([some (.ref h), some (.ref g0), some (.int t), none, none] : Lo) RX7 "spreadTarget" (by decide) rfl rfl (Nat.le_of_ble_eq_true rfl) rfl (fun p e s m below meth c hC nw => ?_)
  have hW0 := hW
  have ht0 := ht
  have hb8 : n_f u ≤ 8 := hR.2.1.1
  have hg0 := hg
  have loop : ∀ (k i : Nat) (M1 : Me), i + k = 9 → i ≤ n_f u → CR M1 h (fU (stS g t) u i) → Rg M M1 h → Fx M M1 → V p l e (rmk 2 47 0 0) s m ([.ref h, .ref g0, .int t] : List Value).toArray below meth c 5 G (MQ below (Qi G (fun r M2 => r = fC (stS g t) (ctS g t) u (n_f u) ∧ CR M2 h (fU (stS g t) u (n_f u)) ∧ Rg M M2 h ∧ Fx M M2)) ([.ref h, .ref g0, .int t] : List Value).toArray s 0 0 (fr_ G)) M1 0 0 5 ([some (.ref h), some (.ref g0), some (.int t), some (.int (fC (stS g t) (ctS g t) u i)), some (.int (nI i))] : Lo) [] := by
    intro k
    induction k with
    | zero => intro i M1 w1 w2; omega
    | succ k ih =>
      intro i M1 w1 w2 hR hr hx
      have hW := hW0.fx hx
      have kp : Kp u (fU (stS g t) u i) := Kp.fU (stS_kp g t) i
      obtain ⟨v, hv⟩ : ∃ v, v = fU (stS g t) u i := ⟨_, rfl⟩
      rw [← hv] at hR kp
      have kn : n_f v = n_f u := kp.n 0 0
      have ht : m_t M1 h = 8 := (hx.2.1 _).trans ht0
      have hg : SgR M1 g0 g := hg0.rg nw hW0 hr
      refine v_iload hC dX7_spreadTarget_5 rfl ?_
      refine v_aload_n hC dX7_spreadTarget_7 rfl rfl ?_
      refine gf_7_4 hC ht mw_2_36 dX7_spreadTarget_8 ?_
      rw [hR.2.2.2.1.1, kn]
      refine v_icmp_ge hC dX7_spreadTarget_11 (tgt := 49) (by decide) (fun h11 => ?_) (fun h11 => ?_)
      · have hi := lp_ge h11
        refine v_iload_n hC dX7_spreadTarget_49 rfl rfl ?_
        refine v_iret hC dX7_spreadTarget_50 ?_
        have hie : i = n_f u := by omega
        subst hie
        rw [hv] at hR
        exact ⟨rfl, hR, hr, hx⟩
      · have hi := lp_lt h11
        have hiv : i < n_f v := by omega
        refine v_aload_n hC dX7_spreadTarget_14 rfl rfl ?_
        refine gf_7_3 hC ht (wf_215 hW ht) mw_2_34 dX7_spreadTarget_15 ?_
        refine v_iload hC dX7_spreadTarget_18 rfl ?_
        refine v_aald 51 _ hC (wf_215 hW ht) (by decide) rfl (ix_c (wz_51 hW (wf_215 hW ht)) (by omega)) (we_51 hW (wf_215 hW ht) (by omega)) dX7_spreadTarget_20 ?_
        rw [ly_F2 hR.1 (by omega)]
        refine gf_9_0 hC (by rw [← ly_F2 hR.1 (by omega)]; exact we_51 hW (wf_215 hW ht) (by omega)) mw_1_132 dX7_spreadTarget_21 ?_
        rw [(hR.f42 hiv).1]
        refine v_iconst (v := 1) hC dX7_spreadTarget_24 (by decide) ?_
        refine v_icmp_ne hC dX7_spreadTarget_25 (tgt := 43) (by decide) (fun h25 => ?_) (fun h25 => ?_)
        · first
            | (have zz : ¬ q_i v 4 i 0 = 1 := h25
               rw [show fC (stS g t) (ctS g t) u i = fC (stS g t) (ctS g t) u (i + 1) from by rw [fC, ← hv, ctS, if_neg zz, Int32.add_zero]])
            | skip
          refine v_inc4 hC dX7_spreadTarget_43 ((nI_succ i).symm) (by decide) (kk := ?_)
          refine v_goto hC dX7_spreadTarget_46 (tgt := 5) (by decide) ?_
          refine ih (i + 1) _ (by omega) (by omega) ?_ ?_ ?_
          · rw [fU, ← hv]
            unfold stS
            first
              | (rw [if_neg h25]; exact hR)
              | (rw [if_pos h25]; exact hR2)
          · first | exact hr | exact hr.tr hr2
          · first | exact hx | exact hx.tr hx2
        · refine v_iload_n hC dX7_spreadTarget_28 rfl rfl ?_
          refine v_aload_n hC dX7_spreadTarget_29 rfl rfl ?_
          refine gf_7_3 hC ht (wf_215 hW ht) mw_2_34 dX7_spreadTarget_30 ?_
          refine v_iload hC dX7_spreadTarget_33 rfl ?_
          refine v_aald 51 _ hC (wf_215 hW ht) (by decide) rfl (ix_c (wz_51 hW (wf_215 hW ht)) (by omega)) (we_51 hW (wf_215 hW ht) (by omega)) dX7_spreadTarget_35 ?_
          rw [ly_F2 hR.1 (by omega)]
          refine v_aload_n hC dX7_spreadTarget_36 rfl rfl ?_
          refine v_iload_n hC dX7_spreadTarget_37 rfl rfl ?_
          refine cVi2 hC (c_X9_fillAlike hW (by rw [← ly_F2 hR.1 (by omega)]; exact we_51 hW (wf_215 hW ht) (by omega)) hR hiv hg) yv_X9_fillAlike rfl (by rw [← ly_F2 hR.1 (by omega)]; exact we_51 hW (wf_215 hW ht) (by omega)) mw_3_128 ⟨Nat.le_of_ble_eq_true rfl, Nat.le_of_ble_eq_true rfl⟩ ⟨Nat.le_of_ble_eq_true rfl, Nat.le_of_ble_eq_true rfl⟩ (Nat.le_of_ble_eq_true rfl) dX7_spreadTarget_38 (fun r38 M40 hq => ?_)
          obtain ⟨rfl, hR2, hr2, hx2⟩ := hq
          refine v_iadd hC dX7_spreadTarget_41 ?_
          rw [show fC (stS g t) (ctS g t) u i + fC (stA i g t) (ctA i g) v (n_s v i) = fC (stS g t) (ctS g t) u (i + 1) from by rw [fC, ← hv, ctS, if_pos h25]]
          refine v_ist3 hC dX7_spreadTarget_42 (by decide) (kk := ?_)
          first
            | (have zz : ¬ q_i v 4 i 0 = 1 := h25
               rw [show fC (stS g t) (ctS g t) u i = fC (stS g t) (ctS g t) u (i + 1) from by rw [fC, ← hv, ctS, if_neg zz, Int32.add_zero]])
            | skip
          refine v_inc4 hC dX7_spreadTarget_43 ((nI_succ i).symm) (by decide) (kk := ?_)
          refine v_goto hC dX7_spreadTarget_46 (tgt := 5) (by decide) ?_
          refine ih (i + 1) _ (by omega) (by omega) ?_ ?_ ?_
          · rw [fU, ← hv]
            unfold stS
            first
              | (rw [if_neg h25]; exact hR)
              | (rw [if_pos h25]; exact hR2)
          · first | exact hr | exact hr.tr hr2
          · first | exact hx | exact hx.tr hx2
  refine v_iconst (v := 0) hC dX7_spreadTarget_0 (by decide) ?_
  refine v_ist3 hC dX7_spreadTarget_1 (by decide) (kk := ?_)
  refine v_iconst (v := 0) hC dX7_spreadTarget_2 (by decide) ?_
  refine v_ist4 hC dX7_spreadTarget_3 (by decide) (kk := ?_)
  exact loop 9 0 M (by omega) (by omega) hR Rg.rf Fx.rf

set_option maxHeartbeats 4000000 in
set_option maxRecDepth 100000 in
theorem c_X7_decide {l : Launch} {G : Gd} {M : Me} {h d e1 : Nat} {u : Si} {z : Int32} (hW : Wt M) (ht : m_t M h = 8) (hR : CR M h u) (hd : d < n_d u) (he : e1 < n_e u) (hde : q_i u 13 d 0 = nI e1) : CQ (Qi G (fun r M2 => r = decC u d e1 z ∧ CR M2 h (decU u d e1 z) ∧ Rg M M2 h ∧ Fx M M2)) l G yX7_decide cX7_decide 7 ((some .int)) 2 47 0 0 [.ref h, .int (nI d), .int z] M := by
  refine c_of ([some (.ref h), some (.int (nI d)), some (.int z), none, none, none, none] : Lo) RX7 "decide" (by decide) rfl rfl (Nat.le_of_ble_eq_true rfl) rfl (fun p e s m below meth c hC nw => ?_)
  have hW0 := hW
  have ht0 := ht
  have hb8 : n_f u ≤ 8 := hR.2.1.1
  have c1 := hR.2.1.2.2.1
  have c2 := hR.2.1.2.2.2.1
  have hn0 : m_i M 166 (h + 43) 0 = nI (n_e u) := hR.2.2.2.1.2.2.1
  have hM5 : m_t M (h + 43) = 5 := by rw [← ly_M hR.1]; exact wf_218 hW ht
  have hE : m_t M (cA h 11 e1) = 2 := by rw [← ly_E2 hR.1 (by omega)]; exact we_53 hW (wf_165 hW hM5) (by omega)
  have hD : m_t M (cA h 13 d) = 1 := by rw [← ly_D2 hR.1 (by omega)]; exact we_54 hW (wf_167 hW hM5) (by omega)
  have hE0 := hE
  have hD0 := hD
  have k3 := CR.wA (v := 1) 12 e1 0 (CR.wA (v := chD u d z) 11 e1 0 (CR.wA (v := chD u d z) 16 d 0 hR (cp_d (by omega) 16 (by decide) (by decide)) (A := cA h 13 d) rfl) (cp_e (by omega) 11 (by decide) (by decide)) (A := cA h 11 e1) rfl) (cp_e (by omega) 12 (by decide) (by decide)) (A := cA h 11 e1) rfl
  have loop : ∀ (k i : Nat) (M1 : Me), i + k = 9 → i ≤ n_f u → CR M1 h (fU (stT (q_g u 1 e1 0) (chD u d z)) (mkB u d e1 (chD u d z)) i) → Rg M M1 h → Fx M M1 → V p l e (rmk 2 47 0 0) s m ([.ref h, .int (nI d), .int z] : List Value).toArray below meth c 7 G (MQ below (Qi G (fun r M2 => r = decC u d e1 z ∧ CR M2 h (decU u d e1 z) ∧ Rg M M2 h ∧ Fx M M2)) ([.ref h, .int (nI d), .int z] : List Value).toArray s 0 0 (fr_ G)) M1 0 0 80 ([some (.ref h), some (.int (nI d)), some (.int z), some (.ref (cA h 13 d)), some (.ref (cA h 11 e1)), some (.int (fC (stT (q_g u 1 e1 0) (chD u d z)) (ctT (q_g u 1 e1 0) (chD u d z)) (mkB u d e1 (chD u d z)) i)), some (.int (nI i))] : Lo) [] := by
    intro k
    induction k with
    | zero => intro i M1 w1 w2; omega
    | succ k ih =>
      intro i M1 w1 w2 hR hr hx
      have hW := hW0.fx hx
      have kp : Kp (mkB u d e1 (chD u d z)) (fU (stT (q_g u 1 e1 0) (chD u d z)) (mkB u d e1 (chD u d z)) i) := Kp.fU (stT_kp (q_g u 1 e1 0) (chD u d z)) i
      obtain ⟨v, hv⟩ : ∃ v, v = fU (stT (q_g u 1 e1 0) (chD u d z)) (mkB u d e1 (chD u d z)) i := ⟨_, rfl⟩
      rw [← hv] at hR kp
      have kn : n_f v = n_f u := kp.n 0 0
      have ht : m_t M1 h = 8 := (hx.2.1 _).trans ht0
      have hE : m_t M1 (cA h 11 e1) = 2 := (hx.2.1 _).trans hE0
      have hD : m_t M1 (cA h 13 d) = 1 := (hx.2.1 _).trans hD0
      have hev : e1 < n_e v := by show e1 < q_n v 2 0; rw [kp.n]; exact he
      have hgv : q_g v 1 e1 0 = q_g u 1 e1 0 := kp.g 1 e1 0
      have htv : q_i v 11 e1 0 = chD u d z := (kp.2.2 11 e1 0 (by decide)).trans mkB_t
      refine v_iload hC dX7_decide_80 rfl ?_
      refine v_aload_n hC dX7_decide_82 rfl rfl ?_
      refine gf_7_4 hC ht mw_2_36 dX7_decide_83 ?_
      rw [hR.2.2.2.1.1, kn]
      refine v_icmp_ge hC dX7_decide_86 (tgt := 133) (by decide) (fun h86 => ?_) (fun h86 => ?_)
      · have hi := lp_ge h86
        refine v_iload hC dX7_decide_133 rfl ?_
        refine v_iret hC dX7_decide_135 ?_
        have hie : i = n_f u := by omega
        subst hie
        rw [hv] at hR
        exact ⟨rfl, hR, hr, hx⟩
      · have hi := lp_lt h86
        have hiv : i < n_f v := by omega
        refine v_aload_n hC dX7_decide_89 rfl rfl ?_
        refine gf_7_3 hC ht (wf_215 hW ht) mw_2_34 dX7_decide_90 ?_
        refine v_iload hC dX7_decide_93 rfl ?_
        refine v_aald 51 _ hC (wf_215 hW ht) (by decide) rfl (ix_c (wz_51 hW (wf_215 hW ht)) (by omega)) (we_51 hW (wf_215 hW ht) (by omega)) dX7_decide_95 ?_
        rw [ly_F2 hR.1 (by omega)]
        refine cVi0 hC (c_X9_isInHand (by rw [← ly_F2 hR.1 (by omega)]; exact we_51 hW (wf_215 hW ht) (by omega))) yv_X9_isInHand rfl (by rw [← ly_F2 hR.1 (by omega)]; exact we_51 hW (wf_215 hW ht) (by omega)) mw_3_54 ⟨Nat.le_of_ble_eq_true rfl, Nat.le_of_ble_eq_true rfl⟩ ⟨Nat.le_of_ble_eq_true rfl, Nat.le_of_ble_eq_true rfl⟩ (Nat.le_of_ble_eq_true rfl) dX7_decide_96 (fun r96 M98 hq => ?_)
        obtain ⟨hm, hq2⟩ := hq
        have hm2 := hm.symm
        clear hm
        subst hm2
        obtain ⟨g96, rfl⟩ | ⟨g96, rfl⟩ := hq2
        · rw [(hR.f42 hiv).1] at g96
          refine v_if_eq hC dX7_decide_99 (tgt := 127) (by decide) (fun hx => absurd hx (by decide)) (fun _ => ?_)
          refine v_iload hC dX7_decide_102 rfl ?_
          refine v_aload_n hC dX7_decide_104 rfl rfl ?_
          refine gf_7_3 hC ht (wf_215 hW ht) mw_2_34 dX7_decide_105 ?_
          refine v_iload hC dX7_decide_108 rfl ?_
          refine v_aald 51 _ hC (wf_215 hW ht) (by decide) rfl (ix_c (wz_51 hW (wf_215 hW ht)) (by omega)) (we_51 hW (wf_215 hW ht) (by omega)) dX7_decide_110 ?_
          rw [ly_F2 hR.1 (by omega)]
          refine v_aload hC dX7_decide_111 rfl ?_
          refine gf_1_0 hC hE (wf_116 hW hE) mw_1_196 dX7_decide_113 ?_
          refine v_aload hC dX7_decide_116 rfl ?_
          refine gf_1_1 hC hE mw_1_200 dX7_decide_118 ?_
          rw [(hR.en2 hev).1, htv]
          refine cVi2 hC (c_X9_replaceAlike hW (by rw [← ly_F2 hR.1 (by omega)]; exact we_51 hW (wf_215 hW ht) (by omega)) hR hiv (hgv ▸ (hR.en2 hev).2.2)) yv_X9_replaceAlike rfl (by rw [← ly_F2 hR.1 (by omega)]; exact we_51 hW (wf_215 hW ht) (by omega)) mw_3_189 ⟨Nat.le_of_ble_eq_true rfl, Nat.le_of_ble_eq_true rfl⟩ ⟨Nat.le_of_ble_eq_true rfl, Nat.le_of_ble_eq_true rfl⟩ (Nat.le_of_ble_eq_true rfl) dX7_decide_121 (fun r121 M123 hq => ?_)
          obtain ⟨rfl, hR2, hr2, hx2⟩ := hq
          refine v_iadd hC dX7_decide_124 ?_
          rw [show fC (stT (q_g u 1 e1 0) (chD u d z)) (ctT (q_g u 1 e1 0) (chD u d z)) (mkB u d e1 (chD u d z)) i + fC (stB i (q_g u 1 e1 0) (chD u d z)) (ctB i (q_g u 1 e1 0) (chD u d z)) v (n_s v i) = fC (stT (q_g u 1 e1 0) (chD u d z)) (ctT (q_g u 1 e1 0) (chD u d z)) (mkB u d e1 (chD u d z)) (i + 1) from by rw [fC, ← hv, ctT, if_pos g96]]
          refine v_ist5 hC dX7_decide_125 (by decide) (kk := ?_)
          first
            | (have zz : ¬ iH v i := g96
               rw [show fC (stT (q_g u 1 e1 0) (chD u d z)) (ctT (q_g u 1 e1 0) (chD u d z)) (mkB u d e1 (chD u d z)) i = fC (stT (q_g u 1 e1 0) (chD u d z)) (ctT (q_g u 1 e1 0) (chD u d z)) (mkB u d e1 (chD u d z)) (i + 1) from by rw [fC, ← hv, ctT, if_neg zz, Int32.add_zero]])
            | skip
          refine v_inc6 hC dX7_decide_127 ((nI_succ i).symm) (by decide) (kk := ?_)
          refine v_goto hC dX7_decide_130 (tgt := 80) (by decide) ?_
          refine ih (i + 1) _ (by omega) (by omega) ?_ ?_ ?_
          · rw [fU, ← hv]
            unfold stT
            first
              | (rw [if_neg g96]; exact hR)
              | (rw [if_pos g96]; exact hR2)
          · first | exact hr | exact hr.tr hr2
          · first | exact hx | exact hx.tr hx2
        · rw [(hR.f42 hiv).1] at g96
          refine v_if_eq hC dX7_decide_99 (tgt := 127) (by decide) (fun _ => ?_) (fun hx => absurd hx (by decide))
          first
            | (have zz : ¬ iH v i := g96
               rw [show fC (stT (q_g u 1 e1 0) (chD u d z)) (ctT (q_g u 1 e1 0) (chD u d z)) (mkB u d e1 (chD u d z)) i = fC (stT (q_g u 1 e1 0) (chD u d z)) (ctT (q_g u 1 e1 0) (chD u d z)) (mkB u d e1 (chD u d z)) (i + 1) from by rw [fC, ← hv, ctT, if_neg zz, Int32.add_zero]])
            | skip
          refine v_inc6 hC dX7_decide_127 ((nI_succ i).symm) (by decide) (kk := ?_)
          refine v_goto hC dX7_decide_130 (tgt := 80) (by decide) ?_
          refine ih (i + 1) _ (by omega) (by omega) ?_ ?_ ?_
          · rw [fU, ← hv]
            unfold stT
            first
              | (rw [if_neg g96]; exact hR)
              | (rw [if_pos g96]; exact hR2)
          · first | exact hr | exact hr.tr hr2
          · first | exact hx | exact hx.tr hx2
  refine v_aload_n hC dX7_decide_0 rfl rfl ?_
  refine gf_7_6 hC ht (wf_218 hW ht) mw_2_40 dX7_decide_1 ?_
  rw [ly_M hR.1]
  refine gf_4_3 hC hM5 (wf_167 hW hM5) mw_2_13 dX7_decide_4 ?_
  refine v_iload_n hC dX7_decide_7 rfl rfl ?_
  refine v_aald 54 _ hC (wf_167 hW hM5) (by decide) rfl (ix_c (wz_54 hW (wf_167 hW hM5)) (by omega)) (we_54 hW (wf_167 hW hM5) (by omega)) dX7_decide_8 ?_
  rw [ly_D2 hR.1 (by omega)]
  refine v_ast3 hC dX7_decide_9 (by decide) (kk := ?_)
  refine v_aload_n hC dX7_decide_10 rfl rfl ?_
  refine gf_7_6 hC ht (wf_218 hW ht) mw_2_40 dX7_decide_11 ?_
  rw [ly_M hR.1]
  refine v_aload_n hC dX7_decide_14 rfl rfl ?_
  refine gf_0_0 hC hD mw_1_225 dX7_decide_15 ?_
  rw [(hR.di2 hd).1, hde]
  refine cVi1 hC (c_X4_hasEntry hM5 hn0 c1) yv_X4_hasEntry rfl hM5 mw_3_188 ⟨Nat.le_of_ble_eq_true rfl, Nat.le_of_ble_eq_true rfl⟩ ⟨Nat.le_of_ble_eq_true rfl, Nat.le_of_ble_eq_true rfl⟩ (Nat.le_of_ble_eq_true rfl) dX7_decide_18 (fun r18 M20 hq => ?_)
  obtain ⟨hm, hq2⟩ := hq
  have hm2 := hm.symm
  clear hm
  subst hm2
  obtain ⟨g18, rfl⟩ | ⟨g18, rfl⟩ := hq2
  · refine v_if_ne hC dX7_decide_21 (tgt := 26) (by decide) (fun _ => ?_) (fun hx => absurd hx (by decide))
    refine v_aload_n hC dX7_decide_26 rfl rfl ?_
    refine v_iload_n hC dX7_decide_27 rfl rfl ?_
    refine v_if_ne hC dX7_decide_28 (tgt := 38) (by decide) (fun h28 => ?_) (fun h28 => ?_)
    · refine v_aload_n hC dX7_decide_38 rfl rfl ?_
      refine gf_0_2 hC hD mw_1_232 dX7_decide_39 ?_
      rw [(hR.di2 hd).2.2.1, show q_i u 15 d 0 = chD u d z from (if_neg h28).symm]
      refine pf_0_3 hC hD mw_1_235 dX7_decide_42 ?_
      refine v_aload_n hC dX7_decide_45 rfl rfl ?_
      refine gf_7_6 hC ht (wf_218 hW ht) mw_2_40 dX7_decide_46 ?_
      erw [ly_M hR.1]
      refine gf_4_1 hC hM5 (wf_165 hW hM5) mw_2_8 dX7_decide_49 ?_
      refine v_aload_n hC dX7_decide_52 rfl rfl ?_
      refine gf_0_0 hC hD mw_1_225 dX7_decide_53 ?_
      erw [(hR.di2 hd).1, hde]
      refine v_aald 53 _ hC (wf_165 hW hM5) (by decide) rfl (ix_c (wz_53 hW (wf_165 hW hM5)) (by omega)) (we_53 hW (wf_165 hW hM5) (by omega)) dX7_decide_56 ?_
      erw [ly_E2 hR.1 (by omega)]
      refine v_ast4 hC dX7_decide_57 (by decide) (kk := ?_)
      refine v_aload hC dX7_decide_59 rfl ?_
      refine v_aload_n hC dX7_decide_61 rfl rfl ?_
      refine gf_0_3 hC hD mw_1_235 dX7_decide_62 ?_
      rw [i_se]
      refine pf_1_1 hC hE mw_1_200 dX7_decide_65 ?_
      refine v_aload hC dX7_decide_68 rfl ?_
      refine v_iconst (v := 1) hC dX7_decide_70 (by decide) ?_
      refine pf_1_2 hC hE (Or.inr rfl) mw_1_204 dX7_decide_71 ?_
      refine v_iconst (v := 0) hC dX7_decide_74 (by decide) ?_
      refine v_ist5 hC dX7_decide_75 (by decide) (kk := ?_)
      refine v_iconst (v := 0) hC dX7_decide_77 (by decide) ?_
      refine v_ist6 hC dX7_decide_78 (by decide) (kk := ?_)
      exact loop 9 0 _ (by omega) (by omega) k3 (((Rg.rf.si (cA_r (cp_d (d := d) (by omega) 16 (by decide) (by decide))) (by decide)).si (cA_r (cp_e (e := e1) (by omega) 11 (by decide) (by decide))) (by decide)).si (cA_r (cp_e (e := e1) (by omega) 11 (by decide) (by decide))) (by decide)) Fx.rf.si.si.si
    · refine v_aload_n hC dX7_decide_31 rfl rfl ?_
      refine gf_0_1 hC hD mw_1_229 dX7_decide_32 ?_
      rw [(hR.di2 hd).2.1, show q_i u 14 d 0 = chD u d z from (if_pos h28).symm]
      refine v_goto hC dX7_decide_35 (tgt := 42) (by decide) ?_
      refine pf_0_3 hC hD mw_1_235 dX7_decide_42 ?_
      refine v_aload_n hC dX7_decide_45 rfl rfl ?_
      refine gf_7_6 hC ht (wf_218 hW ht) mw_2_40 dX7_decide_46 ?_
      erw [ly_M hR.1]
      refine gf_4_1 hC hM5 (wf_165 hW hM5) mw_2_8 dX7_decide_49 ?_
      refine v_aload_n hC dX7_decide_52 rfl rfl ?_
      refine gf_0_0 hC hD mw_1_225 dX7_decide_53 ?_
      erw [(hR.di2 hd).1, hde]
      refine v_aald 53 _ hC (wf_165 hW hM5) (by decide) rfl (ix_c (wz_53 hW (wf_165 hW hM5)) (by omega)) (we_53 hW (wf_165 hW hM5) (by omega)) dX7_decide_56 ?_
      erw [ly_E2 hR.1 (by omega)]
      refine v_ast4 hC dX7_decide_57 (by decide) (kk := ?_)
      refine v_aload hC dX7_decide_59 rfl ?_
      refine v_aload_n hC dX7_decide_61 rfl rfl ?_
      refine gf_0_3 hC hD mw_1_235 dX7_decide_62 ?_
      rw [i_se]
      refine pf_1_1 hC hE mw_1_200 dX7_decide_65 ?_
      refine v_aload hC dX7_decide_68 rfl ?_
      refine v_iconst (v := 1) hC dX7_decide_70 (by decide) ?_
      refine pf_1_2 hC hE (Or.inr rfl) mw_1_204 dX7_decide_71 ?_
      refine v_iconst (v := 0) hC dX7_decide_74 (by decide) ?_
      refine v_ist5 hC dX7_decide_75 (by decide) (kk := ?_)
      refine v_iconst (v := 0) hC dX7_decide_77 (by decide) ?_
      refine v_ist6 hC dX7_decide_78 (by decide) (kk := ?_)
      exact loop 9 0 _ (by omega) (by omega) k3 (((Rg.rf.si (cA_r (cp_d (d := d) (by omega) 16 (by decide) (by decide))) (by decide)).si (cA_r (cp_e (e := e1) (by omega) 11 (by decide) (by decide))) (by decide)).si (cA_r (cp_e (e := e1) (by omega) 11 (by decide) (by decide))) (by decide)) Fx.rf.si.si.si
  · exact absurd ⟨e1, he, rfl⟩ g18

set_option maxHeartbeats 4000000 in
set_option maxRecDepth 100000 in
theorem c_X7_giveToReviewer {l : Launch} {G : Gd} {M : Me} {h f p1 : Nat} {u : Si} {x : Int32} (hW : Wt M) (ht : m_t M h = 8) (hR : CR M h u) (hf : f < n_f u) (hp : p1 < n_p u) (ep : q_i u 5 f 0 = nI p1) : CQ (Qv G (fun M2 => CR M2 h (revU u f p1 x) ∧ Rg M M2 h ∧ Fx M M2)) l G yX7_giveToReviewer cX7_giveToReviewer 4 (none) 1 21 0 0 [.ref h, .int (nI f), .int x] M := by
  refine c_of ([some (.ref h), some (.int (nI f)), some (.int x), none] : Lo) RX7 "giveToReviewer" (by decide) rfl rfl (Nat.le_of_ble_eq_true rfl) rfl (fun p e s m below meth c hC nw => ?_)
  have hW0 := hW
  have ht0 := ht
  have hb8 : n_f u ≤ 8 := hR.2.1.1
  have c1 := hR.2.1.2.1
  have hn0 : m_i M 214 h 0 = nI (n_p u) := hR.2.2.2.1.2.1
  have hF : m_t M (cA h 4 f) = 10 := by rw [← ly_F2 hR.1 (by omega)]; exact we_51 hW (wf_215 hW ht) (by omega)
  have hP : m_t M (cA h 1 p1) = 6 := by rw [← ly_P2 hR.1 (by omega)]; exact we_50 hW (wf_213 hW ht) (by omega)
  refine v_aload_n hC dX7_giveToReviewer_0 rfl rfl ?_
  refine gf_7_3 hC ht (wf_215 hW ht) mw_2_34 dX7_giveToReviewer_1 ?_
  refine v_iload_n hC dX7_giveToReviewer_4 rfl rfl ?_
  refine v_aald 51 _ hC (wf_215 hW ht) (by decide) rfl (ix_c (wz_51 hW (wf_215 hW ht)) (by omega)) (we_51 hW (wf_215 hW ht) (by omega)) dX7_giveToReviewer_5 ?_
  rw [ly_F2 hR.1 (by omega)]
  refine v_ast3 hC dX7_giveToReviewer_6 (by decide) (kk := ?_)
  refine v_aload_n hC dX7_giveToReviewer_7 rfl rfl ?_
  refine v_iconst (v := 2) hC dX7_giveToReviewer_8 (by decide) ?_
  refine pf_9_0 hC hF mw_1_132 dX7_giveToReviewer_9 ?_
  refine v_aload_n hC dX7_giveToReviewer_12 rfl rfl ?_
  refine v_iload_n hC dX7_giveToReviewer_13 rfl rfl ?_
  refine pf_9_2 hC hF mw_1_138 dX7_giveToReviewer_14 ?_
  refine v_aload_n hC dX7_giveToReviewer_17 rfl rfl ?_
  refine v_aload_n hC dX7_giveToReviewer_18 rfl rfl ?_
  refine gf_9_1 hC hF mw_1_135 dX7_giveToReviewer_19 ?_
  erw [(hR.f42 hf).2.1, ep]
  refine cVi1 hC (c_X7_hasPerson ht hn0 c1) yv_X7_hasPerson rfl ht mw_3_140 ⟨Nat.le_of_ble_eq_true rfl, Nat.le_of_ble_eq_true rfl⟩ ⟨Nat.le_of_ble_eq_true rfl, Nat.le_of_ble_eq_true rfl⟩ (Nat.le_of_ble_eq_true rfl) dX7_giveToReviewer_22 (fun r22 M24 hq => ?_)
  obtain ⟨hm, hq2⟩ := hq
  have hm2 := hm.symm
  clear hm
  subst hm2
  obtain ⟨g22, rfl⟩ | ⟨g22, rfl⟩ := hq2
  · refine v_if_eq hC dX7_giveToReviewer_25 (tgt := 41) (by decide) (fun hx => absurd hx (by decide)) (fun _ => ?_)
    refine v_aload_n hC dX7_giveToReviewer_28 rfl rfl ?_
    refine gf_7_1 hC ht (wf_213 hW ht) mw_2_30 dX7_giveToReviewer_29 ?_
    refine v_aload_n hC dX7_giveToReviewer_32 rfl rfl ?_
    refine gf_9_1 hC hF mw_1_135 dX7_giveToReviewer_33 ?_
    erw [(hR.f42 hf).2.1, ep]
    refine v_aald 50 _ hC (wf_213 hW ht) (by decide) rfl (ix_c (wz_50 hW (wf_213 hW ht)) (by omega)) (we_50 hW (wf_213 hW ht) (by omega)) dX7_giveToReviewer_36 ?_
    erw [ly_P2 hR.1 (by omega)]
    refine v_iload_n hC dX7_giveToReviewer_37 rfl rfl ?_
    refine pf_5_2 hC hP mw_1_108 dX7_giveToReviewer_38 ?_
    refine v_vret hC dX7_giveToReviewer_41 ?_
    have r4 := cA_r (S := h) (cp_f (f := f) (by omega) 4 (by decide) (by decide))
    exact ⟨CR.wA 3 p1 0 (CR.wA 6 f 0 (CR.wA 4 f 0 hR (cp_f (by omega) 4 (by decide) (by decide)) rfl) (cp_f (by omega) 6 (by decide) (by decide)) (A := cA h 4 f) rfl) (cp_p (by omega) 3 (by decide) (by decide)) (A := cA h 1 p1) rfl, ((Rg.rf.si r4 (by decide)).si r4 (by decide)).si (cA_r (cp_p (p := p1) (by omega) 1 (by decide) (by decide))) (by decide), Fx.rf.si.si.si⟩
  · exact absurd ⟨p1, hp, rfl⟩ g22

set_option maxHeartbeats 4000000 in
set_option maxRecDepth 100000 in
theorem c_X7_exchangePlaces {l : Launch} {G : Gd} {M : Me} {h f o1 a b : Nat} {u : Si} (hW : Wt M) (ht : m_t M h = 8) (hR : CR M h u) (hf : f < 2 ^ 31) (ho : o1 < 2 ^ 31) (ha : a < n_f u) (hb : b < n_f u) (ea : q_i u 17 0 a = nI f) (eb : q_i u 17 0 b = nI o1) (ua : ∀ j, j < n_f u → q_i u 17 0 j = nI f → j = a) (ub : ∀ j, j < n_f u → q_i u 17 0 j = nI o1 → j = b) (hab : a ≠ b) : CQ (Qv G (fun M2 => CR M2 h (swpU u a b f o1) ∧ Rg M M2 h ∧ Fx M M2)) l G yX7_exchangePlaces cX7_exchangePlaces 4 (none) 0 0 0 0 [.ref h, .int (nI f), .int (nI o1)] M := by
  refine c_of ([some (.ref h), some (.int (nI f)), some (.int (nI o1)), none] : Lo) RX7 "exchangePlaces" (by decide) rfl rfl (Nat.le_of_ble_eq_true rfl) rfl (fun p e s m below meth c hC nw => ?_)
  have hW0 := hW
  have ht0 := ht
  have hb8 : n_f u ≤ 8 := hR.2.1.1
  
  have loop : ∀ (k i : Nat) (M1 : Me), i + k = 9 → i ≤ n_f u → CR M1 h (exU u a b f o1 i) → Rg M M1 h → Fx M M1 → V p l e (rmk 0 0 0 0) s m ([.ref h, .int (nI f), .int (nI o1)] : List Value).toArray below meth c 4 G (MQ below (Qv G (fun M2 => CR M2 h (swpU u a b f o1) ∧ Rg M M2 h ∧ Fx M M2)) ([.ref h, .int (nI f), .int (nI o1)] : List Value).toArray s 0 0 (fr_ G)) M1 0 0 2 ([some (.ref h), some (.int (nI f)), some (.int (nI o1)), some (.int (nI i))] : Lo) [] := by
    intro k
    induction k with
    | zero => intro i M1 w1 w2; omega
    | succ k ih =>
      intro i M1 w1 w2 hR hr hx
      have hW := hW0.fx hx
      have kn : n_f (exU u a b f o1 i) = n_f u := by show (exU u a b f o1 i).1 0 0 = u.1 0 0; rw [exU_n]
      have ht : m_t M1 h = 8 := (hx.2.1 _).trans ht0
      have hO : m_t M1 (cA h 17 0) = 21 := by rw [← ly_O hR.1]; exact wf_217 hW ht
      refine v_iload_n hC dX7_exchangePlaces_2 rfl rfl ?_
      refine v_aload_n hC dX7_exchangePlaces_3 rfl rfl ?_
      refine gf_7_4 hC ht mw_2_36 dX7_exchangePlaces_4 ?_
      rw [hR.2.2.2.1.1, kn]
      refine v_icmp_ge hC dX7_exchangePlaces_7 (tgt := 53) (by decide) (fun h7 => ?_) (fun h7 => ?_)
      · have hi := lp_ge h7
        refine v_vret hC dX7_exchangePlaces_53 ?_
        have hie : i = n_f u := by omega
        subst hie
        rw [exU_e ha hb] at hR
        exact ⟨hR, hr, hx⟩
      · have hi := lp_lt h7
        refine v_aload_n hC dX7_exchangePlaces_10 rfl rfl ?_
        refine gf_7_5 hC ht (wf_217 hW ht) mw_2_38 dX7_exchangePlaces_11 ?_
        rw [ly_O hR.1]
        refine v_iload_n hC dX7_exchangePlaces_14 rfl rfl ?_
        refine v_iald 21 hC hO (by decide) (by decide) (ix_c (wz_21 hW hO) (by omega)) dX7_exchangePlaces_15 ?_
        rw [← ly_O hR.1, hR.od (by omega), exU_r]
        refine v_iload_n hC dX7_exchangePlaces_16 rfl rfl ?_
        refine v_icmp_ne hC dX7_exchangePlaces_17 (tgt := 30) (by decide) (fun h17 => ?_) (fun h17 => ?_)
        · refine v_aload_n hC dX7_exchangePlaces_30 rfl rfl ?_
          refine gf_7_5 hC ht (wf_217 hW ht) mw_2_38 dX7_exchangePlaces_31 ?_
          rw [ly_O hR.1]
          refine v_iload_n hC dX7_exchangePlaces_34 rfl rfl ?_
          refine v_iald 21 hC hO (by decide) (by decide) (ix_c (wz_21 hW hO) (by omega)) dX7_exchangePlaces_35 ?_
          rw [← ly_O hR.1, hR.od (by omega), exU_r]
          refine v_iload_n hC dX7_exchangePlaces_36 rfl rfl ?_
          refine v_icmp_ne hC dX7_exchangePlaces_37 (tgt := 47) (by decide) (fun h37 => ?_) (fun h37 => ?_)
          · refine v_inc3 hC dX7_exchangePlaces_47 ((nI_succ i).symm) (by decide) (kk := ?_)
            refine v_goto hC dX7_exchangePlaces_50 (tgt := 2) (by decide) ?_
            refine ih (i + 1) _ (by omega) (by omega) ?_ ?_ ?_
            · first
                | (have z : i = a := ua i hi h17
                   subst z
                   rw [exU_a hab]; exact CR.wA 17 0 i hR (cp_o (by omega)) rfl)
                | (have z : i = b := ub i hi h37
                   subst z
                   rw [exU_b (fun q => hab q.symm)]; exact CR.wA 17 0 i hR (cp_o (by omega)) rfl)
                | (rw [exU_0 (fun q => h17 (by rw [q]; exact ea)) (fun q => h37 (by rw [q]; exact eb))]; exact hR)
            · first | exact hr | exact hr.si (cA_r (cp_o (j := i) (by omega))) (by decide)
            · first | exact hx | exact hx.si
          · refine v_aload_n hC dX7_exchangePlaces_40 rfl rfl ?_
            refine gf_7_5 hC ht (wf_217 hW ht) mw_2_38 dX7_exchangePlaces_41 ?_
            rw [ly_O hR.1]
            refine v_iload_n hC dX7_exchangePlaces_44 rfl rfl ?_
            refine v_iload_n hC dX7_exchangePlaces_45 rfl rfl ?_
            refine v_iast 21 hC hO (by decide) (by decide) (ix_c (wz_21 hW hO) (by omega)) dX7_exchangePlaces_46 ?_
            refine v_inc3 hC dX7_exchangePlaces_47 ((nI_succ i).symm) (by decide) (kk := ?_)
            refine v_goto hC dX7_exchangePlaces_50 (tgt := 2) (by decide) ?_
            refine ih (i + 1) _ (by omega) (by omega) ?_ ?_ ?_
            · first
                | (have z : i = a := ua i hi h17
                   subst z
                   rw [exU_a hab]; exact CR.wA 17 0 i hR (cp_o (by omega)) rfl)
                | (have z : i = b := ub i hi h37
                   subst z
                   rw [exU_b (fun q => hab q.symm)]; exact CR.wA 17 0 i hR (cp_o (by omega)) rfl)
                | (rw [exU_0 (fun q => h17 (by rw [q]; exact ea)) (fun q => h37 (by rw [q]; exact eb))]; exact hR)
            · first | exact hr | exact hr.si (cA_r (cp_o (j := i) (by omega))) (by decide)
            · first | exact hx | exact hx.si
        · refine v_aload_n hC dX7_exchangePlaces_20 rfl rfl ?_
          refine gf_7_5 hC ht (wf_217 hW ht) mw_2_38 dX7_exchangePlaces_21 ?_
          rw [ly_O hR.1]
          refine v_iload_n hC dX7_exchangePlaces_24 rfl rfl ?_
          refine v_iload_n hC dX7_exchangePlaces_25 rfl rfl ?_
          refine v_iast 21 hC hO (by decide) (by decide) (ix_c (wz_21 hW hO) (by omega)) dX7_exchangePlaces_26 ?_
          refine v_goto hC dX7_exchangePlaces_27 (tgt := 47) (by decide) ?_
          refine v_inc3 hC dX7_exchangePlaces_47 ((nI_succ i).symm) (by decide) (kk := ?_)
          refine v_goto hC dX7_exchangePlaces_50 (tgt := 2) (by decide) ?_
          refine ih (i + 1) _ (by omega) (by omega) ?_ ?_ ?_
          · first
              | (have z : i = a := ua i hi h17
                 subst z
                 rw [exU_a hab]; exact CR.wA 17 0 i hR (cp_o (by omega)) rfl)
              | (have z : i = b := ub i hi h37
                 subst z
                 rw [exU_b (fun q => hab q.symm)]; exact CR.wA 17 0 i hR (cp_o (by omega)) rfl)
              | (rw [exU_0 (fun q => h17 (by rw [q]; exact ea)) (fun q => h37 (by rw [q]; exact eb))]; exact hR)
          · first | exact hr | exact hr.si (cA_r (cp_o (j := i) (by omega))) (by decide)
          · first | exact hx | exact hx.si
  refine v_iconst (v := 0) hC dX7_exchangePlaces_0 (by decide) ?_
  refine v_ist3 hC dX7_exchangePlaces_1 (by decide) (kk := ?_)
  exact loop 9 0 M (by omega) (by omega) hR Rg.rf Fx.rf
