set_option maxHeartbeats 4000000 in
set_option maxRecDepth 100000 in
theorem c_X4_copyFrom {l : Launch} {G : Gd} {M : Me} {S S2 : Nat} {u : Si} {P : Nat → Nat → Nat → Prop} {PS : Nat → Prop} {PG : Nat → Nat → Prop} {PE : Nat → Prop} (hW : Wt M) (ht : m_t M (S + 43) = 5) (hg : m_t M (S2 + 43) = 5) (hC0 : CP M S u P PS PG PE) (hR : CR M S2 u) (hz : ∀ x, x < n_e u → q_i u 12 x 0 = 0 ∨ q_i u 12 x 0 = 1) (hn : S2 + 97 ≤ m_n M) (hd : S2 + 97 ≤ S ∨ S + 97 ≤ S2) : CQ (Qv G (fun M1 => CP M1 S u (fun k a j => P k a j ∨ (11 ≤ k ∧ k ≤ 12 ∧ a < n_e u ∧ j = 0) ∨ (13 ≤ k ∧ k ≤ 16 ∧ a < n_d u ∧ j = 0)) PS PG (fun y => PE y ∨ y < n_e u) ∧ (m_i M1 166 (S + 43) 0 = nI (n_e u) ∧ m_i M1 168 (S + 43) 0 = nI (n_d u)) ∧ Rg M M1 S ∧ Wt M1 ∧ Tx M M1 ∧ Ck M M1)) l G yX4_copyFrom cX4_copyFrom 3 (none) 1 21 0 0 [.ref (S + 43), .ref (S2 + 43)] M := by
  refine c_of ([some (.ref (S + 43)), some (.ref (S2 + 43)), none] : Lo) RX4 "copyFrom" (by decide) rfl rfl (Nat.le_of_ble_eq_true rfl) rfl (fun p e s m below meth c hC nw => ?_)
  have hW0 := hW
  have hR0 := hR
  have ht0 := ht
  have hg0 := hg
  have c1 := hR.2.1.2.2.1
  have c2 := hR.2.1.2.2.2.1
  have loopB : ∀ (k i : Nat) (M1 : Me), i + k = 11 → i ≤ n_d u → CP M1 S u (fun k a j => P k a j ∨ (11 ≤ k ∧ k ≤ 12 ∧ a < n_e u ∧ j = 0) ∨ (13 ≤ k ∧ k ≤ 16 ∧ a < i ∧ j = 0)) PS PG (fun y => PE y ∨ y < n_e u) → m_i M1 166 (S + 43) 0 = nI (n_e u) → m_i M1 168 (S + 43) 0 = nI (n_d u) → Rg M M1 S → Wt M1 → Tx M M1 → Ck M M1 → V p l e (rmk 1 21 0 0) s m ([.ref (S + 43), .ref (S2 + 43)] : List Value).toArray below meth c 3 G (MQ below (Qv G (fun M1 => CP M1 S u (fun k a j => P k a j ∨ (11 ≤ k ∧ k ≤ 12 ∧ a < n_e u ∧ j = 0) ∨ (13 ≤ k ∧ k ≤ 16 ∧ a < n_d u ∧ j = 0)) PS PG (fun y => PE y ∨ y < n_e u) ∧ (m_i M1 166 (S + 43) 0 = nI (n_e u) ∧ m_i M1 168 (S + 43) 0 = nI (n_d u)) ∧ Rg M M1 S ∧ Wt M1 ∧ Tx M M1 ∧ Ck M M1)) ([.ref (S + 43), .ref (S2 + 43)] : List Value).toArray s 0 0 (fr_ G)) M1 0 0 49 ([some (.ref (S + 43)), some (.ref (S2 + 43)), some (.int (nI i))] : Lo) [] := by
    intro k
    induction k with
    | zero => intro i M1 w1 w2; omega
    | succ k ih =>
      intro i M1 w1 w2 hC1 h166 h168 hr hW hx hk
      have hR : CR M1 S2 u := hR0.far nw hW0 hn hd hr
      have ht : m_t M1 (S + 43) = 5 := (hx.2 _).trans ht0
      have hg : m_t M1 (S2 + 43) = 5 := (hx.2 _).trans hg0
      refine v_iload_n hC dX4_copyFrom_49 rfl rfl ?_
      refine v_aload_n hC dX4_copyFrom_50 rfl rfl ?_
      refine gf_4_4 hC ht mw_2_15 dX4_copyFrom_51 ?_
      rw [h168]
      refine v_icmp_ge hC dX4_copyFrom_54 (tgt := 78) (by decide) (fun h54 => ?_) (fun h54 => ?_)
      · have hi := lp_ge h54
        refine v_vret hC dX4_copyFrom_78 ?_
        have hie : i = n_d u := by omega
        subst hie
        exact ⟨hC1, ⟨h166, h168⟩, hr, hW, hx, hk⟩
      · have hi := lp_lt h54
        have rd := cA_r (S := S) (cp_d (d := i) (by omega) 13 (by decide) (by decide))
        refine v_aload_n hC dX4_copyFrom_57 rfl rfl ?_
        refine gf_4_3 hC ht (wf_167 hW ht) mw_2_12 dX4_copyFrom_58 ?_
        refine v_iload_n hC dX4_copyFrom_61 rfl rfl ?_
        refine v_aald 54 _ hC (wf_167 hW ht) (by decide) rfl (ix_c (wz_54 hW (wf_167 hW ht)) (by omega)) (we_54 hW (wf_167 hW ht) (by omega)) dX4_copyFrom_62 ?_
        rw [ly_D2 hC1.1 (by omega)]
        refine v_aload_n hC dX4_copyFrom_63 rfl rfl ?_
        refine gf_4_3 hC hg (wf_167 hW hg) mw_2_12 dX4_copyFrom_64 ?_
        refine v_iload_n hC dX4_copyFrom_67 rfl rfl ?_
        refine v_aald 54 _ hC (wf_167 hW hg) (by decide) rfl (ix_c (wz_54 hW (wf_167 hW hg)) (by omega)) (we_54 hW (wf_167 hW hg) (by omega)) dX4_copyFrom_68 ?_
        rw [ly_D2 hR.1 (by omega)]
        refine cVv1 hC (c_X0_copyFrom (by rw [← ly_D2 hC1.1 (by omega)]; exact we_54 hW (wf_167 hW ht) (by omega)) (by rw [← ly_D2 hR.1 (by omega)]; exact we_54 hW (wf_167 hW hg) (by omega))) yv_X0_copyFrom rfl (by rw [← ly_D2 hC1.1 (by omega)]; exact we_54 hW (wf_167 hW ht) (by omega)) mw_2_130 ⟨Nat.le_of_ble_eq_true rfl, Nat.le_of_ble_eq_true rfl⟩ ⟨Nat.le_of_ble_eq_true rfl, Nat.le_of_ble_eq_true rfl⟩ (Nat.le_of_ble_eq_true rfl) dX4_copyFrom_69 (fun M71 hq => ?_)
        subst hq
        rw [(hR.di2 hi).1, (hR.di2 hi).2.1, (hR.di2 hi).2.2.1, (hR.di2 hi).2.2.2]
        refine v_inc2 hC dX4_copyFrom_72 ((nI_succ i).symm) (by decide) (kk := ?_)
        refine v_goto hC dX4_copyFrom_75 (tgt := 49) (by decide) ?_
        refine ih (i + 1) _ (by omega) (by omega) (CP.sub (CP.wr 16 i 0 (CP.wr 15 i 0 (CP.wr 14 i 0 (CP.wr 13 i 0 hC1 (cp_d (by omega) 13 (by decide) (by decide)) (A := cA S 13 i) rfl rfl) (cp_d (by omega) 14 (by decide) (by decide)) (A := cA S 13 i) rfl rfl) (cp_d (by omega) 15 (by decide) (by decide)) (A := cA S 13 i) rfl rfl) (cp_d (by omega) 16 (by decide) (by decide)) (A := cA S 13 i) rfl rfl) (fun k2 a2 j2 q => ?_) (fun _ q => q) (fun _ _ q => q) (fun y q => q)) ?_ ?_ ((((hr.si rd (by decide)).si rd (by decide)).si rd (by decide)).si rd (by decide)) hW hx ((((hk.si (by decide)).si (by decide)).si (by decide)).si (by decide))
        · rcases q with q | q | q
          · exact Or.inl (Or.inl (Or.inl (Or.inl (Or.inl q))))
          · exact Or.inl (Or.inl (Or.inl (Or.inl (Or.inr (Or.inl q)))))
          · have q3 : (13 ≤ k2 ∧ k2 ≤ 16 ∧ a2 < i ∧ j2 = 0) ∨ (k2 = 13 ∧ a2 = i ∧ j2 = 0) ∨ (k2 = 14 ∧ a2 = i ∧ j2 = 0) ∨ (k2 = 15 ∧ a2 = i ∧ j2 = 0) ∨ (k2 = 16 ∧ a2 = i ∧ j2 = 0) := by omega
            rcases q3 with q3 | q3 | q3 | q3 | q3
            · exact Or.inl (Or.inl (Or.inl (Or.inl (Or.inr (Or.inr q3)))))
            · exact Or.inl (Or.inl (Or.inl (Or.inr q3)))
            · exact Or.inl (Or.inl (Or.inr q3))
            · exact Or.inl (Or.inr q3)
            · exact Or.inr q3
        · exact (i_sk (by decide)).trans ((i_sk (by decide)).trans ((i_sk (by decide)).trans ((i_sk (by decide)).trans h166)))
        · exact (i_sk (by decide)).trans ((i_sk (by decide)).trans ((i_sk (by decide)).trans ((i_sk (by decide)).trans h168)))
  have loopA : ∀ (k i : Nat) (M1 : Me), i + k = 41 → i ≤ n_e u → CP M1 S u (fun k a j => P k a j ∨ (11 ≤ k ∧ k ≤ 12 ∧ a < i ∧ j = 0)) PS PG (fun y => PE y ∨ y < i) → m_i M1 166 (S + 43) 0 = nI (n_e u) → Rg M M1 S → Wt M1 → Tx M M1 → Ck M M1 → V p l e (rmk 1 21 0 0) s m ([.ref (S + 43), .ref (S2 + 43)] : List Value).toArray below meth c 3 G (MQ below (Qv G (fun M1 => CP M1 S u (fun k a j => P k a j ∨ (11 ≤ k ∧ k ≤ 12 ∧ a < n_e u ∧ j = 0) ∨ (13 ≤ k ∧ k ≤ 16 ∧ a < n_d u ∧ j = 0)) PS PG (fun y => PE y ∨ y < n_e u) ∧ (m_i M1 166 (S + 43) 0 = nI (n_e u) ∧ m_i M1 168 (S + 43) 0 = nI (n_d u)) ∧ Rg M M1 S ∧ Wt M1 ∧ Tx M M1 ∧ Ck M M1)) ([.ref (S + 43), .ref (S2 + 43)] : List Value).toArray s 0 0 (fr_ G)) M1 0 0 10 ([some (.ref (S + 43)), some (.ref (S2 + 43)), some (.int (nI i))] : Lo) [] := by
    intro k
    induction k with
    | zero => intro i M1 w1 w2; omega
    | succ k ih =>
      intro i M1 w1 w2 hC1 h166 hr hW hx hk
      have hR : CR M1 S2 u := hR0.far nw hW0 hn hd hr
      have ht : m_t M1 (S + 43) = 5 := (hx.2 _).trans ht0
      have hg : m_t M1 (S2 + 43) = 5 := (hx.2 _).trans hg0
      refine v_iload_n hC dX4_copyFrom_10 rfl rfl ?_
      refine v_aload_n hC dX4_copyFrom_11 rfl rfl ?_
      refine gf_4_2 hC ht mw_2_10 dX4_copyFrom_12 ?_
      rw [h166]
      refine v_icmp_ge hC dX4_copyFrom_15 (tgt := 39) (by decide) (fun h15 => ?_) (fun h15 => ?_)
      · have hi := lp_ge h15
        refine v_aload_n hC dX4_copyFrom_39 rfl rfl ?_
        refine v_aload_n hC dX4_copyFrom_40 rfl rfl ?_
        refine gf_4_4 hC hg mw_2_15 dX4_copyFrom_41 ?_
        rw [hR.2.2.2.1.2.2.2]
        refine pf_4_4 hC ht mw_2_15 dX4_copyFrom_44 ?_
        refine v_iconst (v := 0) hC dX4_copyFrom_47 (by decide) ?_
        refine v_ist2 hC dX4_copyFrom_48 (by decide) (kk := ?_)
        have hie : i = n_e u := by omega
        subst hie
        refine loopB 11 0 _ (by omega) (by omega) ((hC1.ct (Or.inr (Or.inr (Or.inr rfl)))).sub (fun k2 a2 j2 q => ?_) (fun _ q => q) (fun _ _ q => q) (fun y q => q)) ((i_sk (by decide)).trans h166) i_se (hr.si ⟨by omega, by omega⟩ (by decide)) hW hx (hk.si (by decide))
        rcases q with q | q | q
        · exact Or.inl q
        · exact Or.inr q
        · omega
      · have hi := lp_lt h15
        have re := cA_r (S := S) (cp_e (e := i) (by omega) 11 (by decide) (by decide))
        refine v_aload_n hC dX4_copyFrom_18 rfl rfl ?_
        refine gf_4_1 hC ht (wf_165 hW ht) mw_2_7 dX4_copyFrom_19 ?_
        refine v_iload_n hC dX4_copyFrom_22 rfl rfl ?_
        refine v_aald 53 _ hC (wf_165 hW ht) (by decide) rfl (ix_c (wz_53 hW (wf_165 hW ht)) (by omega)) (we_53 hW (wf_165 hW ht) (by omega)) dX4_copyFrom_23 ?_
        rw [ly_E2 hC1.1 (by omega)]
        refine v_aload_n hC dX4_copyFrom_24 rfl rfl ?_
        refine gf_4_1 hC hg (wf_165 hW hg) mw_2_7 dX4_copyFrom_25 ?_
        refine v_iload_n hC dX4_copyFrom_28 rfl rfl ?_
        refine v_aald 53 _ hC (wf_165 hW hg) (by decide) rfl (ix_c (wz_53 hW (wf_165 hW hg)) (by omega)) (we_53 hW (wf_165 hW hg) (by omega)) dX4_copyFrom_29 ?_
        rw [ly_E2 hR.1 (by omega)]
        refine cVv1 hC (c_X1_copyFrom hW (by rw [← ly_E2 hC1.1 (by omega)]; exact we_53 hW (wf_165 hW ht) (by omega)) (by rw [← ly_E2 hR.1 (by omega)]; exact we_53 hW (wf_165 hW hg) (by omega)) (by rw [(hR.en2 hi).2.1]; exact hz i hi)) yv_X1_copyFrom rfl (by rw [← ly_E2 hC1.1 (by omega)]; exact we_53 hW (wf_165 hW ht) (by omega)) mw_2_126 ⟨Nat.le_of_ble_eq_true rfl, Nat.le_of_ble_eq_true rfl⟩ ⟨Nat.le_of_ble_eq_true rfl, Nat.le_of_ble_eq_true rfl⟩ (Nat.le_of_ble_eq_true rfl) dX4_copyFrom_30 (fun M32 hq => ?_)
        subst hq
        rw [(hR.en2 hi).1, (hR.en2 hi).2.1]
        refine v_inc2 hC dX4_copyFrom_33 ((nI_succ i).symm) (by decide) (kk := ?_)
        refine v_goto hC dX4_copyFrom_36 (tgt := 10) (by decide) ?_
        refine ih (i + 1) _ (by omega) (by omega) (CP.sub (CP.wr 12 i 0 (CP.wr 11 i 0 (hC1.g116 (by omega) (hR.en2 hi).2.2) (cp_e (by omega) 11 (by decide) (by decide)) rfl rfl) (cp_e (by omega) 12 (by decide) (by decide)) (A := cA S 11 i) rfl rfl) (fun k2 a2 j2 q => ?_) (fun _ q => q) (fun _ _ q => q) (fun y q => ?_)) ?_ (((hr.sr re (Or.inr rfl)).si re (by decide)).si re (by decide)) (hW.sg (hR.en2 hi).2.2.1 116 (Or.inr rfl)) hx ((hk.sr.si (by decide)).si (by decide))
        · rcases q with q | q
          · exact Or.inl (Or.inl (Or.inl q))
          · have q3 : (11 ≤ k2 ∧ k2 ≤ 12 ∧ a2 < i ∧ j2 = 0) ∨ (k2 = 11 ∧ a2 = i ∧ j2 = 0) ∨ (k2 = 12 ∧ a2 = i ∧ j2 = 0) := by omega
            rcases q3 with q3 | q3 | q3
            · exact Or.inl (Or.inl (Or.inr q3))
            · exact Or.inl (Or.inr q3)
            · exact Or.inr q3
        · rcases q with q | q
          · exact Or.inl (Or.inl q)
          · by_cases z : y = i
            · exact Or.inr z
            · exact Or.inl (Or.inr (by omega))
        · exact (i_sk (by decide)).trans ((i_sk (by decide)).trans h166)
  refine v_aload_n hC dX4_copyFrom_0 rfl rfl ?_
  refine v_aload_n hC dX4_copyFrom_1 rfl rfl ?_
  refine gf_4_2 hC hg mw_2_10 dX4_copyFrom_2 ?_
  rw [hR.2.2.2.1.2.2.1]
  refine pf_4_2 hC ht mw_2_10 dX4_copyFrom_5 ?_
  refine v_iconst (v := 0) hC dX4_copyFrom_8 (by decide) ?_
  refine v_ist2 hC dX4_copyFrom_9 (by decide) (kk := ?_)
  refine loopA 41 0 _ (by omega) (by omega) ((hC0.ct (Or.inr (Or.inr (Or.inl rfl)))).sub (fun k2 a2 j2 q => ?_) (fun _ q => q) (fun _ _ q => q) (fun y q => ?_)) i_se (Rg.rf.si ⟨by omega, by omega⟩ (by decide)) hW0 Tx.rf (Ck.rf.si (by decide))
  · rcases q with q | q
    · exact q
    · omega
  · rcases q with q | q
    · exact q
    · omega

set_option maxHeartbeats 4000000 in
set_option maxRecDepth 100000 in
theorem c_X7_copyFrom {l : Launch} {G : Gd} {M : Me} {h g : Nat} {u : Si} (hW : Wt M) (ht : m_t M h = 8) (hg : m_t M g = 8) (hL : LY M h) (hR : CR M g u) (hz : ∀ x, x < n_e u → q_i u 12 x 0 = 0 ∨ q_i u 12 x 0 = 1) (hn : g + 97 ≤ m_n M) (hd : g + 97 ≤ h ∨ h + 97 ≤ g) : CQ (Qv G (fun M1 => CR M1 h u ∧ Rg M M1 h ∧ Wt M1 ∧ Tx M M1)) l G yX7_copyFrom cX7_copyFrom 3 (none) 2 45 0 0 [.ref h, .ref g] M := by
  refine c_of ([some (.ref h), some (.ref g), none] : Lo) RX7 "copyFrom" (by decide) rfl rfl (Nat.le_of_ble_eq_true rfl) rfl (fun p e s m below meth c hC nw => ?_)
  have hW0 := hW
  have hR0 := hR
  have ht0 := ht
  have hg0 := hg
  have c1 := hR.2.1.2.2.1
  have c2 := hR.2.1.2.2.2.1
  have c3 := hR.2.1.1
  have c4 := hR.2.1.2.1
  have loopC : ∀ (k i : Nat) (M1 : Me), i + k = 9 → i ≤ n_f u → CP M1 h u (fun k a j => (k = 0 ∧ a = 0 ∧ j < 6) ∨ (1 ≤ k ∧ k ≤ 3 ∧ a < n_p u ∧ j = 0) ∨ (4 ≤ k ∧ k ≤ 8 ∧ a < i ∧ j = 0) ∨ (9 ≤ k ∧ k ≤ 10 ∧ a < i ∧ j < n_s u a) ∨ (k = 17 ∧ a = 0 ∧ j < i)) (fun f => f < i) (fun f t => f < i ∧ t < n_s u f) (fun y => False) → m_i M1 214 h 0 = nI (n_p u) → m_i M1 216 h 0 = nI (n_f u) → Rg M M1 h → Wt M1 → Tx M M1 → V p l e (rmk 2 45 0 0) s m ([.ref h, .ref g] : List Value).toArray below meth c 3 G (MQ below (Qv G (fun M1 => CR M1 h u ∧ Rg M M1 h ∧ Wt M1 ∧ Tx M M1)) ([.ref h, .ref g] : List Value).toArray s 0 0 (fr_ G)) M1 0 0 75 ([some (.ref h), some (.ref g), some (.int (nI i))] : Lo) [] := by
    intro k
    induction k with
    | zero => intro i M1 w1 w2; omega
    | succ k ih =>
      intro i M1 w1 w2 hC1 h214 h216 hr hW hx
      have hR : CR M1 g u := hR0.far nw hW0 hn hd hr
      have ht : m_t M1 h = 8 := (hx.2 _).trans ht0
      have hg : m_t M1 g = 8 := (hx.2 _).trans hg0
      refine v_iload_n hC dX7_copyFrom_75 rfl rfl ?_
      refine v_aload_n hC dX7_copyFrom_76 rfl rfl ?_
      refine gf_7_4 hC ht mw_2_36 dX7_copyFrom_77 ?_
      rw [h216]
      refine v_icmp_ge hC dX7_copyFrom_80 (tgt := 116) (by decide) (fun h80 => ?_) (fun h80 => ?_)
      · have hi := lp_ge h80
        have hie : i = n_f u := by omega
        subst hie
        have hM5 : m_t M1 (h + 43) = 5 := by rw [← ly_M hC1.1]; exact wf_218 hW ht
        have hM6 : m_t M1 (g + 43) = 5 := by rw [← ly_M hR.1]; exact wf_218 hW hg
        refine v_aload_n hC dX7_copyFrom_116 rfl rfl ?_
        refine gf_7_6 hC ht (wf_218 hW ht) mw_2_40 dX7_copyFrom_117 ?_
        rw [ly_M hC1.1]
        refine v_aload_n hC dX7_copyFrom_120 rfl rfl ?_
        refine gf_7_6 hC hg (wf_218 hW hg) mw_2_40 dX7_copyFrom_121 ?_
        rw [ly_M hR.1]
        refine cVv1 hC (c_X4_copyFrom hW hM5 hM6 hC1 hR hz (by rw [hx.1]; exact hn) hd) yv_X4_copyFrom rfl hM5 mw_2_122 ⟨Nat.le_of_ble_eq_true rfl, Nat.le_of_ble_eq_true rfl⟩ ⟨Nat.le_of_ble_eq_true rfl, Nat.le_of_ble_eq_true rfl⟩ (Nat.le_of_ble_eq_true rfl) dX7_copyFrom_124 (fun M126 hq => ?_)
        obtain ⟨hC2, ⟨h166, h168⟩, hr2, hW2, hx2, hk2⟩ := hq
        refine v_vret hC dX7_copyFrom_127 ?_
        refine ⟨hC2.done hR.2.1 (fun k a j q => ?_) (fun f q => q) (fun f t q1 q2 => ⟨q1, q2⟩) (fun y q => Or.inr q) ⟨(hk2 h 0).2.trans h216, (hk2 h 0).1.trans h214, h166, h168⟩, hr.tr hr2, hW2, hx.tr hx2⟩
        rcases q with q | q | q | q | q | q | q
        · exact Or.inl (Or.inl q)
        · exact Or.inl (Or.inr (Or.inl q))
        · exact Or.inl (Or.inr (Or.inr (Or.inl q)))
        · exact Or.inl (Or.inr (Or.inr (Or.inr (Or.inl q))))
        · exact Or.inr (Or.inl q)
        · exact Or.inr (Or.inr q)
        · exact Or.inl (Or.inr (Or.inr (Or.inr (Or.inr q))))
      · have hi := lp_lt h80
        refine v_aload_n hC dX7_copyFrom_83 rfl rfl ?_
        refine gf_7_3 hC ht (wf_215 hW ht) mw_2_34 dX7_copyFrom_84 ?_
        refine v_iload_n hC dX7_copyFrom_87 rfl rfl ?_
        refine v_aald 51 _ hC (wf_215 hW ht) (by decide) rfl (ix_c (wz_51 hW (wf_215 hW ht)) (by omega)) (we_51 hW (wf_215 hW ht) (by omega)) dX7_copyFrom_88 ?_
        rw [ly_F2 hC1.1 (by omega)]
        refine v_aload_n hC dX7_copyFrom_89 rfl rfl ?_
        refine gf_7_3 hC hg (wf_215 hW hg) mw_2_34 dX7_copyFrom_90 ?_
        refine v_iload_n hC dX7_copyFrom_93 rfl rfl ?_
        refine v_aald 51 _ hC (wf_215 hW hg) (by decide) rfl (ix_c (wz_51 hW (wf_215 hW hg)) (by omega)) (we_51 hW (wf_215 hW hg) (by omega)) dX7_copyFrom_94 ?_
        rw [ly_F2 hR.1 (by omega)]
        refine cVv1 hC (c_X9_copyFrom hW (by rw [← ly_F2 hC1.1 (by omega)]; exact we_51 hW (wf_215 hW ht) (by omega)) (by rw [← ly_F2 hR.1 (by omega)]; exact we_51 hW (wf_215 hW hg) (by omega)) hC1 hR hi (by rw [hx.1]; exact hn) hd) yv_X9_copyFrom rfl (by rw [← ly_F2 hC1.1 (by omega)]; exact we_51 hW (wf_215 hW ht) (by omega)) mw_2_114 ⟨Nat.le_of_ble_eq_true rfl, Nat.le_of_ble_eq_true rfl⟩ ⟨Nat.le_of_ble_eq_true rfl, Nat.le_of_ble_eq_true rfl⟩ (Nat.le_of_ble_eq_true rfl) dX7_copyFrom_95 (fun M97 hq => ?_)
        obtain ⟨hC2, hr2', hW2, hx2, hk2⟩ := hq
        have hr2 := hr.tr hr2'
        have hR2 : CR M97 g u := hR0.far nw hW0 hn hd hr2
        have ht : m_t M97 h = 8 := (hx2.2 _).trans ht
        have hg : m_t M97 g = 8 := (hx2.2 _).trans hg
        have hO : m_t M97 (cA h 17 0) = 21 := by rw [← ly_O hC2.1]; exact wf_217 hW2 ht
        have hO2 : m_t M97 (cA g 17 0) = 21 := by rw [← ly_O hR2.1]; exact wf_217 hW2 hg
        refine v_aload_n hC dX7_copyFrom_98 rfl rfl ?_
        refine gf_7_5 hC ht (wf_217 hW2 ht) mw_2_38 dX7_copyFrom_99 ?_
        rw [ly_O hC2.1]
        refine v_iload_n hC dX7_copyFrom_102 rfl rfl ?_
        refine v_aload_n hC dX7_copyFrom_103 rfl rfl ?_
        refine gf_7_5 hC hg (wf_217 hW2 hg) mw_2_38 dX7_copyFrom_104 ?_
        rw [ly_O hR2.1]
        refine v_iload_n hC dX7_copyFrom_107 rfl rfl ?_
        refine v_iald 21 hC hO2 (by decide) (by decide) (ix_c (wz_21 hW2 hO2) (by omega)) dX7_copyFrom_108 ?_
        rw [hR2.od2 hi]
        refine v_iast 21 hC hO (by decide) (by decide) (ix_c (wz_21 hW2 hO) (by omega)) dX7_copyFrom_109 ?_
        refine v_inc2 hC dX7_copyFrom_110 ((nI_succ i).symm) (by decide) (kk := ?_)
        refine v_goto hC dX7_copyFrom_113 (tgt := 75) (by decide) ?_
        refine ih (i + 1) _ (by omega) (by omega) ((CP.wr 17 0 i hC2 (cp_o (by omega)) rfl rfl).sub (fun k2 a2 j2 q => ?_) (fun x q => ?_) (fun x t2 q => ?_) (fun _ q => q)) ((i_sk (by decide)).trans ((hk2 h 0).1.trans h214)) ((i_sk (by decide)).trans ((hk2 h 0).2.trans h216)) (hr2.si (cA_r (cp_o (j := i) (by omega))) (by decide)) hW2 (hx.tr hx2)
        · rcases q with q | q | q | q | q
          · exact Or.inl (Or.inl (Or.inl q))
          · exact Or.inl (Or.inl (Or.inr (Or.inl q)))
          · by_cases z : a2 = i
            · exact Or.inl (Or.inr ⟨z, Or.inl ⟨q.1, q.2.1, q.2.2.2⟩⟩)
            · exact Or.inl (Or.inl (Or.inr (Or.inr (Or.inl ⟨q.1, q.2.1, Nat.lt_of_le_of_ne (Nat.le_of_lt_succ q.2.2.1) z, q.2.2.2⟩))))
          · by_cases z : a2 = i
            · subst z
              exact Or.inl (Or.inr ⟨rfl, Or.inr ⟨q.1, q.2.1, q.2.2.2⟩⟩)
            · exact Or.inl (Or.inl (Or.inr (Or.inr (Or.inr (Or.inl ⟨q.1, q.2.1, Nat.lt_of_le_of_ne (Nat.le_of_lt_succ q.2.2.1) z, q.2.2.2⟩)))))
          · by_cases z : j2 = i
            · exact Or.inr ⟨q.1, q.2.1, z⟩
            · exact Or.inl (Or.inl (Or.inr (Or.inr (Or.inr (Or.inr ⟨q.1, q.2.1, Nat.lt_of_le_of_ne (Nat.le_of_lt_succ q.2.2) z⟩)))))
        · by_cases z : x = i
          · exact Or.inr z
          · exact Or.inl (by omega)
        · by_cases z : x = i
          · subst z; exact Or.inr ⟨rfl, q.2⟩
          · exact Or.inl ⟨by omega, q.2⟩
  have loopB : ∀ (k i : Nat) (M1 : Me), i + k = 7 → i ≤ n_p u → CP M1 h u (fun k a j => (k = 0 ∧ a = 0 ∧ j < 6) ∨ (1 ≤ k ∧ k ≤ 3 ∧ a < i ∧ j = 0)) (fun f => False) (fun f t => False) (fun y => False) → m_i M1 214 h 0 = nI (n_p u) → Rg M M1 h → Wt M1 → Tx M M1 → V p l e (rmk 2 45 0 0) s m ([.ref h, .ref g] : List Value).toArray below meth c 3 G (MQ below (Qv G (fun M1 => CR M1 h u ∧ Rg M M1 h ∧ Wt M1 ∧ Tx M M1)) ([.ref h, .ref g] : List Value).toArray s 0 0 (fr_ G)) M1 0 0 36 ([some (.ref h), some (.ref g), some (.int (nI i))] : Lo) [] := by
    intro k
    induction k with
    | zero => intro i M1 w1 w2; omega
    | succ k ih =>
      intro i M1 w1 w2 hC1 h214 hr hW hx
      have hR : CR M1 g u := hR0.far nw hW0 hn hd hr
      have ht : m_t M1 h = 8 := (hx.2 _).trans ht0
      have hg : m_t M1 g = 8 := (hx.2 _).trans hg0
      refine v_iload_n hC dX7_copyFrom_36 rfl rfl ?_
      refine v_aload_n hC dX7_copyFrom_37 rfl rfl ?_
      refine gf_7_2 hC ht mw_2_32 dX7_copyFrom_38 ?_
      rw [h214]
      refine v_icmp_ge hC dX7_copyFrom_41 (tgt := 65) (by decide) (fun h41 => ?_) (fun h41 => ?_)
      · have hi := lp_ge h41
        refine v_aload_n hC dX7_copyFrom_65 rfl rfl ?_
        refine v_aload_n hC dX7_copyFrom_66 rfl rfl ?_
        refine gf_7_4 hC hg mw_2_36 dX7_copyFrom_67 ?_
        rw [hR.2.2.2.1.1]
        refine pf_7_4 hC ht mw_2_36 dX7_copyFrom_70 ?_
        refine v_iconst (v := 0) hC dX7_copyFrom_73 (by decide) ?_
        refine v_ist2 hC dX7_copyFrom_74 (by decide) (kk := ?_)
        have hie : i = n_p u := by omega
        subst hie
        exact loopC 9 0 _ (by omega) (by omega) ((hC1.ct (Or.inr (Or.inl rfl))).sub (fun k2 a2 j2 q => q.elim Or.inl fun q => q.elim Or.inr fun q => q.elim (fun q => absurd q.2.2.1 (Nat.not_lt_zero _)) fun q => q.elim (fun q => absurd q.2.2.1 (Nat.not_lt_zero _)) (fun q => absurd q.2.2 (Nat.not_lt_zero _))) (fun _ q => absurd q (Nat.not_lt_zero _)) (fun _ _ q => absurd q.1 (Nat.not_lt_zero _)) (fun _ q => q)) ((i_sk (by decide)).trans h214) i_se (hr.si ⟨Nat.le_refl _, by omega⟩ (by decide)) hW hx
      · have hi := lp_lt h41
        have rp := cA_r (S := h) (cp_p (p := i) (by omega) 1 (by decide) (by decide))
        refine v_aload_n hC dX7_copyFrom_44 rfl rfl ?_
        refine gf_7_1 hC ht (wf_213 hW ht) mw_2_30 dX7_copyFrom_45 ?_
        refine v_iload_n hC dX7_copyFrom_48 rfl rfl ?_
        refine v_aald 50 _ hC (wf_213 hW ht) (by decide) rfl (ix_c (wz_50 hW (wf_213 hW ht)) (by omega)) (we_50 hW (wf_213 hW ht) (by omega)) dX7_copyFrom_49 ?_
        rw [ly_P2 hC1.1 (by omega)]
        refine v_aload_n hC dX7_copyFrom_50 rfl rfl ?_
        refine gf_7_1 hC hg (wf_213 hW hg) mw_2_30 dX7_copyFrom_51 ?_
        refine v_iload_n hC dX7_copyFrom_54 rfl rfl ?_
        refine v_aald 50 _ hC (wf_213 hW hg) (by decide) rfl (ix_c (wz_50 hW (wf_213 hW hg)) (by omega)) (we_50 hW (wf_213 hW hg) (by omega)) dX7_copyFrom_55 ?_
        rw [ly_P2 hR.1 (by omega)]
        refine cVv1 hC (c_X5_copyFrom (by rw [← ly_P2 hC1.1 (by omega)]; exact we_50 hW (wf_213 hW ht) (by omega)) (by rw [← ly_P2 hR.1 (by omega)]; exact we_50 hW (wf_213 hW hg) (by omega))) yv_X5_copyFrom rfl (by rw [← ly_P2 hC1.1 (by omega)]; exact we_50 hW (wf_213 hW ht) (by omega)) mw_2_110 ⟨Nat.le_of_ble_eq_true rfl, Nat.le_of_ble_eq_true rfl⟩ ⟨Nat.le_of_ble_eq_true rfl, Nat.le_of_ble_eq_true rfl⟩ (Nat.le_of_ble_eq_true rfl) dX7_copyFrom_56 (fun M58 hq => ?_)
        subst hq
        rw [(hR.pe2 hi).1, (hR.pe2 hi).2.1, (hR.pe2 hi).2.2]
        refine v_inc2 hC dX7_copyFrom_59 ((nI_succ i).symm) (by decide) (kk := ?_)
        refine v_goto hC dX7_copyFrom_62 (tgt := 36) (by decide) ?_
        refine ih (i + 1) _ (by omega) (by omega) ((CP.wr 3 i 0 (CP.wr 2 i 0 (CP.wr 1 i 0 hC1 (cp_p (by omega) 1 (by decide) (by decide)) (A := cA h 1 i) rfl rfl) (cp_p (by omega) 2 (by decide) (by decide)) (A := cA h 1 i) rfl rfl) (cp_p (by omega) 3 (by decide) (by decide)) (A := cA h 1 i) rfl rfl).sub (fun k2 a2 j2 q => ?_) (fun _ q => q) (fun _ _ q => q) (fun _ q => q)) ?_ (((hr.si rp (by decide)).si rp (by decide)).si rp (by decide)) hW hx
        · have q3 : ((k2 = 0 ∧ a2 = 0 ∧ j2 < 6) ∨ (1 ≤ k2 ∧ k2 ≤ 3 ∧ a2 < i ∧ j2 = 0)) ∨ (k2 = 1 ∧ a2 = i ∧ j2 = 0) ∨ (k2 = 2 ∧ a2 = i ∧ j2 = 0) ∨ (k2 = 3 ∧ a2 = i ∧ j2 = 0) := by omega
          rcases q3 with q3 | q3 | q3 | q3
          · exact Or.inl (Or.inl (Or.inl q3))
          · exact Or.inl (Or.inl (Or.inr q3))
          · exact Or.inl (Or.inr q3)
          · exact Or.inr q3
        · exact (i_sk (by decide)).trans ((i_sk (by decide)).trans ((i_sk (by decide)).trans h214))
  have loopA : ∀ (k i : Nat) (M1 : Me), i + k = 7 → i ≤ 6 → CP M1 h u (fun k a j => (k = 0 ∧ a = 0 ∧ j < i)) (fun f => False) (fun f t => False) (fun y => False) → Rg M M1 h → Wt M1 → Tx M M1 → V p l e (rmk 2 45 0 0) s m ([.ref h, .ref g] : List Value).toArray below meth c 3 G (MQ below (Qv G (fun M1 => CR M1 h u ∧ Rg M M1 h ∧ Wt M1 ∧ Tx M M1)) ([.ref h, .ref g] : List Value).toArray s 0 0 (fr_ G)) M1 0 0 2 ([some (.ref h), some (.ref g), some (.int (nI i))] : Lo) [] := by
    intro k
    induction k with
    | zero => intro i M1 w1 w2; omega
    | succ k ih =>
      intro i M1 w1 w2 hC1 hr hW hx
      have hR : CR M1 g u := hR0.far nw hW0 hn hd hr
      have ht : m_t M1 h = 8 := (hx.2 _).trans ht0
      have hg : m_t M1 g = 8 := (hx.2 _).trans hg0
      have hS0 : m_t M1 (cA h 0 0) = 20 := by rw [← ly_H hC1.1]; exact wf_212 hW ht
      have hS1 : m_t M1 (cA g 0 0) = 20 := by rw [← ly_H hR.1]; exact wf_212 hW hg
      refine v_iload_n hC dX7_copyFrom_2 rfl rfl ?_
      refine v_bipush (v := 6) hC dX7_copyFrom_3 (by decide) ?_
      refine v_icmp_ge hC dX7_copyFrom_5 (tgt := 26) (by decide) (fun h5 => ?_) (fun h5 => ?_)
      · refine v_aload_n hC dX7_copyFrom_26 rfl rfl ?_
        refine v_aload_n hC dX7_copyFrom_27 rfl rfl ?_
        refine gf_7_2 hC hg mw_2_32 dX7_copyFrom_28 ?_
        rw [hR.2.2.2.1.2.1]
        refine pf_7_2 hC ht mw_2_32 dX7_copyFrom_31 ?_
        refine v_iconst (v := 0) hC dX7_copyFrom_34 (by decide) ?_
        refine v_ist2 hC dX7_copyFrom_35 (by decide) (kk := ?_)
        have hie : i = 6 := by have := lp_ge (N := 6) h5; omega
        subst hie
        exact loopB 7 0 _ (by omega) (by omega) ((hC1.ct (Or.inl rfl)).sub (fun k2 a2 j2 q => q.elim (fun q => q) (fun q => absurd q.2.2.1 (Nat.not_lt_zero _))) (fun _ q => q) (fun _ _ q => q) (fun _ q => q)) i_se (hr.si ⟨Nat.le_refl _, by omega⟩ (by decide)) hW hx
      · have hi := lp_lt (N := 6) h5
        refine v_aload_n hC dX7_copyFrom_8 rfl rfl ?_
        refine gf_7_0 hC ht (wf_212 hW ht) mw_2_28 dX7_copyFrom_9 ?_
        rw [ly_H hC1.1]
        refine v_iload_n hC dX7_copyFrom_12 rfl rfl ?_
        refine v_aload_n hC dX7_copyFrom_13 rfl rfl ?_
        refine gf_7_0 hC hg (wf_212 hW hg) mw_2_28 dX7_copyFrom_14 ?_
        rw [ly_H hR.1]
        refine v_iload_n hC dX7_copyFrom_17 rfl rfl ?_
        refine v_iald 20 hC hS1 (by decide) (by decide) (ix_c (wz_20 hW hS1) (by omega)) dX7_copyFrom_18 ?_
        rw [hR.sh2 hi]
        refine v_iast 20 hC hS0 (by decide) (by decide) (ix_c (wz_20 hW hS0) (by omega)) dX7_copyFrom_19 ?_
        refine v_inc2 hC dX7_copyFrom_20 ((nI_succ i).symm) (by decide) (kk := ?_)
        refine v_goto hC dX7_copyFrom_23 (tgt := 2) (by decide) ?_
        refine ih (i + 1) _ (by omega) (by omega) ((CP.wr 0 0 i hC1 (cp_h (by omega)) rfl rfl).sub (fun k2 a2 j2 q => ?_) (fun _ q => q) (fun _ _ q => q) (fun _ q => q)) (hr.si (cA_r (cp_h (b := i) (by omega))) (by decide)) hW hx
        by_cases z : j2 = i
        · exact Or.inr ⟨q.1, q.2.1, z⟩
        · exact Or.inl ⟨q.1, q.2.1, by omega⟩
  refine v_iconst (v := 0) hC dX7_copyFrom_0 (by decide) ?_
  refine v_ist2 hC dX7_copyFrom_1 (by decide) (kk := ?_)
  exact loopA 7 0 M (by omega) (by omega) ⟨hL, fun k a j q => absurd q.2.2 (Nat.not_lt_zero j), fun _ q => q.elim, fun _ _ q => q.elim, fun _ q => q.elim⟩ Rg.rf hW0 Tx.rf
