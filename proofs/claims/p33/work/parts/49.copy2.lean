set_option maxHeartbeats 4000000 in
set_option maxRecDepth 100000 in
theorem c_X9_copyFrom {l : Launch} {G : Gd} {M : Me} {S S2 f : Nat} {u : Si} {P : Nat → Nat → Nat → Prop} {PS : Nat → Prop} {PG : Nat → Nat → Prop} {PE : Nat → Prop} (hW : Wt M) (ht : m_t M (cA S 4 f) = 10) (hg : m_t M (cA S2 4 f) = 10) (hC0 : CP M S u P PS PG PE) (hR : CR M S2 u) (hf : f < n_f u) (hn : S2 + 97 ≤ m_n M) (hd : S2 + 97 ≤ S ∨ S + 97 ≤ S2) : CQ (Qv G (fun M1 => CP M1 S u (fun k a j => P k a j ∨ (a = f ∧ ((4 ≤ k ∧ k ≤ 8 ∧ j = 0) ∨ (9 ≤ k ∧ k ≤ 10 ∧ j < n_s u f)))) (fun g => PS g ∨ g = f) (fun f2 t2 => PG f2 t2 ∨ (f2 = f ∧ t2 < n_s u f)) PE ∧ Rg M M1 S ∧ Wt M1 ∧ Tx M M1 ∧ Ck M M1)) l G yX9_copyFrom cX9_copyFrom 3 (none) 1 23 0 0 [.ref (cA S 4 f), .ref (cA S2 4 f)] M := by
  refine c_of ([some (.ref (cA S 4 f)), some (.ref (cA S2 4 f)), none] : Lo) RX9 "copyFrom" (by decide) rfl rfl (Nat.le_of_ble_eq_true rfl) rfl (fun p e s m below meth c hC nw => ?_)
  have hW0 := hW
  have hR0 := hR
  have ht0 := ht
  have hg0 := hg
  have h8 : f < 8 := by have := hR.2.1.1; omega
  have h12 := hR.2.1.2.2.2.2 f hf
  have c6 := (CP.wr 8 f 0 (CP.wr 7 f 0 (CP.wr 6 f 0 (CP.wr 5 f 0 (CP.wr 4 f 0 hC0 (cp_f h8 4 (by decide) (by decide)) rfl rfl) (cp_f h8 5 (by decide) (by decide)) (A := cA S 4 f) rfl rfl) (cp_f h8 6 (by decide) (by decide)) (A := cA S 4 f) rfl rfl) (cp_f h8 7 (by decide) (by decide)) (A := cA S 4 f) rfl rfl) (cp_f h8 8 (by decide) (by decide)) (A := cA S 4 f) rfl rfl).sz h8 rfl
  have loop : ∀ (k i : Nat) (M1 : Me), i + k = 13 → i ≤ n_s u f → CP M1 S u (fun k a j => P k a j ∨ (a = f ∧ ((4 ≤ k ∧ k ≤ 8 ∧ j = 0) ∨ (9 ≤ k ∧ k ≤ 10 ∧ j < i)))) (fun g => PS g ∨ g = f) (fun f2 t2 => PG f2 t2 ∨ (f2 = f ∧ t2 < i)) PE → Rg M M1 S → Wt M1 → Tx M M1 → Ck M M1 → V p l e (rmk 1 23 0 0) s m ([.ref (cA S 4 f), .ref (cA S2 4 f)] : List Value).toArray below meth c 3 G (MQ below (Qv G (fun M1 => CP M1 S u (fun k a j => P k a j ∨ (a = f ∧ ((4 ≤ k ∧ k ≤ 8 ∧ j = 0) ∨ (9 ≤ k ∧ k ≤ 10 ∧ j < n_s u f)))) (fun g => PS g ∨ g = f) (fun f2 t2 => PG f2 t2 ∨ (f2 = f ∧ t2 < n_s u f)) PE ∧ Rg M M1 S ∧ Wt M1 ∧ Tx M M1 ∧ Ck M M1)) ([.ref (cA S 4 f), .ref (cA S2 4 f)] : List Value).toArray s 0 0 (fr_ G)) M1 0 0 50 ([some (.ref (cA S 4 f)), some (.ref (cA S2 4 f)), some (.int (nI i))] : Lo) [] := by
    intro k
    induction k with
    | zero => intro i M1 w1 w2; omega
    | succ k ih =>
      intro i M1 w1 w2 hC1 hr hW hx hk
      have hR : CR M1 S2 u := hR0.far nw hW0 hn hd hr
      have ht : m_t M1 (cA S 4 f) = 10 := (hx.2 _).trans ht0
      have hg : m_t M1 (cA S2 4 f) = 10 := (hx.2 _).trans hg0
      obtain ⟨y1, y2, y3⟩ := ly_T2 hC1.1 h8
      have hFa : m_t M1 (cF S f) = 52 := by rw [← y3]; exact wf_250 hW ht
      refine v_iload_n hC dX9_copyFrom_50 rfl rfl ?_
      refine v_aload_n hC dX9_copyFrom_51 rfl rfl ?_
      refine gf_9_5 hC ht mw_1_144 dX9_copyFrom_52 ?_
      rw [(hC1.2.2.1 f (Or.inr rfl)).2]
      refine v_icmp_ge hC dX9_copyFrom_55 (tgt := 93) (by decide) (fun h55 => ?_) (fun h55 => ?_)
      · have hi := lp_ge h55
        refine v_vret hC dX9_copyFrom_93 ?_
        have hie : i = n_s u f := by omega
        subst hie
        exact ⟨hC1, hr, hW, hx, hk⟩
      · have hi := lp_lt h55
        have hG : SgR M1 (m_r M1 52 (m_r M1 250 (cA S2 4 f) 0) i) (q_g u 0 f i) := (hR.fs2 hf).2.2 i hi
        refine v_aload_n hC dX9_copyFrom_58 rfl rfl ?_
        refine gf_9_6 hC ht (wf_250 hW ht) mw_1_148 dX9_copyFrom_59 ?_
        rw [y3]
        refine v_iload_n hC dX9_copyFrom_62 rfl rfl ?_
        refine v_aload_n hC dX9_copyFrom_63 rfl rfl ?_
        refine gf_9_6 hC hg (wf_250 hW hg) mw_1_148 dX9_copyFrom_64 ?_
        refine v_iload_n hC dX9_copyFrom_67 rfl rfl ?_
        refine v_aald 52 _ hC (wf_250 hW hg) (by decide) rfl (ix_c (wz_52 hW (wf_250 hW hg)) (by omega)) hG.1 dX9_copyFrom_68 ?_
        refine v_aast 52 6 hC hFa (by decide) rfl rfl (ix_c (wz_52 hW hFa) (by omega)) hG.1 dX9_copyFrom_69 ?_
        refine v_aload_n hC dX9_copyFrom_70 rfl rfl ?_
        refine v_iload_n hC dX9_copyFrom_71 rfl rfl ?_
        refine v_aload_n hC dX9_copyFrom_72 rfl rfl ?_
        refine gf_9_7 hC hg (wf_251 hW hg) mw_1_152 dX9_copyFrom_73 ?_
        refine v_iload_n hC dX9_copyFrom_76 rfl rfl ?_
        refine v_iald 24 hC (wf_251 hW hg) (by decide) (by decide) (ix_c (wz_24 (hW.sg hG.1 52 (Or.inl rfl)) (wf_251 (hW.sg hG.1 52 (Or.inl rfl)) hg)) (by omega)) dX9_copyFrom_77 ?_
        erw [(hR.ft2 hf hi).1]
        refine v_aload_n hC dX9_copyFrom_78 rfl rfl ?_
        refine gf_9_8 hC hg (wf_252 hW hg) mw_1_156 dX9_copyFrom_79 ?_
        refine v_iload_n hC dX9_copyFrom_82 rfl rfl ?_
        refine v_iald 25 hC (wf_252 hW hg) (by decide) (by decide) (ix_c (wz_25 (hW.sg hG.1 52 (Or.inl rfl)) (wf_252 (hW.sg hG.1 52 (Or.inl rfl)) hg)) (by omega)) dX9_copyFrom_83 ?_
        erw [(hR.ft2 hf hi).2]
        refine cVv3 hC (c_X9_putTarget (hW.sg hG.1 52 (Or.inl rfl)) ht (by omega)) yv_X9_putTarget rfl ht mw_2_118 ⟨Nat.le_of_ble_eq_true rfl, Nat.le_of_ble_eq_true rfl⟩ ⟨Nat.le_of_ble_eq_true rfl, Nat.le_of_ble_eq_true rfl⟩ (Nat.le_of_ble_eq_true rfl) dX9_copyFrom_84 (fun M86 hq => ?_)
        subst hq
        erw [y1, y2]
        refine v_inc2 hC dX9_copyFrom_87 ((nI_succ i).symm) (by decide) (kk := ?_)
        refine v_goto hC dX9_copyFrom_90 (tgt := 50) (by decide) ?_
        refine ih (i + 1) _ (by omega) (by omega) (CP.sub (CP.wr 10 f i (CP.wr 9 f i (hC1.g52 h8 hG) (cp_s h8 (by omega) 9 (by decide) (by decide)) rfl rfl) (cp_s h8 (by omega) 10 (by decide) (by decide)) rfl rfl) (fun k2 a2 j2 q => ?_) (fun _ q => q) (fun f2 t2 q => ?_) (fun _ q => q)) (((hr.sr (cF_lt h8) (Or.inl rfl)).si (cA_r (cp_s h8 (s := i) (by omega) 9 (by decide) (by decide))) (by decide)).si (cA_r (cp_s h8 (s := i) (by omega) 10 (by decide) (by decide))) (by decide)) (hW.sg hG.1 52 (Or.inl rfl)) hx ((hk.sr.si (by decide)).si (by decide))
        · rcases q with q | ⟨q1, q2⟩
          · exact Or.inl (Or.inl (Or.inl q))
          · have q3 : (a2 = f ∧ ((4 ≤ k2 ∧ k2 ≤ 8 ∧ j2 = 0) ∨ (9 ≤ k2 ∧ k2 ≤ 10 ∧ j2 < i))) ∨ (k2 = 9 ∧ a2 = f ∧ j2 = i) ∨ (k2 = 10 ∧ a2 = f ∧ j2 = i) := by omega
            rcases q3 with q3 | q3 | q3
            · exact Or.inl (Or.inl (Or.inr q3))
            · exact Or.inl (Or.inr q3)
            · exact Or.inr q3
        · rcases q with q | ⟨q1, q2⟩
          · exact Or.inl (Or.inl q)
          · by_cases z : t2 = i
            · exact Or.inr ⟨q1, z⟩
            · exact Or.inl (Or.inr ⟨q1, by omega⟩)
  refine v_aload_n hC dX9_copyFrom_0 rfl rfl ?_
  refine v_aload_n hC dX9_copyFrom_1 rfl rfl ?_
  refine gf_9_0 hC hg mw_1_130 dX9_copyFrom_2 ?_
  rw [(hR.f42 hf).1]
  refine pf_9_0 hC ht mw_1_130 dX9_copyFrom_5 ?_
  refine v_aload_n hC dX9_copyFrom_8 rfl rfl ?_
  refine v_aload_n hC dX9_copyFrom_9 rfl rfl ?_
  refine gf_9_1 hC hg mw_1_133 dX9_copyFrom_10 ?_
  erw [(hR.f42 hf).2.1]
  refine pf_9_1 hC ht mw_1_133 dX9_copyFrom_13 ?_
  refine v_aload_n hC dX9_copyFrom_16 rfl rfl ?_
  refine v_aload_n hC dX9_copyFrom_17 rfl rfl ?_
  refine gf_9_2 hC hg mw_1_136 dX9_copyFrom_18 ?_
  erw [(hR.f42 hf).2.2.1]
  refine pf_9_2 hC ht mw_1_136 dX9_copyFrom_21 ?_
  refine v_aload_n hC dX9_copyFrom_24 rfl rfl ?_
  refine v_aload_n hC dX9_copyFrom_25 rfl rfl ?_
  refine gf_9_3 hC hg mw_1_139 dX9_copyFrom_26 ?_
  erw [(hR.f42 hf).2.2.2.1]
  refine pf_9_3 hC ht mw_1_139 dX9_copyFrom_29 ?_
  refine v_aload_n hC dX9_copyFrom_32 rfl rfl ?_
  refine v_aload_n hC dX9_copyFrom_33 rfl rfl ?_
  refine gf_9_4 hC hg mw_1_142 dX9_copyFrom_34 ?_
  erw [(hR.f42 hf).2.2.2.2]
  refine pf_9_4 hC ht mw_1_142 dX9_copyFrom_37 ?_
  refine v_aload_n hC dX9_copyFrom_40 rfl rfl ?_
  refine v_aload_n hC dX9_copyFrom_41 rfl rfl ?_
  refine gf_9_5 hC hg mw_1_144 dX9_copyFrom_42 ?_
  erw [hR.2.2.2.2.1 f hf]
  refine pf_9_5 hC ht mw_1_144 dX9_copyFrom_45 ?_
  refine v_iconst (v := 0) hC dX9_copyFrom_48 (by decide) ?_
  refine v_ist2 hC dX9_copyFrom_49 (by decide) (kk := ?_)
  refine loop 13 0 _ (by omega) (by omega) (CP.sub c6 (fun k2 a2 j2 q => ?_) (fun _ q => q) (fun f2 t2 q => ?_) (fun _ q => q)) ((((((Rg.rf.si (cA_r (cp_f (f := f) h8 4 (by decide) (by decide))) (by decide)).si (cA_r (cp_f (f := f) h8 4 (by decide) (by decide))) (by decide)).si (cA_r (cp_f (f := f) h8 4 (by decide) (by decide))) (by decide)).si (cA_r (cp_f (f := f) h8 4 (by decide) (by decide))) (by decide)).si (cA_r (cp_f (f := f) h8 4 (by decide) (by decide))) (by decide)).si (cA_r (cp_f (f := f) h8 4 (by decide) (by decide))) (by decide)) hW0 Tx.rf ((((((Ck.rf.si (by decide)).si (by decide)).si (by decide)).si (by decide)).si (by decide)).si (by decide))
  · rcases q with q | ⟨q1, q2⟩
    · exact Or.inl (Or.inl (Or.inl (Or.inl (Or.inl q))))
    · have q3 : (k2 = 4 ∧ a2 = f ∧ j2 = 0) ∨ (k2 = 5 ∧ a2 = f ∧ j2 = 0) ∨ (k2 = 6 ∧ a2 = f ∧ j2 = 0) ∨ (k2 = 7 ∧ a2 = f ∧ j2 = 0) ∨ (k2 = 8 ∧ a2 = f ∧ j2 = 0) := by omega
      rcases q3 with q3 | q3 | q3 | q3 | q3
      · exact Or.inl (Or.inl (Or.inl (Or.inl (Or.inr q3))))
      · exact Or.inl (Or.inl (Or.inl (Or.inr q3)))
      · exact Or.inl (Or.inl (Or.inr q3))
      · exact Or.inl (Or.inr q3)
      · exact Or.inr q3
  · rcases q with q | ⟨q1, q2⟩
    · exact q
    · omega
