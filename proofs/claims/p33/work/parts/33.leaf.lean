theorem v_i64 {n m : Nat} (h : n < 2 ^ 63) (h2 : m < 2 ^ 63) (e : Int64.ofNat n = Int64.ofNat m) : n = m := by
  have q := congrArg Int64.toInt e
  rw [Int64.toInt_ofNat_of_lt h, Int64.toInt_ofNat_of_lt h2] at q
  omega
theorem v32_lt {w : List Nat} (h : gWord w) : v32 w < 2 ^ 63 := by
  have h1 := vB_lt (B := 32) (by decide) w.length w rfl h.2.2
  have h2 : (32 : Nat) ^ w.length ≤ 32 ^ 8 := Nat.pow_le_pow_right (by decide) h.2.1
  have h3 : (32 : Nat) ^ 8 < 2 ^ 63 := by decide
  exact Nat.lt_of_lt_of_le h1 (Nat.le_trans h2 (Nat.le_of_lt h3))
theorem w32_inj {w w2 : List Nat} (h : gWord w) (h2 : gWord w2) (e : Int64.ofNat (v32 w) = Int64.ofNat (v32 w2)) : w = w2 := vB_inj (by decide) w.length w w2 rfl h.2.2 h2.2.2 (v_i64 (v32_lt h) (v32_lt h2) e)
theorem gSeg.at {g : Sg} (h : gSeg g) {i : Nat} (hi : i < g.length) : gWord (g.getD i []) := by
  rw [List.getD_eq_getElem?_getD, List.getElem?_eq_getElem hi]
  exact h.2.2 _ (List.getElem_mem hi)
theorem sg_ext {g g2 : Sg} (hl : g.length = g2.length) (h : ∀ i, i < g.length → g.getD i [] = g2.getD i []) : g = g2 := by
  apply List.ext_getElem hl
  intro i h1 h2
  have q := h i h1
  rw [List.getD_eq_getElem?_getD, List.getD_eq_getElem?_getD, List.getElem?_eq_getElem h1, List.getElem?_eq_getElem h2] at q
  exact q
theorem no3 {p q r : Prop} (a : ¬ p) (b : ¬ q) (c : ¬ r) : ¬ (p ∨ q ∨ r) := fun h => h.elim a fun h => h.elim b c
theorem no2 {p q : Prop} (a : ¬ p) (b : ¬ q) : ¬ (p ∨ q) := fun h => h.elim a b
def f_lk (gs : Nat → Sg) (g : Sg) (i : Nat) : Int32 := if gs i = g then 1 else 0
def f_wy (M : Me) (h : Nat) (x : Int32) (i : Nat) : Int32 := if m_i M 25 (m_r M 252 h 0) i = x then 1 else 0
def f_wc (gs : Nat → Sg) (i : Nat) : Int32 := nI (gs i).length
/-- a file's segments -/
def FS (M : Me) (h n : Nat) (gs : Nat → Sg) : Prop := n ≤ 12 ∧ m_i M 249 h 0 = nI n ∧ ∀ i, i < n → SgR M (m_r M 52 (m_r M 250 h 0) i) (gs i)
set_option maxHeartbeats 4000000 in
set_option maxRecDepth 100000 in
theorem c_X6_isAlike {l : Launch} {G : Gd} {M : Me} {h g : Nat} {s1 s2 : Sg} (hW : Wt M) (h1 : SgR M h s1) (h2 : SgR M g s2) : CQ (Qi G (fun r M2 => M2 = M ∧ (s1 = s2 ∧ r = 1 ∨ ¬ s1 = s2 ∧ r = 0))) l G yX6_isAlike cX6_isAlike 3 ((some .boolean)) 0 0 0 0 [.ref h, .ref g] M := by
  refine c_of ([some (.ref h), some (.ref g), none] : Lo) RX6 "isAlike" (by decide) rfl rfl (Nat.le_of_ble_eq_true rfl) rfl (fun p e s m below meth c hC nw => ?_)
  have b1 := h1.2.1.2.1
  have b2 := h2.2.1.2.1
  have loop : s1.length = s2.length → ∀ (k i : Nat), i + k = 9 → i ≤ s1.length → (∀ j, j < i → s1.getD j [] = s2.getD j []) → V p l e (rmk 0 0 0 0) s m ([.ref h, .ref g] : List Value).toArray below meth c 3 G (MQ below (Qi G (fun r M2 => M2 = M ∧ (s1 = s2 ∧ r = 1 ∨ ¬ s1 = s2 ∧ r = 0))) ([.ref h, .ref g] : List Value).toArray s 0 0 (fr_ G)) M 0 0 15 ([some (.ref h), some (.ref g), some (.int (nI i))] : Lo) [] := by
    intro hlen k
    induction k with
    | zero => intro i e1 e2; omega
    | succ k ih =>
      intro i e1 e2 hI
      refine v_iload_n hC dX6_isAlike_15 rfl rfl ?_
      refine v_aload_n hC dX6_isAlike_16 rfl rfl ?_
      refine gf_6_2 hC h1.1 mw_1_49 dX6_isAlike_17 ?_
      rw [h1.2.2.1]
      refine v_icmp_ge hC dX6_isAlike_20 (tgt := 47) (by decide) (fun h20 => ?_) (fun h20 => ?_)
      · have hi := lp_ge h20
        refine v_iconst (v := 1) hC dX6_isAlike_47 (by decide) ?_
        refine v_zret hC (Or.inr rfl) dX6_isAlike_48 ?_
        exact ⟨rfl, Or.inl ⟨sg_ext hlen (fun j hj => hI j (by omega)), rfl⟩⟩
      · have hi := lp_lt h20
        refine v_aload_n hC dX6_isAlike_23 rfl rfl ?_
        refine gf_6_1 hC h1.1 (wf_197 hW h1.1) mw_1_47 dX6_isAlike_24 ?_
        refine v_iload_n hC dX6_isAlike_27 rfl rfl ?_
        refine v_lald 30 hC (wf_197 hW h1.1) (by decide) (by decide) (ix_c (wz_30 hW (wf_197 hW h1.1)) (by omega)) dX6_isAlike_28 ?_
        rw [h1.2.2.2.1 i hi]
        refine v_aload_n hC dX6_isAlike_29 rfl rfl ?_
        refine gf_6_1 hC h2.1 (wf_197 hW h2.1) mw_1_47 dX6_isAlike_30 ?_
        refine v_iload_n hC dX6_isAlike_33 rfl rfl ?_
        refine v_lald 30 hC (wf_197 hW h2.1) (by decide) (by decide) (ix_c (wz_30 hW (wf_197 hW h2.1)) (by omega)) dX6_isAlike_34 ?_
        rw [h2.2.2.2.1 i (by omega)]
        refine v_lcmp hC dX6_isAlike_35 ?_
        refine v_if_eq hC dX6_isAlike_36 (tgt := 41) (by decide) (fun h36 => ?_) (fun h36 => ?_)
        · have h36 := (lg_cmp_eq _ _).mp h36
          refine v_inc2 hC dX6_isAlike_41 ((nI_succ i).symm) (by decide) (kk := ?_)
          refine v_goto hC dX6_isAlike_44 (tgt := 15) (by decide) ?_
          exact ih (i + 1) (by omega) (by omega) (fun j hj => by
            by_cases q : j = i
            · subst q; exact w32_inj (h1.2.1.at hi) (h2.2.1.at (by omega)) h36
            · exact hI j (by omega))
        · have h36 := fun q => h36 ((lg_cmp_eq _ _).mpr q)
          refine v_iconst (v := 0) hC dX6_isAlike_39 (by decide) ?_
          refine v_zret hC (Or.inl rfl) dX6_isAlike_40 ?_
          exact ⟨rfl, Or.inr ⟨fun q => h36 (by rw [q]), rfl⟩⟩
  refine v_aload_n hC dX6_isAlike_0 rfl rfl ?_
  refine gf_6_2 hC h1.1 mw_1_49 dX6_isAlike_1 ?_
  rw [h1.2.2.1]
  refine v_aload_n hC dX6_isAlike_4 rfl rfl ?_
  refine gf_6_2 hC h2.1 mw_1_49 dX6_isAlike_5 ?_
  rw [h2.2.2.1]
  refine v_icmp_eq hC dX6_isAlike_8 (tgt := 13) (by decide) (fun h8 => ?_) (fun h8 => ?_)
  · refine v_iconst (v := 0) hC dX6_isAlike_13 (by decide) ?_
    refine v_ist2 hC dX6_isAlike_14 (by decide) (kk := ?_)
    exact loop ((nI_eq (by omega) (by omega)).mp h8) 9 0 (by omega) (by omega) (fun j hj => absurd hj (Nat.not_lt_zero j))
  · refine v_iconst (v := 0) hC dX6_isAlike_11 (by decide) ?_
    refine v_zret hC (Or.inl rfl) dX6_isAlike_12 ?_
    exact ⟨rfl, Or.inr ⟨fun q => h8 (by rw [q]), rfl⟩⟩

set_option maxHeartbeats 4000000 in
set_option maxRecDepth 100000 in
theorem c_X9_isInHand {l : Launch} {G : Gd} {M : Me} {h : Nat} (ht : m_t M h = 10) : CQ (Qi G (fun r M2 => M2 = M ∧ ((m_i M 244 h 0 = 0 ∨ m_i M 244 h 0 = 1 ∨ m_i M 244 h 0 = 2) ∧ r = 1 ∨ ¬ (m_i M 244 h 0 = 0 ∨ m_i M 244 h 0 = 1 ∨ m_i M 244 h 0 = 2) ∧ r = 0))) l G yX9_isInHand cX9_isInHand 1 ((some .boolean)) 0 0 0 0 [.ref h] M := by
  refine c_of ([some (.ref h)] : Lo) RX9 "isInHand" (by decide) rfl rfl (Nat.le_of_ble_eq_true rfl) rfl (fun p e s m below meth c hC nw => ?_)
  refine v_aload_n hC dX9_isInHand_0 rfl rfl ?_
  refine gf_9_0 hC ht mw_1_130 dX9_isInHand_1 ?_
  refine v_if_eq hC dX9_isInHand_4 (tgt := 23) (by decide) (fun h4 => ?_) (fun h4 => ?_)
  · refine v_iconst (v := 1) hC dX9_isInHand_23 (by decide) ?_
    refine v_goto hC dX9_isInHand_24 (tgt := 28) (by decide) ?_
    refine v_zret hC (Or.inr rfl) dX9_isInHand_28 ?_
    exact ⟨rfl, Or.inl ⟨by first | exact Or.inl h4 | exact Or.inr (Or.inl h12) | exact Or.inr (Or.inr h20), rfl⟩⟩
  · refine v_aload_n hC dX9_isInHand_7 rfl rfl ?_
    refine gf_9_0 hC ht mw_1_130 dX9_isInHand_8 ?_
    refine v_iconst (v := 1) hC dX9_isInHand_11 (by decide) ?_
    refine v_icmp_eq hC dX9_isInHand_12 (tgt := 23) (by decide) (fun h12 => ?_) (fun h12 => ?_)
    · refine v_iconst (v := 1) hC dX9_isInHand_23 (by decide) ?_
      refine v_goto hC dX9_isInHand_24 (tgt := 28) (by decide) ?_
      refine v_zret hC (Or.inr rfl) dX9_isInHand_28 ?_
      exact ⟨rfl, Or.inl ⟨by first | exact Or.inl h4 | exact Or.inr (Or.inl h12) | exact Or.inr (Or.inr h20), rfl⟩⟩
    · refine v_aload_n hC dX9_isInHand_15 rfl rfl ?_
      refine gf_9_0 hC ht mw_1_130 dX9_isInHand_16 ?_
      refine v_iconst (v := 2) hC dX9_isInHand_19 (by decide) ?_
      refine v_icmp_ne hC dX9_isInHand_20 (tgt := 27) (by decide) (fun h20 => ?_) (fun h20 => ?_)
      · refine v_iconst (v := 0) hC dX9_isInHand_27 (by decide) ?_
        refine v_zret hC (Or.inl rfl) dX9_isInHand_28 ?_
        exact ⟨rfl, Or.inr ⟨no3 h4 h12 h20, rfl⟩⟩
      · refine v_iconst (v := 1) hC dX9_isInHand_23 (by decide) ?_
        refine v_goto hC dX9_isInHand_24 (tgt := 28) (by decide) ?_
        refine v_zret hC (Or.inr rfl) dX9_isInHand_28 ?_
        exact ⟨rfl, Or.inl ⟨by first | exact Or.inl h4 | exact Or.inr (Or.inl h12) | exact Or.inr (Or.inr h20), rfl⟩⟩

set_option maxHeartbeats 4000000 in
set_option maxRecDepth 100000 in
theorem c_X9_isTranslatedBy {l : Launch} {G : Gd} {M : Me} {h : Nat} {x : Int32} (ht : m_t M h = 10) : CQ (Qi G (fun r M2 => M2 = M ∧ (m_i M 245 h 0 = x ∧ r = 1 ∨ ¬ m_i M 245 h 0 = x ∧ r = 0))) l G yX9_isTranslatedBy cX9_isTranslatedBy 2 ((some .boolean)) 0 0 0 0 [.ref h, .int x] M := by
  refine c_of ([some (.ref h), some (.int x)] : Lo) RX9 "isTranslatedBy" (by decide) rfl rfl (Nat.le_of_ble_eq_true rfl) rfl (fun p e s m below meth c hC nw => ?_)
  refine v_aload_n hC dX9_isTranslatedBy_0 rfl rfl ?_
  refine gf_9_1 hC ht mw_1_133 dX9_isTranslatedBy_1 ?_
  refine v_iload_n hC dX9_isTranslatedBy_4 rfl rfl ?_
  refine v_icmp_ne hC dX9_isTranslatedBy_5 (tgt := 12) (by decide) (fun h5 => ?_) (fun h5 => ?_)
  · refine v_iconst (v := 0) hC dX9_isTranslatedBy_12 (by decide) ?_
    refine v_zret hC (Or.inl rfl) dX9_isTranslatedBy_13 ?_
    exact ⟨rfl, Or.inr ⟨by assumption, rfl⟩⟩
  · refine v_iconst (v := 1) hC dX9_isTranslatedBy_8 (by decide) ?_
    refine v_goto hC dX9_isTranslatedBy_9 (tgt := 13) (by decide) ?_
    refine v_zret hC (Or.inr rfl) dX9_isTranslatedBy_13 ?_
    exact ⟨rfl, Or.inl ⟨by first | assumption | (apply Classical.not_not.mp; assumption), rfl⟩⟩

set_option maxHeartbeats 4000000 in
set_option maxRecDepth 100000 in
theorem c_X9_isReviewedBy {l : Launch} {G : Gd} {M : Me} {h : Nat} {x : Int32} (ht : m_t M h = 10) : CQ (Qi G (fun r M2 => M2 = M ∧ (m_i M 246 h 0 = x ∧ r = 1 ∨ ¬ m_i M 246 h 0 = x ∧ r = 0))) l G yX9_isReviewedBy cX9_isReviewedBy 2 ((some .boolean)) 0 0 0 0 [.ref h, .int x] M := by
  refine c_of ([some (.ref h), some (.int x)] : Lo) RX9 "isReviewedBy" (by decide) rfl rfl (Nat.le_of_ble_eq_true rfl) rfl (fun p e s m below meth c hC nw => ?_)
  refine v_aload_n hC dX9_isReviewedBy_0 rfl rfl ?_
  refine gf_9_2 hC ht mw_1_136 dX9_isReviewedBy_1 ?_
  refine v_iload_n hC dX9_isReviewedBy_4 rfl rfl ?_
  refine v_icmp_ne hC dX9_isReviewedBy_5 (tgt := 12) (by decide) (fun h5 => ?_) (fun h5 => ?_)
  · refine v_iconst (v := 0) hC dX9_isReviewedBy_12 (by decide) ?_
    refine v_zret hC (Or.inl rfl) dX9_isReviewedBy_13 ?_
    exact ⟨rfl, Or.inr ⟨by assumption, rfl⟩⟩
  · refine v_iconst (v := 1) hC dX9_isReviewedBy_8 (by decide) ?_
    refine v_goto hC dX9_isReviewedBy_9 (tgt := 13) (by decide) ?_
    refine v_zret hC (Or.inr rfl) dX9_isReviewedBy_13 ?_
    exact ⟨rfl, Or.inl ⟨by first | assumption | (apply Classical.not_not.mp; assumption), rfl⟩⟩

set_option maxHeartbeats 4000000 in
set_option maxRecDepth 100000 in
theorem c_X9_countInWay {l : Launch} {G : Gd} {M : Me} {h n : Nat} {x : Int32} {gs : Nat → Sg} (hW : Wt M) (ht : m_t M h = 10) (hS : FS M h n gs) : CQ (Qi G (fun r M2 => r = sm (f_wy M h x) n ∧ M2 = M)) l G yX9_countInWay cX9_countInWay 4 ((some .int)) 0 0 0 0 [.ref h, .int x] M := by
  refine c_of ([some (.ref h), some (.int x), none, none] : Lo) RX9 "countInWay" (by decide) rfl rfl (Nat.le_of_ble_eq_true rfl) rfl (fun p e s m below meth c hC nw => ?_)
  obtain ⟨hb, hn, hS⟩ := hS
  have loop : ∀ (k i : Nat), i + k = 13 → i ≤ n → V p l e (rmk 0 0 0 0) s m ([.ref h, .int x] : List Value).toArray below meth c 4 G (MQ below (Qi G (fun r M2 => r = sm (f_wy M h x) n ∧ M2 = M)) ([.ref h, .int x] : List Value).toArray s 0 0 (fr_ G)) M 0 0 4 ([some (.ref h), some (.int x), some (.int (sm (f_wy M h x) i)), some (.int (nI i))] : Lo) [] := by
    intro k
    induction k with
    | zero => intro i e1 e2; omega
    | succ k ih =>
      intro i e1 e2
      refine v_iload_n hC dX9_countInWay_4 rfl rfl ?_
      refine v_aload_n hC dX9_countInWay_5 rfl rfl ?_
      refine gf_9_5 hC ht mw_1_144 dX9_countInWay_6 ?_
      rw [hn]
      refine v_icmp_ge hC dX9_countInWay_9 (tgt := 31) (by decide) (fun h9 => ?_) (fun h9 => ?_)
      · have hi := lp_ge h9
        refine v_iload_n hC dX9_countInWay_31 rfl rfl ?_
        refine v_iret hC dX9_countInWay_32 ?_
        have hie : i = n := by omega
        subst hie
        exact ⟨rfl, rfl⟩
      · have hi := lp_lt h9
        refine v_aload_n hC dX9_countInWay_12 rfl rfl ?_
        refine gf_9_8 hC ht (wf_252 hW ht) mw_1_156 dX9_countInWay_13 ?_
        refine v_iload_n hC dX9_countInWay_16 rfl rfl ?_
        refine v_iald 25 hC (wf_252 hW ht) (by decide) (by decide) (ix_c (wz_25 hW (wf_252 hW ht)) (by omega)) dX9_countInWay_17 ?_
        refine v_iload_n hC dX9_countInWay_18 rfl rfl ?_
        refine v_icmp_ne hC dX9_countInWay_19 (tgt := 25) (by decide) (fun h19 => ?_) (fun h19 => ?_)
        · rw [show sm (f_wy M h x) i = sm (f_wy M h x) (i + 1) from by rw [sm_s, f_wy, if_neg h19, Int32.add_zero]]
          refine v_inc3 hC dX9_countInWay_25 ((nI_succ i).symm) (by decide) (kk := ?_)
          refine v_goto hC dX9_countInWay_28 (tgt := 4) (by decide) ?_
          exact ih (i + 1) (by omega) (by omega)
        · refine v_inc2 hC dX9_countInWay_22 (show sm (f_wy M h x) i + Int32.ofInt 1 = sm (f_wy M h x) (i + 1) from by rw [sm_s, f_wy, if_pos h19]; rfl) (by decide) (kk := ?_)
          refine v_inc3 hC dX9_countInWay_25 ((nI_succ i).symm) (by decide) (kk := ?_)
          refine v_goto hC dX9_countInWay_28 (tgt := 4) (by decide) ?_
          exact ih (i + 1) (by omega) (by omega)
  refine v_iconst (v := 0) hC dX9_countInWay_0 (by decide) ?_
  refine v_ist2 hC dX9_countInWay_1 (by decide) (kk := ?_)
  refine v_iconst (v := 0) hC dX9_countInWay_2 (by decide) ?_
  refine v_ist3 hC dX9_countInWay_3 (by decide) (kk := ?_)
  exact loop 13 0 (by omega) (by omega)

set_option maxHeartbeats 4000000 in
set_option maxRecDepth 100000 in
theorem c_X9_countWithoutTarget {l : Launch} {G : Gd} {M : Me} {h n : Nat} {gs : Nat → Sg} (hW : Wt M) (ht : m_t M h = 10) (hS : FS M h n gs) : CQ (Qi G (fun r M2 => r = sm (f_wy M h 0) n ∧ M2 = M)) l G yX9_countWithoutTarget cX9_countWithoutTarget 1 ((some .int)) 1 23 0 0 [.ref h] M := by
  refine c_of ([some (.ref h)] : Lo) RX9 "countWithoutTarget" (by decide) rfl rfl (Nat.le_of_ble_eq_true rfl) rfl (fun p e s m below meth c hC nw => ?_)
  refine v_aload_n hC dX9_countWithoutTarget_0 rfl rfl ?_
  refine v_iconst (v := 0) hC dX9_countWithoutTarget_1 (by decide) ?_
  refine cVi1 hC (c_X9_countInWay hW ht hS) yv_X9_countInWay rfl ht mw_3_30 ⟨Nat.le_of_ble_eq_true rfl, Nat.le_of_ble_eq_true rfl⟩ ⟨Nat.le_of_ble_eq_true rfl, Nat.le_of_ble_eq_true rfl⟩ (Nat.le_of_ble_eq_true rfl) dX9_countWithoutTarget_2 (fun r2 M4 hq => ?_)
  obtain ⟨rfl, hm⟩ := hq
  have hm2 := hm.symm
  clear hm
  subst hm2
  refine v_iret hC dX9_countWithoutTarget_5 ?_
  exact ⟨rfl, rfl⟩

set_option maxHeartbeats 4000000 in
set_option maxRecDepth 100000 in
theorem c_X9_countWords {l : Launch} {G : Gd} {M : Me} {h n : Nat} {gs : Nat → Sg} (hW : Wt M) (ht : m_t M h = 10) (hS : FS M h n gs) : CQ (Qi G (fun r M2 => r = sm (f_wc gs) n ∧ M2 = M)) l G yX9_countWords cX9_countWords 3 ((some .int)) 0 0 0 0 [.ref h] M := by
  refine c_of ([some (.ref h), none, none] : Lo) RX9 "countWords" (by decide) rfl rfl (Nat.le_of_ble_eq_true rfl) rfl (fun p e s m below meth c hC nw => ?_)
  obtain ⟨hb, hn, hS⟩ := hS
  have loop : ∀ (k i : Nat), i + k = 13 → i ≤ n → V p l e (rmk 0 0 0 0) s m ([.ref h] : List Value).toArray below meth c 3 G (MQ below (Qi G (fun r M2 => r = sm (f_wc gs) n ∧ M2 = M)) ([.ref h] : List Value).toArray s 0 0 (fr_ G)) M 0 0 4 ([some (.ref h), some (.int (sm (f_wc gs) i)), some (.int (nI i))] : Lo) [] := by
    intro k
    induction k with
    | zero => intro i e1 e2; omega
    | succ k ih =>
      intro i e1 e2
      refine v_iload_n hC dX9_countWords_4 rfl rfl ?_
      refine v_aload_n hC dX9_countWords_5 rfl rfl ?_
      refine gf_9_5 hC ht mw_1_144 dX9_countWords_6 ?_
      rw [hn]
      refine v_icmp_ge hC dX9_countWords_9 (tgt := 30) (by decide) (fun h9 => ?_) (fun h9 => ?_)
      · have hi := lp_ge h9
        refine v_iload_n hC dX9_countWords_30 rfl rfl ?_
        refine v_iret hC dX9_countWords_31 ?_
        have hie : i = n := by omega
        subst hie
        exact ⟨rfl, rfl⟩
      · have hi := lp_lt h9
        refine v_iload_n hC dX9_countWords_12 rfl rfl ?_
        refine v_aload_n hC dX9_countWords_13 rfl rfl ?_
        refine gf_9_6 hC ht (wf_250 hW ht) mw_1_148 dX9_countWords_14 ?_
        refine v_iload_n hC dX9_countWords_17 rfl rfl ?_
        refine v_aald 52 _ hC (wf_250 hW ht) (by decide) rfl (ix_c (wz_52 hW (wf_250 hW ht)) (by omega)) (hS i hi).1 dX9_countWords_18 ?_
        refine gf_6_2 hC (hS i hi).1 mw_1_51 dX9_countWords_19 ?_
        rw [(hS i hi).2.2.1]
        refine v_iadd hC dX9_countWords_22 ?_
        refine v_ist1 hC dX9_countWords_23 (by decide) (kk := ?_)
        refine v_inc2 hC dX9_countWords_24 ((nI_succ i).symm) (by decide) (kk := ?_)
        refine v_goto hC dX9_countWords_27 (tgt := 4) (by decide) ?_
        exact ih (i + 1) (by omega) (by omega)
  refine v_iconst (v := 0) hC dX9_countWords_0 (by decide) ?_
  refine v_ist1 hC dX9_countWords_1 (by decide) (kk := ?_)
  refine v_iconst (v := 0) hC dX9_countWords_2 (by decide) ?_
  refine v_ist2 hC dX9_countWords_3 (by decide) (kk := ?_)
  exact loop 13 0 (by omega) (by omega)

set_option maxHeartbeats 4000000 in
set_option maxRecDepth 100000 in
theorem c_X9_reviewPay {l : Launch} {G : Gd} {M : Me} {h n : Nat} {gs : Nat → Sg} (hW : Wt M) (ht : m_t M h = 10) (hS : FS M h n gs) : CQ (Qi G (fun r M2 => r = 2 * sm (f_wc gs) n ∧ M2 = M)) l G yX9_reviewPay cX9_reviewPay 1 ((some .int)) 1 22 0 0 [.ref h] M := by
  refine c_of ([some (.ref h)] : Lo) RX9 "reviewPay" (by decide) rfl rfl (Nat.le_of_ble_eq_true rfl) rfl (fun p e s m below meth c hC nw => ?_)
  refine v_iconst (v := 2) hC dX9_reviewPay_0 (by decide) ?_
  refine v_aload_n hC dX9_reviewPay_1 rfl rfl ?_
  refine cVi0 hC (c_X9_countWords hW ht hS) yv_X9_countWords rfl ht mw_3_171 ⟨Nat.le_of_ble_eq_true rfl, Nat.le_of_ble_eq_true rfl⟩ ⟨Nat.le_of_ble_eq_true rfl, Nat.le_of_ble_eq_true rfl⟩ (Nat.le_of_ble_eq_true rfl) dX9_reviewPay_2 (fun r2 M4 hq => ?_)
  obtain ⟨rfl, hm⟩ := hq
  have hm2 := hm.symm
  clear hm
  subst hm2
  refine v_imul hC dX9_reviewPay_5 ?_
  refine v_iret hC dX9_reviewPay_6 ?_
  exact ⟨rfl, rfl⟩

set_option maxHeartbeats 4000000 in
set_option maxRecDepth 100000 in
theorem c_X9_cost {l : Launch} {G : Gd} {M : Me} {h n : Nat} {gs : Nat → Sg} (hW : Wt M) (ht : m_t M h = 10) (hS : FS M h n gs) : CQ (Qi G (fun r M2 => r = (if m_i M 244 h 0 = 3 then m_i M 247 h 0 + 2 * sm (f_wc gs) n else if m_i M 244 h 0 = 1 ∨ m_i M 244 h 0 = 2 then m_i M 247 h 0 else 0) ∧ M2 = M)) l G yX9_cost cX9_cost 1 ((some .int)) 2 42 0 0 [.ref h] M := by
  refine c_of ([some (.ref h)] : Lo) RX9 "cost" (by decide) rfl rfl (Nat.le_of_ble_eq_true rfl) rfl (fun p e s m below meth c hC nw => ?_)
  refine v_aload_n hC dX9_cost_0 rfl rfl ?_
  refine gf_9_0 hC ht mw_1_130 dX9_cost_1 ?_
  refine v_iconst (v := 3) hC dX9_cost_4 (by decide) ?_
  refine v_icmp_ne hC dX9_cost_5 (tgt := 18) (by decide) (fun h5 => ?_) (fun h5 => ?_)
  · refine v_aload_n hC dX9_cost_18 rfl rfl ?_
    refine gf_9_0 hC ht mw_1_130 dX9_cost_19 ?_
    refine v_iconst (v := 1) hC dX9_cost_22 (by decide) ?_
    refine v_icmp_eq hC dX9_cost_23 (tgt := 34) (by decide) (fun h23 => ?_) (fun h23 => ?_)
    · refine v_aload_n hC dX9_cost_34 rfl rfl ?_
      refine gf_9_3 hC ht mw_1_139 dX9_cost_35 ?_
      refine v_goto hC dX9_cost_38 (tgt := 42) (by decide) ?_
      refine v_iret hC dX9_cost_42 ?_
      exact ⟨by rw [if_neg h5, if_pos (by first | exact Or.inl h23 | exact Or.inr h31)], rfl⟩
    · refine v_aload_n hC dX9_cost_26 rfl rfl ?_
      refine gf_9_0 hC ht mw_1_130 dX9_cost_27 ?_
      refine v_iconst (v := 2) hC dX9_cost_30 (by decide) ?_
      refine v_icmp_ne hC dX9_cost_31 (tgt := 41) (by decide) (fun h31 => ?_) (fun h31 => ?_)
      · refine v_iconst (v := 0) hC dX9_cost_41 (by decide) ?_
        refine v_iret hC dX9_cost_42 ?_
        exact ⟨by rw [if_neg h5, if_neg (no2 h23 h31)], rfl⟩
      · refine v_aload_n hC dX9_cost_34 rfl rfl ?_
        refine gf_9_3 hC ht mw_1_139 dX9_cost_35 ?_
        refine v_goto hC dX9_cost_38 (tgt := 42) (by decide) ?_
        refine v_iret hC dX9_cost_42 ?_
        exact ⟨by rw [if_neg h5, if_pos (by first | exact Or.inl h23 | exact Or.inr h31)], rfl⟩
  · refine v_aload_n hC dX9_cost_8 rfl rfl ?_
    refine gf_9_3 hC ht mw_1_139 dX9_cost_9 ?_
    refine v_aload_n hC dX9_cost_12 rfl rfl ?_
    refine cVi0 hC (c_X9_reviewPay hW ht hS) yv_X9_reviewPay rfl ht mw_3_167 ⟨Nat.le_of_ble_eq_true rfl, Nat.le_of_ble_eq_true rfl⟩ ⟨Nat.le_of_ble_eq_true rfl, Nat.le_of_ble_eq_true rfl⟩ (Nat.le_of_ble_eq_true rfl) dX9_cost_13 (fun r13 M15 hq => ?_)
    obtain ⟨rfl, hm⟩ := hq
    have hm2 := hm.symm
    clear hm
    subst hm2
    refine v_iadd hC dX9_cost_16 ?_
    refine v_iret hC dX9_cost_17 ?_
    exact ⟨by rw [if_pos h5], rfl⟩

set_option maxHeartbeats 4000000 in
set_option maxRecDepth 100000 in
theorem c_X9_countAlike {l : Launch} {G : Gd} {M : Me} {h n g0 : Nat} {g : Sg} {gs : Nat → Sg} (hW : Wt M) (ht : m_t M h = 10) (hS : FS M h n gs) (hg : SgR M g0 g) : CQ (Qi G (fun r M2 => r = sm (f_lk gs g) n ∧ M2 = M)) l G yX9_countAlike cX9_countAlike 4 ((some .int)) 1 22 0 0 [.ref h, .ref g0] M := by
  refine c_of ([some (.ref h), some (.ref g0), none, none] : Lo) RX9 "countAlike" (by decide) rfl rfl (Nat.le_of_ble_eq_true rfl) rfl (fun p e s m below meth c hC nw => ?_)
  obtain ⟨hb, hn, hS⟩ := hS
  have loop : ∀ (k i : Nat), i + k = 13 → i ≤ n → V p l e (rmk 1 22 0 0) s m ([.ref h, .ref g0] : List Value).toArray below meth c 4 G (MQ below (Qi G (fun r M2 => r = sm (f_lk gs g) n ∧ M2 = M)) ([.ref h, .ref g0] : List Value).toArray s 0 0 (fr_ G)) M 0 0 4 ([some (.ref h), some (.ref g0), some (.int (sm (f_lk gs g) i)), some (.int (nI i))] : Lo) [] := by
    intro k
    induction k with
    | zero => intro i e1 e2; omega
    | succ k ih =>
      intro i e1 e2
      refine v_iload_n hC dX9_countAlike_4 rfl rfl ?_
      refine v_aload_n hC dX9_countAlike_5 rfl rfl ?_
      refine gf_9_5 hC ht mw_1_144 dX9_countAlike_6 ?_
      rw [hn]
      refine v_icmp_ge hC dX9_countAlike_9 (tgt := 34) (by decide) (fun h9 => ?_) (fun h9 => ?_)
      · have hi := lp_ge h9
        refine v_iload_n hC dX9_countAlike_34 rfl rfl ?_
        refine v_iret hC dX9_countAlike_35 ?_
        have hie : i = n := by omega
        subst hie
        exact ⟨rfl, rfl⟩
      · have hi := lp_lt h9
        refine v_aload_n hC dX9_countAlike_12 rfl rfl ?_
        refine gf_9_6 hC ht (wf_250 hW ht) mw_1_148 dX9_countAlike_13 ?_
        refine v_iload_n hC dX9_countAlike_16 rfl rfl ?_
        refine v_aald 52 _ hC (wf_250 hW ht) (by decide) rfl (ix_c (wz_52 hW (wf_250 hW ht)) (by omega)) (hS i hi).1 dX9_countAlike_17 ?_
        refine v_aload_n hC dX9_countAlike_18 rfl rfl ?_
        refine cVi1 hC (c_X6_isAlike hW (hS i hi) hg) yv_X6_isAlike rfl (hS i hi).1 mw_3_62 ⟨Nat.le_of_ble_eq_true rfl, Nat.le_of_ble_eq_true rfl⟩ ⟨Nat.le_of_ble_eq_true rfl, Nat.le_of_ble_eq_true rfl⟩ (Nat.le_of_ble_eq_true rfl) dX9_countAlike_19 (fun r19 M21 hq => ?_)
        obtain ⟨hm, hq2⟩ := hq
        have hm2 := hm.symm
        clear hm
        subst hm2
        obtain ⟨g19, rfl⟩ | ⟨g19, rfl⟩ := hq2
        · refine v_if_eq hC dX9_countAlike_22 (tgt := 28) (by decide) (fun hx => absurd hx (by decide)) (fun _ => ?_)
          refine v_inc2 hC dX9_countAlike_25 (show sm (f_lk gs g) i + Int32.ofInt 1 = sm (f_lk gs g) (i + 1) from by rw [sm_s, f_lk, if_pos g19]; rfl) (by decide) (kk := ?_)
          first | rw [show sm (f_lk gs g) i = sm (f_lk gs g) (i + 1) from by rw [sm_s, f_lk, if_neg g19, Int32.add_zero]] | skip
          refine v_inc3 hC dX9_countAlike_28 ((nI_succ i).symm) (by decide) (kk := ?_)
          refine v_goto hC dX9_countAlike_31 (tgt := 4) (by decide) ?_
          exact ih (i + 1) (by omega) (by omega)
        · refine v_if_eq hC dX9_countAlike_22 (tgt := 28) (by decide) (fun _ => ?_) (fun hx => absurd hx (by decide))
          first | rw [show sm (f_lk gs g) i = sm (f_lk gs g) (i + 1) from by rw [sm_s, f_lk, if_neg g19, Int32.add_zero]] | skip
          refine v_inc3 hC dX9_countAlike_28 ((nI_succ i).symm) (by decide) (kk := ?_)
          refine v_goto hC dX9_countAlike_31 (tgt := 4) (by decide) ?_
          exact ih (i + 1) (by omega) (by omega)
  refine v_iconst (v := 0) hC dX9_countAlike_0 (by decide) ?_
  refine v_ist2 hC dX9_countAlike_1 (by decide) (kk := ?_)
  refine v_iconst (v := 0) hC dX9_countAlike_2 (by decide) ?_
  refine v_ist3 hC dX9_countAlike_3 (by decide) (kk := ?_)
  exact loop 13 0 (by omega) (by omega)

set_option maxHeartbeats 4000000 in
set_option maxRecDepth 100000 in
theorem c_X9_putTarget {l : Launch} {G : Gd} {M : Me} {h s0 : Nat} {t y : Int32} (hW : Wt M) (ht : m_t M h = 10) (hs : s0 < 12) : CQ (Qv G (fun M2 => M2 = s_i (s_i M 24 (m_r M 251 h 0) s0 t) 25 (m_r M 252 h 0) s0 y)) l G yX9_putTarget cX9_putTarget 4 (none) 0 0 0 0 [.ref h, .int (nI s0), .int t, .int y] M := by
  refine c_of ([some (.ref h), some (.int (nI s0)), some (.int t), some (.int y)] : Lo) RX9 "putTarget" (by decide) rfl rfl (Nat.le_of_ble_eq_true rfl) rfl (fun p e s m below meth c hC nw => ?_)
  refine v_aload_n hC dX9_putTarget_0 rfl rfl ?_
  refine gf_9_7 hC ht (wf_251 hW ht) mw_1_152 dX9_putTarget_1 ?_
  refine v_iload_n hC dX9_putTarget_4 rfl rfl ?_
  refine v_iload_n hC dX9_putTarget_5 rfl rfl ?_
  refine v_iast 24 hC (wf_251 hW ht) (by decide) (by decide) (ix_c (wz_24 hW (wf_251 hW ht)) hs) dX9_putTarget_6 ?_
  refine v_aload_n hC dX9_putTarget_7 rfl rfl ?_
  refine gf_9_8 hC ht (wf_252 (hW.fx (Fx.rf.si)) ht) mw_1_156 dX9_putTarget_8 ?_
  refine v_iload_n hC dX9_putTarget_11 rfl rfl ?_
  refine v_iload_n hC dX9_putTarget_12 rfl rfl ?_
  refine v_iast 25 hC (wf_252 (hW.fx (Fx.rf.si)) ht) (by decide) (by decide) (ix_c (wz_25 (hW.fx (Fx.rf.si)) (wf_252 (hW.fx (Fx.rf.si)) ht)) hs) dX9_putTarget_13 ?_
  refine v_vret hC dX9_putTarget_14 ?_
  exact rfl
