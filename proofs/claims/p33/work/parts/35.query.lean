/-- x is the number of one of the first n -/
def rgI (x : Int32) (n : Nat) : Prop := ∃ j, j < n ∧ x = nI j
theorem rg_in {x : Int32} {n : Nat} (h1 : ¬ x < 0) (h2 : ¬ nI n ≤ x) (hn : n < 2 ^ 31) : rgI x n := by
  have e1 : 0 ≤ x.toInt := by rw [Int32.lt_iff_toInt_lt] at h1; simpa using h1
  have e2 : (x.toNatClampNeg : Int) = x.toInt := by rw [Int32.toNatClampNeg]; omega
  have hx : x.toInt < 2 ^ 31 := x.toInt_lt
  have e3 : nI x.toNatClampNeg = x := by
    apply Int32.toInt_inj.mp
    rw [show (nI x.toNatClampNeg).toInt = (x.toNatClampNeg : Int) from Int32.toInt_ofNat_of_lt (by omega), e2]
  refine ⟨x.toNatClampNeg, Nat.not_le.mp fun q => h2 ?_, e3.symm⟩
  rw [← e3]
  exact nI_le q (by omega)
theorem rg_lo {x : Int32} {n : Nat} (h : x < 0) (hn : n < 2 ^ 31) : ¬ rgI x n := fun ⟨j, hj, e⟩ => by
  subst e
  exact i_ab h (nI_le (a := 0) (Nat.zero_le j) (by omega))
theorem rg_hi {x : Int32} {n : Nat} (h : nI n ≤ x) (hn : n < 2 ^ 31) : ¬ rgI x n := fun ⟨j, hj, e⟩ => by
  subst e
  exact i_ab (nI_lt hj hn) h
set_option maxHeartbeats 4000000 in
set_option maxRecDepth 100000 in
theorem c_X4_hasEntry {l : Launch} {G : Gd} {M : Me} {h n : Nat} {x : Int32} (ht : m_t M h = 5) (hn : m_i M 166 h 0 = nI n) (hb : n ≤ 40) : CQ (Qi G (fun r M2 => M2 = M ∧ (rgI x n ∧ r = 1 ∨ ¬ rgI x n ∧ r = 0))) l G yX4_hasEntry cX4_hasEntry 2 ((some .boolean)) 0 0 0 0 [.ref h, .int x] M := by
  refine c_of ([some (.ref h), some (.int x)] : Lo) RX4 "hasEntry" (by decide) rfl rfl (Nat.le_of_ble_eq_true rfl) rfl (fun p e s m below meth c hC nw => ?_)
  refine v_iload_n hC dX4_hasEntry_0 rfl rfl ?_
  refine v_if_lt hC dX4_hasEntry_1 (tgt := 16) (by decide) (fun h1 => ?_) (fun h1 => ?_)
  · refine v_iconst (v := 0) hC dX4_hasEntry_16 (by decide) ?_
    refine v_zret hC (Or.inl rfl) dX4_hasEntry_17 ?_
    exact ⟨rfl, Or.inr ⟨by first | exact rg_lo h1 (by omega) | exact rg_hi h9 (by omega), rfl⟩⟩
  · refine v_iload_n hC dX4_hasEntry_4 rfl rfl ?_
    refine v_aload_n hC dX4_hasEntry_5 rfl rfl ?_
    refine gf_4_2 hC ht mw_2_10 dX4_hasEntry_6 ?_
    rw [hn]
    refine v_icmp_ge hC dX4_hasEntry_9 (tgt := 16) (by decide) (fun h9 => ?_) (fun h9 => ?_)
    · refine v_iconst (v := 0) hC dX4_hasEntry_16 (by decide) ?_
      refine v_zret hC (Or.inl rfl) dX4_hasEntry_17 ?_
      exact ⟨rfl, Or.inr ⟨by first | exact rg_lo h1 (by omega) | exact rg_hi h9 (by omega), rfl⟩⟩
    · refine v_iconst (v := 1) hC dX4_hasEntry_12 (by decide) ?_
      refine v_goto hC dX4_hasEntry_13 (tgt := 17) (by decide) ?_
      refine v_zret hC (Or.inr rfl) dX4_hasEntry_17 ?_
      exact ⟨rfl, Or.inl ⟨rg_in h1 h9 (by omega), rfl⟩⟩

set_option maxHeartbeats 4000000 in
set_option maxRecDepth 100000 in
theorem c_X4_hasDispute {l : Launch} {G : Gd} {M : Me} {h n : Nat} {x : Int32} (ht : m_t M h = 5) (hn : m_i M 168 h 0 = nI n) (hb : n ≤ 10) : CQ (Qi G (fun r M2 => M2 = M ∧ (rgI x n ∧ r = 1 ∨ ¬ rgI x n ∧ r = 0))) l G yX4_hasDispute cX4_hasDispute 2 ((some .boolean)) 0 0 0 0 [.ref h, .int x] M := by
  refine c_of ([some (.ref h), some (.int x)] : Lo) RX4 "hasDispute" (by decide) rfl rfl (Nat.le_of_ble_eq_true rfl) rfl (fun p e s m below meth c hC nw => ?_)
  refine v_iload_n hC dX4_hasDispute_0 rfl rfl ?_
  refine v_if_lt hC dX4_hasDispute_1 (tgt := 16) (by decide) (fun h1 => ?_) (fun h1 => ?_)
  · refine v_iconst (v := 0) hC dX4_hasDispute_16 (by decide) ?_
    refine v_zret hC (Or.inl rfl) dX4_hasDispute_17 ?_
    exact ⟨rfl, Or.inr ⟨by first | exact rg_lo h1 (by omega) | exact rg_hi h9 (by omega), rfl⟩⟩
  · refine v_iload_n hC dX4_hasDispute_4 rfl rfl ?_
    refine v_aload_n hC dX4_hasDispute_5 rfl rfl ?_
    refine gf_4_4 hC ht mw_2_15 dX4_hasDispute_6 ?_
    rw [hn]
    refine v_icmp_ge hC dX4_hasDispute_9 (tgt := 16) (by decide) (fun h9 => ?_) (fun h9 => ?_)
    · refine v_iconst (v := 0) hC dX4_hasDispute_16 (by decide) ?_
      refine v_zret hC (Or.inl rfl) dX4_hasDispute_17 ?_
      exact ⟨rfl, Or.inr ⟨by first | exact rg_lo h1 (by omega) | exact rg_hi h9 (by omega), rfl⟩⟩
    · refine v_iconst (v := 1) hC dX4_hasDispute_12 (by decide) ?_
      refine v_goto hC dX4_hasDispute_13 (tgt := 17) (by decide) ?_
      refine v_zret hC (Or.inr rfl) dX4_hasDispute_17 ?_
      exact ⟨rfl, Or.inl ⟨rg_in h1 h9 (by omega), rfl⟩⟩

set_option maxHeartbeats 4000000 in
set_option maxRecDepth 100000 in
theorem c_X7_hasFile {l : Launch} {G : Gd} {M : Me} {h n : Nat} {x : Int32} (ht : m_t M h = 8) (hn : m_i M 216 h 0 = nI n) (hb : n ≤ 8) : CQ (Qi G (fun r M2 => M2 = M ∧ (rgI x n ∧ r = 1 ∨ ¬ rgI x n ∧ r = 0))) l G yX7_hasFile cX7_hasFile 2 ((some .boolean)) 0 0 0 0 [.ref h, .int x] M := by
  refine c_of ([some (.ref h), some (.int x)] : Lo) RX7 "hasFile" (by decide) rfl rfl (Nat.le_of_ble_eq_true rfl) rfl (fun p e s m below meth c hC nw => ?_)
  refine v_iload_n hC dX7_hasFile_0 rfl rfl ?_
  refine v_if_lt hC dX7_hasFile_1 (tgt := 16) (by decide) (fun h1 => ?_) (fun h1 => ?_)
  · refine v_iconst (v := 0) hC dX7_hasFile_16 (by decide) ?_
    refine v_zret hC (Or.inl rfl) dX7_hasFile_17 ?_
    exact ⟨rfl, Or.inr ⟨by first | exact rg_lo h1 (by omega) | exact rg_hi h9 (by omega), rfl⟩⟩
  · refine v_iload_n hC dX7_hasFile_4 rfl rfl ?_
    refine v_aload_n hC dX7_hasFile_5 rfl rfl ?_
    refine gf_7_4 hC ht mw_2_36 dX7_hasFile_6 ?_
    rw [hn]
    refine v_icmp_ge hC dX7_hasFile_9 (tgt := 16) (by decide) (fun h9 => ?_) (fun h9 => ?_)
    · refine v_iconst (v := 0) hC dX7_hasFile_16 (by decide) ?_
      refine v_zret hC (Or.inl rfl) dX7_hasFile_17 ?_
      exact ⟨rfl, Or.inr ⟨by first | exact rg_lo h1 (by omega) | exact rg_hi h9 (by omega), rfl⟩⟩
    · refine v_iconst (v := 1) hC dX7_hasFile_12 (by decide) ?_
      refine v_goto hC dX7_hasFile_13 (tgt := 17) (by decide) ?_
      refine v_zret hC (Or.inr rfl) dX7_hasFile_17 ?_
      exact ⟨rfl, Or.inl ⟨rg_in h1 h9 (by omega), rfl⟩⟩

set_option maxHeartbeats 4000000 in
set_option maxRecDepth 100000 in
theorem c_X7_hasPerson {l : Launch} {G : Gd} {M : Me} {h n : Nat} {x : Int32} (ht : m_t M h = 8) (hn : m_i M 214 h 0 = nI n) (hb : n ≤ 6) : CQ (Qi G (fun r M2 => M2 = M ∧ (rgI x n ∧ r = 1 ∨ ¬ rgI x n ∧ r = 0))) l G yX7_hasPerson cX7_hasPerson 2 ((some .boolean)) 0 0 0 0 [.ref h, .int x] M := by
  refine c_of ([some (.ref h), some (.int x)] : Lo) RX7 "hasPerson" (by decide) rfl rfl (Nat.le_of_ble_eq_true rfl) rfl (fun p e s m below meth c hC nw => ?_)
  refine v_iload_n hC dX7_hasPerson_0 rfl rfl ?_
  refine v_if_lt hC dX7_hasPerson_1 (tgt := 16) (by decide) (fun h1 => ?_) (fun h1 => ?_)
  · refine v_iconst (v := 0) hC dX7_hasPerson_16 (by decide) ?_
    refine v_zret hC (Or.inl rfl) dX7_hasPerson_17 ?_
    exact ⟨rfl, Or.inr ⟨by first | exact rg_lo h1 (by omega) | exact rg_hi h9 (by omega), rfl⟩⟩
  · refine v_iload_n hC dX7_hasPerson_4 rfl rfl ?_
    refine v_aload_n hC dX7_hasPerson_5 rfl rfl ?_
    refine gf_7_2 hC ht mw_2_32 dX7_hasPerson_6 ?_
    rw [hn]
    refine v_icmp_ge hC dX7_hasPerson_9 (tgt := 16) (by decide) (fun h9 => ?_) (fun h9 => ?_)
    · refine v_iconst (v := 0) hC dX7_hasPerson_16 (by decide) ?_
      refine v_zret hC (Or.inl rfl) dX7_hasPerson_17 ?_
      exact ⟨rfl, Or.inr ⟨by first | exact rg_lo h1 (by omega) | exact rg_hi h9 (by omega), rfl⟩⟩
    · refine v_iconst (v := 1) hC dX7_hasPerson_12 (by decide) ?_
      refine v_goto hC dX7_hasPerson_13 (tgt := 17) (by decide) ?_
      refine v_zret hC (Or.inr rfl) dX7_hasPerson_17 ?_
      exact ⟨rfl, Or.inl ⟨rg_in h1 h9 (by omega), rfl⟩⟩

set_option maxHeartbeats 4000000 in
set_option maxRecDepth 100000 in
theorem c_X4_alikeEntry {l : Launch} {G : Gd} {M : Me} {h n g0 : Nat} {g : Sg} {es : Nat → Sg} (hW : Wt M) (ht : m_t M h = 5) (hS : ES M h n es) (hg : SgR M g0 g) : CQ (Qi G (fun r M2 => Fst (fun e => es e = g) n r ∧ M2 = M)) l G yX4_alikeEntry cX4_alikeEntry 3 ((some .int)) 1 22 0 0 [.ref h, .ref g0] M := by
  refine c_of ([some (.ref h), some (.ref g0), none] : Lo) RX4 "alikeEntry" (by decide) rfl rfl (Nat.le_of_ble_eq_true rfl) rfl (fun p e s m below meth c hC nw => ?_)
  obtain ⟨hb, hn, hS⟩ := hS
  have loop : ∀ (k i : Nat), i + k = 41 → i ≤ n → (∀ j, j < i → ¬ es j = g) → V p l e (rmk 1 22 0 0) s m ([.ref h, .ref g0] : List Value).toArray below meth c 3 G (MQ below (Qi G (fun r M2 => Fst (fun e => es e = g) n r ∧ M2 = M)) ([.ref h, .ref g0] : List Value).toArray s 0 0 (fr_ G)) M 0 0 2 ([some (.ref h), some (.ref g0), some (.int (nI i))] : Lo) [] := by
    intro k
    induction k with
    | zero => intro i e1 e2; omega
    | succ k ih =>
      intro i e1 e2 hI
      refine v_iload_n hC dX4_alikeEntry_2 rfl rfl ?_
      refine v_aload_n hC dX4_alikeEntry_3 rfl rfl ?_
      refine gf_4_2 hC ht mw_2_10 dX4_alikeEntry_4 ?_
      rw [hn]
      refine v_icmp_ge hC dX4_alikeEntry_7 (tgt := 34) (by decide) (fun h7 => ?_) (fun h7 => ?_)
      · have hi := lp_ge h7
        refine v_bipush (v := (-5)) hC dX4_alikeEntry_34 (by decide) ?_
        refine v_iret hC dX4_alikeEntry_36 ?_
        exact ⟨Or.inr ⟨fun j hj => hI j (by omega), rfl⟩, rfl⟩
      · have hi := lp_lt h7
        refine v_aload_n hC dX4_alikeEntry_10 rfl rfl ?_
        refine gf_4_1 hC ht (wf_165 hW ht) mw_2_7 dX4_alikeEntry_11 ?_
        refine v_iload_n hC dX4_alikeEntry_14 rfl rfl ?_
        refine v_aald 53 _ hC (wf_165 hW ht) (by decide) rfl (ix_c (wz_53 hW (wf_165 hW ht)) (by omega)) (we_53 hW (wf_165 hW ht) (by omega)) dX4_alikeEntry_15 ?_
        refine gf_1_0 hC (we_53 hW (wf_165 hW ht) (by omega)) (hS i hi).1 mw_1_195 dX4_alikeEntry_16 ?_
        refine v_aload_n hC dX4_alikeEntry_19 rfl rfl ?_
        refine cVi1 hC (c_X6_isAlike hW (hS i hi) hg) yv_X6_isAlike rfl (hS i hi).1 mw_2_237 ⟨Nat.le_of_ble_eq_true rfl, Nat.le_of_ble_eq_true rfl⟩ ⟨Nat.le_of_ble_eq_true rfl, Nat.le_of_ble_eq_true rfl⟩ (Nat.le_of_ble_eq_true rfl) dX4_alikeEntry_20 (fun r20 M22 hq => ?_)
        obtain ⟨hm, hq2⟩ := hq
        have hm2 := hm.symm
        clear hm
        subst hm2
        obtain ⟨g20, rfl⟩ | ⟨g20, rfl⟩ := hq2
        · refine v_if_eq hC dX4_alikeEntry_23 (tgt := 28) (by decide) (fun hx => absurd hx (by decide)) (fun _ => ?_)
          refine v_iload_n hC dX4_alikeEntry_26 rfl rfl ?_
          refine v_iret hC dX4_alikeEntry_27 ?_
          exact ⟨Or.inl ⟨i, hi, g20, hI, rfl⟩, rfl⟩
        · refine v_if_eq hC dX4_alikeEntry_23 (tgt := 28) (by decide) (fun _ => ?_) (fun hx => absurd hx (by decide))
          refine v_inc2 hC dX4_alikeEntry_28 ((nI_succ i).symm) (by decide) (kk := ?_)
          refine v_goto hC dX4_alikeEntry_31 (tgt := 2) (by decide) ?_
          exact ih (i + 1) (by omega) (by omega) (fun j hj => by
            by_cases q : j = i
            · subst q; exact g20
            · exact hI j (by omega))
  refine v_iconst (v := 0) hC dX4_alikeEntry_0 (by decide) ?_
  refine v_ist2 hC dX4_alikeEntry_1 (by decide) (kk := ?_)
  exact loop 41 0 (by omega) (by omega) (fun j hj => absurd hj (Nat.not_lt_zero j))

set_option maxHeartbeats 4000000 in
set_option maxRecDepth 100000 in
theorem c_X0_isSettled {l : Launch} {G : Gd} {M : Me} {h : Nat} (ht : m_t M h = 1) : CQ (Qi G (fun r M2 => M2 = M ∧ (¬ m_i M 103 h 0 = 0 ∧ r = 1 ∨ ¬ ¬ m_i M 103 h 0 = 0 ∧ r = 0))) l G yX0_isSettled cX0_isSettled 1 ((some .boolean)) 0 0 0 0 [.ref h] M := by
  refine c_of ([some (.ref h)] : Lo) RX0 "isSettled" (by decide) rfl rfl (Nat.le_of_ble_eq_true rfl) rfl (fun p e s m below meth c hC nw => ?_)
  refine v_aload_n hC dX0_isSettled_0 rfl rfl ?_
  refine gf_0_3 hC ht mw_1_234 dX0_isSettled_1 ?_
  refine v_if_eq hC dX0_isSettled_4 (tgt := 11) (by decide) (fun h4 => ?_) (fun h4 => ?_)
  · refine v_iconst (v := 0) hC dX0_isSettled_11 (by decide) ?_
    refine v_zret hC (Or.inl rfl) dX0_isSettled_12 ?_
    exact ⟨rfl, Or.inr ⟨fun q => q h4, rfl⟩⟩
  · refine v_iconst (v := 1) hC dX0_isSettled_7 (by decide) ?_
    refine v_goto hC dX0_isSettled_8 (tgt := 12) (by decide) ?_
    refine v_zret hC (Or.inr rfl) dX0_isSettled_12 ?_
    exact ⟨rfl, Or.inl ⟨h4, rfl⟩⟩

set_option maxHeartbeats 4000000 in
set_option maxRecDepth 100000 in
theorem c_X4_openDispute {l : Launch} {G : Gd} {M : Me} {h n : Nat} {x : Int32} (hW : Wt M) (ht : m_t M h = 5) (hn : m_i M 168 h 0 = nI n) (hb : n ≤ 10) : CQ (Qi G (fun r M2 => Fst (fun d => m_i M 100 (pD M h d) 0 = x ∧ m_i M 103 (pD M h d) 0 = 0) n r ∧ M2 = M)) l G yX4_openDispute cX4_openDispute 3 ((some .int)) 1 20 0 0 [.ref h, .int x] M := by
  refine c_of ([some (.ref h), some (.int x), none] : Lo) RX4 "openDispute" (by decide) rfl rfl (Nat.le_of_ble_eq_true rfl) rfl (fun p e s m below meth c hC nw => ?_)
  have loop : ∀ (k i : Nat), i + k = 11 → i ≤ n → (∀ j, j < i → ¬ (m_i M 100 (pD M h j) 0 = x ∧ m_i M 103 (pD M h j) 0 = 0)) → V p l e (rmk 1 20 0 0) s m ([.ref h, .int x] : List Value).toArray below meth c 3 G (MQ below (Qi G (fun r M2 => Fst (fun d => m_i M 100 (pD M h d) 0 = x ∧ m_i M 103 (pD M h d) 0 = 0) n r ∧ M2 = M)) ([.ref h, .int x] : List Value).toArray s 0 0 (fr_ G)) M 0 0 2 ([some (.ref h), some (.int x), some (.int (nI i))] : Lo) [] := by
    intro k
    induction k with
    | zero => intro i e1 e2; omega
    | succ k ih =>
      intro i e1 e2 hI
      refine v_iload_n hC dX4_openDispute_2 rfl rfl ?_
      refine v_aload_n hC dX4_openDispute_3 rfl rfl ?_
      refine gf_4_4 hC ht mw_2_15 dX4_openDispute_4 ?_
      rw [hn]
      refine v_icmp_ge hC dX4_openDispute_7 (tgt := 43) (by decide) (fun h7 => ?_) (fun h7 => ?_)
      · have hi := lp_ge h7
        refine v_bipush (v := (-5)) hC dX4_openDispute_43 (by decide) ?_
        refine v_iret hC dX4_openDispute_45 ?_
        exact ⟨Or.inr ⟨fun j hj => hI j (by omega), rfl⟩, rfl⟩
      · have hi := lp_lt h7
        refine v_aload_n hC dX4_openDispute_10 rfl rfl ?_
        refine gf_4_3 hC ht (wf_167 hW ht) mw_2_12 dX4_openDispute_11 ?_
        refine v_iload_n hC dX4_openDispute_14 rfl rfl ?_
        refine v_aald 54 _ hC (wf_167 hW ht) (by decide) rfl (ix_c (wz_54 hW (wf_167 hW ht)) (by omega)) (we_54 hW (wf_167 hW ht) (by omega)) dX4_openDispute_15 ?_
        refine gf_0_0 hC (we_54 hW (wf_167 hW ht) (by omega)) mw_1_226 dX4_openDispute_16 ?_
        refine v_iload_n hC dX4_openDispute_19 rfl rfl ?_
        refine v_icmp_ne hC dX4_openDispute_20 (tgt := 37) (by decide) (fun h20 => ?_) (fun h20 => ?_)
        · refine v_inc2 hC dX4_openDispute_37 ((nI_succ i).symm) (by decide) (kk := ?_)
          refine v_goto hC dX4_openDispute_40 (tgt := 2) (by decide) ?_
          exact ih (i + 1) (by omega) (by omega) (fun j hj => by
            by_cases q : j = i
            · subst q; first | exact fun w => h20 w.1 | exact fun w => g29 w.2
            · exact hI j (by omega))
        · refine v_aload_n hC dX4_openDispute_23 rfl rfl ?_
          refine gf_4_3 hC ht (wf_167 hW ht) mw_2_12 dX4_openDispute_24 ?_
          refine v_iload_n hC dX4_openDispute_27 rfl rfl ?_
          refine v_aald 54 _ hC (wf_167 hW ht) (by decide) rfl (ix_c (wz_54 hW (wf_167 hW ht)) (by omega)) (we_54 hW (wf_167 hW ht) (by omega)) dX4_openDispute_28 ?_
          refine cVi0 hC (c_X0_isSettled (we_54 hW (wf_167 hW ht) (by omega))) yv_X0_isSettled rfl (we_54 hW (wf_167 hW ht) (by omega)) mw_3_113 ⟨Nat.le_of_ble_eq_true rfl, Nat.le_of_ble_eq_true rfl⟩ ⟨Nat.le_of_ble_eq_true rfl, Nat.le_of_ble_eq_true rfl⟩ (Nat.le_of_ble_eq_true rfl) dX4_openDispute_29 (fun r29 M31 hq => ?_)
          obtain ⟨hm, hq2⟩ := hq
          have hm2 := hm.symm
          clear hm
          subst hm2
          obtain ⟨g29, rfl⟩ | ⟨g29, rfl⟩ := hq2
          · refine v_if_ne hC dX4_openDispute_32 (tgt := 37) (by decide) (fun _ => ?_) (fun hx => absurd hx (by decide))
            refine v_inc2 hC dX4_openDispute_37 ((nI_succ i).symm) (by decide) (kk := ?_)
            refine v_goto hC dX4_openDispute_40 (tgt := 2) (by decide) ?_
            exact ih (i + 1) (by omega) (by omega) (fun j hj => by
              by_cases q : j = i
              · subst q; first | exact fun w => h20 w.1 | exact fun w => g29 w.2
              · exact hI j (by omega))
          · refine v_if_ne hC dX4_openDispute_32 (tgt := 37) (by decide) (fun hx => absurd hx (by decide)) (fun _ => ?_)
            refine v_iload_n hC dX4_openDispute_35 rfl rfl ?_
            refine v_iret hC dX4_openDispute_36 ?_
            exact ⟨Or.inl ⟨i, hi, ⟨h20, Classical.not_not.mp g29⟩, hI, rfl⟩, rfl⟩
  refine v_iconst (v := 0) hC dX4_openDispute_0 (by decide) ?_
  refine v_ist2 hC dX4_openDispute_1 (by decide) (kk := ?_)
  exact loop 11 0 (by omega) (by omega) (fun j hj => absurd hj (Nat.not_lt_zero j))

set_option maxHeartbeats 4000000 in
set_option maxRecDepth 100000 in
theorem c_X7_placeOf {l : Launch} {G : Gd} {M : Me} {h n : Nat} {x : Int32} (hW : Wt M) (ht : m_t M h = 8) (hn : m_i M 216 h 0 = nI n) (hb : n ≤ 8) : CQ (Qi G (fun r M2 => Fst (fun j => m_i M 21 (m_r M 217 h 0) j = x) n r ∧ M2 = M)) l G yX7_placeOf cX7_placeOf 3 ((some .int)) 0 0 0 0 [.ref h, .int x] M := by
  refine c_of ([some (.ref h), some (.int x), none] : Lo) RX7 "placeOf" (by decide) rfl rfl (Nat.le_of_ble_eq_true rfl) rfl (fun p e s m below meth c hC nw => ?_)
  have loop : ∀ (k i : Nat), i + k = 9 → i ≤ n → (∀ j, j < i → ¬ m_i M 21 (m_r M 217 h 0) j = x) → V p l e (rmk 0 0 0 0) s m ([.ref h, .int x] : List Value).toArray below meth c 3 G (MQ below (Qi G (fun r M2 => Fst (fun j => m_i M 21 (m_r M 217 h 0) j = x) n r ∧ M2 = M)) ([.ref h, .int x] : List Value).toArray s 0 0 (fr_ G)) M 0 0 2 ([some (.ref h), some (.int x), some (.int (nI i))] : Lo) [] := by
    intro k
    induction k with
    | zero => intro i e1 e2; omega
    | succ k ih =>
      intro i e1 e2 hI
      refine v_iload_n hC dX7_placeOf_2 rfl rfl ?_
      refine v_aload_n hC dX7_placeOf_3 rfl rfl ?_
      refine gf_7_4 hC ht mw_2_36 dX7_placeOf_4 ?_
      rw [hn]
      refine v_icmp_ge hC dX7_placeOf_7 (tgt := 28) (by decide) (fun h7 => ?_) (fun h7 => ?_)
      · have hi := lp_ge h7
        refine v_bipush (v := (-5)) hC dX7_placeOf_28 (by decide) ?_
        refine v_iret hC dX7_placeOf_30 ?_
        exact ⟨Or.inr ⟨fun j hj => hI j (by omega), rfl⟩, rfl⟩
      · have hi := lp_lt h7
        refine v_aload_n hC dX7_placeOf_10 rfl rfl ?_
        refine gf_7_5 hC ht (wf_217 hW ht) mw_2_38 dX7_placeOf_11 ?_
        refine v_iload_n hC dX7_placeOf_14 rfl rfl ?_
        refine v_iald 21 hC (wf_217 hW ht) (by decide) (by decide) (ix_c (wz_21 hW (wf_217 hW ht)) (by omega)) dX7_placeOf_15 ?_
        refine v_iload_n hC dX7_placeOf_16 rfl rfl ?_
        refine v_icmp_ne hC dX7_placeOf_17 (tgt := 22) (by decide) (fun h17 => ?_) (fun h17 => ?_)
        · refine v_inc2 hC dX7_placeOf_22 ((nI_succ i).symm) (by decide) (kk := ?_)
          refine v_goto hC dX7_placeOf_25 (tgt := 2) (by decide) ?_
          exact ih (i + 1) (by omega) (by omega) (fun j hj => by
            by_cases q : j = i
            · subst q; exact h17
            · exact hI j (by omega))
        · refine v_iload_n hC dX7_placeOf_20 rfl rfl ?_
          refine v_iret hC dX7_placeOf_21 ?_
          exact ⟨Or.inl ⟨i, hi, h17, hI, rfl⟩, rfl⟩
  refine v_iconst (v := 0) hC dX7_placeOf_0 (by decide) ?_
  refine v_ist2 hC dX7_placeOf_1 (by decide) (kk := ?_)
  exact loop 9 0 (by omega) (by omega) (fun j hj => absurd hj (Nat.not_lt_zero j))
