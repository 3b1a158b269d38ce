set_option maxHeartbeats 4000000 in
set_option maxRecDepth 100000 in
theorem c_X4_copyFrom0 {l : Launch} {G : Gd} {M : Me} {h g : Nat} (ht : m_t M h = 5) (hg : m_t M g = 5) (h166 : m_i M 166 g 0 = 0) (h168 : m_i M 168 g 0 = 0) : CQ (Qv G (fun M2 => Mo M M2 ∧ ∀ k a j, k ≠ 166 → k ≠ 168 → m_i M2 k a j = m_i M k a j)) l G yX4_copyFrom cX4_copyFrom 3 (none) 0 0 0 0 [.ref h, .ref g] M := by
  refine c_of ([some (.ref h), some (.ref g), none] : Lo) RX4 "copyFrom" (by decide) rfl rfl (Nat.le_of_ble_eq_true rfl) rfl (fun p e s m below meth c hC nw => ?_)
  refine v_aload_n hC dX4_copyFrom_0 rfl rfl ?_
  refine v_aload_n hC dX4_copyFrom_1 rfl rfl ?_
  refine gf_4_2 hC hg mw_2_10 dX4_copyFrom_2 ?_
  rw [h166]
  refine pf_4_2 hC ht mw_2_10 dX4_copyFrom_5 ?_
  refine v_iconst (v := 0) hC dX4_copyFrom_8 (by decide) ?_
  refine v_ist2 hC dX4_copyFrom_9 (by decide) (kk := ?_)
  refine v_iload_n hC dX4_copyFrom_10 rfl rfl ?_
  refine v_aload_n hC dX4_copyFrom_11 rfl rfl ?_
  refine gf_4_2 hC ht mw_2_10 dX4_copyFrom_12 ?_
  rw [i_se]
  refine v_icmp_ge hC dX4_copyFrom_15 (tgt := 39) (by decide) (fun _ => ?_) (fun hx => absurd hx (by decide))
  refine v_aload_n hC dX4_copyFrom_39 rfl rfl ?_
  refine v_aload_n hC dX4_copyFrom_40 rfl rfl ?_
  refine gf_4_4 hC hg mw_2_15 dX4_copyFrom_41 ?_
  rw [i_sk (by decide), h168]
  refine pf_4_4 hC ht mw_2_15 dX4_copyFrom_44 ?_
  refine v_iconst (v := 0) hC dX4_copyFrom_47 (by decide) ?_
  refine v_ist2 hC dX4_copyFrom_48 (by decide) (kk := ?_)
  refine v_iload_n hC dX4_copyFrom_49 rfl rfl ?_
  refine v_aload_n hC dX4_copyFrom_50 rfl rfl ?_
  refine gf_4_4 hC ht mw_2_15 dX4_copyFrom_51 ?_
  rw [i_se]
  refine v_icmp_ge hC dX4_copyFrom_54 (tgt := 78) (by decide) (fun _ => ?_) (fun hx => absurd hx (by decide))
  refine v_vret hC dX4_copyFrom_78 ?_
  exact ⟨(Mo.rf.si rfl).si rfl, fun k a j e1 e2 => by rw [i_sk e2, i_sk e1]⟩

set_option maxHeartbeats 4000000 in
set_option maxRecDepth 100000 in
theorem c_X7_copyFrom0 {l : Launch} {G : Gd} {M : Me} {h g : Nat} (hW : Wt M) (ht : m_t M h = 8) (hg : m_t M g = 8) (hne : h ≠ g) (h214 : m_i M 214 g 0 = 0) (h216 : m_i M 216 g 0 = 0) (h166 : m_i M 166 (m_r M 218 g 0) 0 = 0) (h168 : m_i M 168 (m_r M 218 g 0) 0 = 0) : CQ (Qv G (fun M2 => Mo M M2 ∧ m_i M2 214 g 0 = 0 ∧ m_i M2 216 g 0 = 0 ∧ ∀ k a j, k ≠ 20 → k ≠ 214 → k ≠ 216 → k ≠ 166 → k ≠ 168 → m_i M2 k a j = m_i M k a j)) l G yX7_copyFrom cX7_copyFrom 3 (none) 1 22 0 0 [.ref h, .ref g] M := by
  refine c_of ([some (.ref h), some (.ref g), none] : Lo) RX7 "copyFrom" (by decide) rfl rfl (Nat.le_of_ble_eq_true rfl) rfl (fun p e s m below meth c hC nw => ?_)
  have loop : ∀ (k i : Nat) (M1 : Me), i + k = 7 → i ≤ 6 → (Mo M M1 ∧ ∀ k a j, k ≠ 20 → m_i M1 k a j = m_i M k a j) → V p l e (rmk 1 22 0 0) s m ([.ref h, .ref g] : List Value).toArray below meth c 3 G (MQ below (Qv G (fun M2 => Mo M M2 ∧ m_i M2 214 g 0 = 0 ∧ m_i M2 216 g 0 = 0 ∧ ∀ k a j, k ≠ 20 → k ≠ 214 → k ≠ 216 → k ≠ 166 → k ≠ 168 → m_i M2 k a j = m_i M k a j)) ([.ref h, .ref g] : List Value).toArray s 0 0 (fr_ G)) M1 0 0 2 ([some (.ref h), some (.ref g), some (.int (nI i))] : Lo) [] := by
    intro k
    induction k with
    | zero => intro i M1 h1 h2; omega
    | succ k ih =>
      intro i M1 h1 h2 hI
      have hW1 : Wt M1 := hW.fx hI.1.1
      have hl : m_t M1 h = 8 := (hI.1.1.2.1 h).trans ht
      have hgl : m_t M1 g = 8 := (hI.1.1.2.1 g).trans hg
      have hrg : m_r M1 218 g 0 = m_r M 218 g 0 := hI.1.1.2.2.2 _ _ _
      refine v_iload_n hC dX7_copyFrom_2 rfl rfl ?_
      refine v_bipush (v := 6) hC dX7_copyFrom_3 (by decide) ?_
      refine v_icmp_ge hC dX7_copyFrom_5 (tgt := 26) (by decide) (fun h5 => ?_) (fun h5 => ?_)
      · refine v_aload_n hC dX7_copyFrom_26 rfl rfl ?_
        refine v_aload_n hC dX7_copyFrom_27 rfl rfl ?_
        refine gf_7_2 hC hgl mw_2_32 dX7_copyFrom_28 ?_
        rw [hI.2 214 _ _ (by decide), h214]
        refine pf_7_2 hC hl mw_2_32 dX7_copyFrom_31 ?_
        refine v_iconst (v := 0) hC dX7_copyFrom_34 (by decide) ?_
        refine v_ist2 hC dX7_copyFrom_35 (by decide) (kk := ?_)
        refine v_iload_n hC dX7_copyFrom_36 rfl rfl ?_
        refine v_aload_n hC dX7_copyFrom_37 rfl rfl ?_
        refine gf_7_2 hC hl mw_2_32 dX7_copyFrom_38 ?_
        rw [i_se]
        refine v_icmp_ge hC dX7_copyFrom_41 (tgt := 65) (by decide) (fun _ => ?_) (fun hx => absurd hx (by decide))
        refine v_aload_n hC dX7_copyFrom_65 rfl rfl ?_
        refine v_aload_n hC dX7_copyFrom_66 rfl rfl ?_
        refine gf_7_4 hC hgl mw_2_36 dX7_copyFrom_67 ?_
        rw [i_sk (by decide), hI.2 216 _ _ (by decide), h216]
        refine pf_7_4 hC hl mw_2_36 dX7_copyFrom_70 ?_
        refine v_iconst (v := 0) hC dX7_copyFrom_73 (by decide) ?_
        refine v_ist2 hC dX7_copyFrom_74 (by decide) (kk := ?_)
        refine v_iload_n hC dX7_copyFrom_75 rfl rfl ?_
        refine v_aload_n hC dX7_copyFrom_76 rfl rfl ?_
        refine gf_7_4 hC hl mw_2_36 dX7_copyFrom_77 ?_
        rw [i_se]
        refine v_icmp_ge hC dX7_copyFrom_80 (tgt := 116) (by decide) (fun _ => ?_) (fun hx => absurd hx (by decide))
        refine v_aload_n hC dX7_copyFrom_116 rfl rfl ?_
        refine gf_7_6 hC hl (wf_218 hW1 hl) mw_2_40 dX7_copyFrom_117 ?_
        refine v_aload_n hC dX7_copyFrom_120 rfl rfl ?_
        refine gf_7_6 hC hgl (wf_218 hW1 hgl) mw_2_40 dX7_copyFrom_121 ?_
        refine cVv1 hC (c_X4_copyFrom0 (wf_218 hW1 hl) (wf_218 hW1 hgl) (by first | (rw [i_sk (by decide), i_sk (by decide), hI.2 166 _ _ (by decide)]; exact (hrg ▸ h166)) | (show m_i M1 166 (m_r M1 218 g 0) 0 = 0; rw [hI.2 166 _ _ (by decide), hrg]; exact h166)) (by first | (rw [i_sk (by decide), i_sk (by decide), hI.2 168 _ _ (by decide)]; exact (hrg ▸ h168)) | (show m_i M1 168 (m_r M1 218 g 0) 0 = 0; rw [hI.2 168 _ _ (by decide), hrg]; exact h168))) yv_X4_copyFrom rfl (wf_218 hW1 hl) mw_2_122 ⟨Nat.le_of_ble_eq_true rfl, Nat.le_of_ble_eq_true rfl⟩ ⟨Nat.le_of_ble_eq_true rfl, Nat.le_of_ble_eq_true rfl⟩ (Nat.le_of_ble_eq_true rfl) dX7_copyFrom_124 (fun M126 hq124 => ?_)
        refine v_vret hC dX7_copyFrom_127 ?_
        exact ⟨((hI.1.si rfl).si rfl).tr hq124.1, by rw [hq124.2 _ _ _ (by decide) (by decide), i_sk (by decide), i_sr2 (by exact fun e => hne e.symm), hI.2 214 _ _ (by decide), h214], by rw [hq124.2 _ _ _ (by decide) (by decide), i_sr2 (by exact fun e => hne e.symm), i_sk (by decide), hI.2 216 _ _ (by decide), h216], fun k a j e1 e2 e3 e4 e5 => by rw [hq124.2 _ _ _ e4 e5, i_sk e3, i_sk e2, hI.2 _ _ _ e1]⟩
      · have hi := lp_lt (N := 6) h5
        refine v_aload_n hC dX7_copyFrom_8 rfl rfl ?_
        refine gf_7_0 hC hl (wf_212 hW1 hl) mw_2_28 dX7_copyFrom_9 ?_
        refine v_iload_n hC dX7_copyFrom_12 rfl rfl ?_
        refine v_aload_n hC dX7_copyFrom_13 rfl rfl ?_
        refine gf_7_0 hC hgl (wf_212 hW1 hgl) mw_2_28 dX7_copyFrom_14 ?_
        refine v_iload_n hC dX7_copyFrom_17 rfl rfl ?_
        refine v_iald 20 hC (wf_212 hW1 hgl) (by decide) (by decide) (ix_c (wz_20 hW1 (wf_212 hW1 hgl)) hi) dX7_copyFrom_18 ?_
        refine v_iast 20 hC (wf_212 hW1 hl) (by decide) (by decide) (ix_c (wz_20 hW1 (wf_212 hW1 hl)) hi) dX7_copyFrom_19 ?_
        refine v_inc2 hC dX7_copyFrom_20 ((nI_succ i).symm) (by decide) (kk := ?_)
        refine v_goto hC dX7_copyFrom_23 (tgt := 2) (by decide) ?_
        exact ih (i + 1) _ (by omega) (by omega) ⟨hI.1.si rfl, fun k a j e => by rw [i_sk e]; exact hI.2 k a j e⟩
  refine v_iconst (v := 0) hC dX7_copyFrom_0 (by decide) ?_
  refine v_ist2 hC dX7_copyFrom_1 (by decide) (kk := ?_)
  exact loop 7 0 M (by omega) (by omega) ⟨Mo.rf, fun _ _ _ _ => rfl⟩

set_option maxHeartbeats 4000000 in
set_option maxRecDepth 100000 in
theorem c_X2_push0 {l : Launch} {G : Gd} {M : Me} {h g : Nat} (hW : Wt M) (ht : m_t M h = 3) (hg : m_t M g = 8) (h133 : m_i M 133 h 0 = 0) (hne : m_r M 55 (m_r M 132 h 0) 0 ≠ g) (h214 : m_i M 214 g 0 = 0) (h216 : m_i M 216 g 0 = 0) (h166 : m_i M 166 (m_r M 218 g 0) 0 = 0) (h168 : m_i M 168 (m_r M 218 g 0) 0 = 0) : CQ (Qv G (fun M2 => Mo M M2 ∧ m_i M2 214 g 0 = 0 ∧ m_i M2 216 g 0 = 0)) l G yX2_push cX2_push 2 (none) 2 44 0 0 [.ref h, .ref g] M := by
  refine c_of ([some (.ref h), some (.ref g)] : Lo) RX2 "push" (by decide) rfl rfl (Nat.le_of_ble_eq_true rfl) rfl (fun p e s m below meth c hC nw => ?_)
  refine v_aload_n hC dX2_push_0 rfl rfl ?_
  refine gf_2_1 hC ht mw_2_71 dX2_push_1 ?_
  rw [h133]
  refine v_iconst (v := 4) hC dX2_push_4 (by decide) ?_
  refine v_icmp_lt hC dX2_push_5 (tgt := 12) (by decide) (fun _ => ?_) (fun hx => absurd hx (by decide))
  refine v_aload_n hC dX2_push_12 rfl rfl ?_
  refine gf_2_0 hC ht (wf_132 hW ht) mw_2_70 dX2_push_13 ?_
  refine v_aload_n hC dX2_push_16 rfl rfl ?_
  refine gf_2_1 hC ht mw_2_71 dX2_push_17 ?_
  rw [h133]
  refine v_aald 55 _ hC (wf_132 hW ht) (by decide) rfl (show ix 0 _ 0 from ix_c (j := 0) (wz_55 hW (wf_132 hW ht)) (by decide)) (we_55 hW (wf_132 hW ht) (by omega)) dX2_push_20 ?_
  refine v_aload_n hC dX2_push_21 rfl rfl ?_
  refine cVv1 hC (c_X7_copyFrom0 hW (we_55 hW (wf_132 hW ht) (by omega)) hg hne h214 h216 h166 h168) yv_X7_copyFrom rfl (we_55 hW (wf_132 hW ht) (by omega)) mw_2_106 ⟨Nat.le_of_ble_eq_true rfl, Nat.le_of_ble_eq_true rfl⟩ ⟨Nat.le_of_ble_eq_true rfl, Nat.le_of_ble_eq_true rfl⟩ (Nat.le_of_ble_eq_true rfl) dX2_push_22 (fun M24 hq22 => ?_)
  have ht2 : m_t M24 h = 3 := (hq22.1.1.2.1 h).trans ht
  refine v_aload_n hC dX2_push_25 rfl rfl ?_
  refine v_dup hC dX2_push_26 rfl ?_
  refine gf_2_1 hC ht2 mw_2_71 dX2_push_27 ?_
  refine v_iconst (v := 1) hC dX2_push_30 (by decide) ?_
  refine v_iadd hC dX2_push_31 ?_
  refine pf_2_1 hC ht2 mw_2_71 dX2_push_32 ?_
  refine v_vret hC dX2_push_35 ?_
  exact ⟨hq22.1.si rfl, by rw [i_sk (by decide)]; exact hq22.2.1, by rw [i_sk (by decide)]; exact hq22.2.2.1⟩

set_option maxHeartbeats 4000000 in
set_option maxRecDepth 100000 in
theorem c_X7_hire0 {l : Launch} {G : Gd} {M : Me} {h : Nat} {x : Int32} (hW : Wt M) (ht : m_t M h = 8) (h214 : m_i M 214 h 0 = 0) : CQ (Qi G (fun r M2 => r = 0 ∧ Mo M M2)) l G yX7_hire cX7_hire 2 ((some .int)) 1 21 0 0 [.ref h, .int x] M := by
  refine c_of ([some (.ref h), some (.int x)] : Lo) RX7 "hire" (by decide) rfl rfl (Nat.le_of_ble_eq_true rfl) rfl (fun p e s m below meth c hC nw => ?_)
  refine v_aload_n hC dX7_hire_0 rfl rfl ?_
  refine gf_7_2 hC ht mw_2_32 dX7_hire_1 ?_
  rw [h214]
  refine v_bipush (v := 6) hC dX7_hire_4 (by decide) ?_
  refine v_icmp_lt hC dX7_hire_6 (tgt := 12) (by decide) (fun _ => ?_) (fun hx => absurd hx (by decide))
  refine v_aload_n hC dX7_hire_12 rfl rfl ?_
  refine gf_7_1 hC ht (wf_213 hW ht) mw_2_30 dX7_hire_13 ?_
  refine v_aload_n hC dX7_hire_16 rfl rfl ?_
  refine gf_7_2 hC ht mw_2_32 dX7_hire_17 ?_
  rw [h214]
  refine v_aald 50 _ hC (wf_213 hW ht) (by decide) rfl (show ix 0 _ 0 from ix_c (j := 0) (wz_50 hW (wf_213 hW ht)) (by decide)) (we_50 hW (wf_213 hW ht) (by omega)) dX7_hire_20 ?_
  refine v_iload_n hC dX7_hire_21 rfl rfl ?_
  refine cVv1 hC (c_X5_reset (we_50 hW (wf_213 hW ht) (by omega))) yv_X5_reset rfl (we_50 hW (wf_213 hW ht) (by omega)) mw_2_138 ⟨Nat.le_of_ble_eq_true rfl, Nat.le_of_ble_eq_true rfl⟩ ⟨Nat.le_of_ble_eq_true rfl, Nat.le_of_ble_eq_true rfl⟩ (Nat.le_of_ble_eq_true rfl) dX7_hire_22 (fun M24 hq => ?_)
  subst hq
  refine v_aload_n hC dX7_hire_25 rfl rfl ?_
  refine v_dup hC dX7_hire_26 rfl ?_
  refine gf_7_2 hC ht mw_2_32 dX7_hire_27 ?_
  rw [show m_i (f_pR M (m_r M 50 (m_r M 213 h 0) 0) x) 214 h 0 = m_i M 214 h 0 from by unfold f_pR; rw [i_sk (by decide), i_sk (by decide), i_sk (by decide)], h214]
  refine v_iconst (v := 1) hC dX7_hire_30 (by decide) ?_
  refine v_iadd hC dX7_hire_31 ?_
  refine pf_7_2 hC ht mw_2_32 dX7_hire_32 ?_
  refine v_aload_n hC dX7_hire_35 rfl rfl ?_
  refine gf_7_2 hC ht mw_2_32 dX7_hire_36 ?_
  rw [i_se]
  refine v_iconst (v := 1) hC dX7_hire_39 (by decide) ?_
  refine v_isub hC dX7_hire_40 ?_
  refine v_iret hC dX7_hire_41 ?_
  exact ⟨by decide, (((Mo.rf.si rfl).si rfl).si rfl).si rfl⟩

set_option maxHeartbeats 4000000 in
set_option maxRecDepth 100000 in
theorem c_X7_addFile0 {l : Launch} {G : Gd} {M : Me} {h : Nat} (hW : Wt M) (ht : m_t M h = 8) (h216 : m_i M 216 h 0 = 0) : CQ (Qi G (fun r M2 => r = 0 ∧ Mo M M2)) l G yX7_addFile cX7_addFile 1 ((some .int)) 1 20 0 0 [.ref h] M := by
  refine c_of ([some (.ref h)] : Lo) RX7 "addFile" (by decide) rfl rfl (Nat.le_of_ble_eq_true rfl) rfl (fun p e s m below meth c hC nw => ?_)
  refine v_aload_n hC dX7_addFile_0 rfl rfl ?_
  refine gf_7_4 hC ht mw_2_36 dX7_addFile_1 ?_
  rw [h216]
  refine v_bipush (v := 8) hC dX7_addFile_4 (by decide) ?_
  refine v_icmp_lt hC dX7_addFile_6 (tgt := 12) (by decide) (fun _ => ?_) (fun hx => absurd hx (by decide))
  refine v_aload_n hC dX7_addFile_12 rfl rfl ?_
  refine gf_7_3 hC ht (wf_215 hW ht) mw_2_34 dX7_addFile_13 ?_
  refine v_aload_n hC dX7_addFile_16 rfl rfl ?_
  refine gf_7_4 hC ht mw_2_36 dX7_addFile_17 ?_
  rw [h216]
  refine v_aald 51 _ hC (wf_215 hW ht) (by decide) rfl (show ix 0 _ 0 from ix_c (j := 0) (wz_51 hW (wf_215 hW ht)) (by decide)) (we_51 hW (wf_215 hW ht) (by omega)) dX7_addFile_20 ?_
  refine cVv0 hC (c_X9_reset (we_51 hW (wf_215 hW ht) (by omega))) yv_X9_reset rfl (we_51 hW (wf_215 hW ht) (by omega)) mw_2_188 ⟨Nat.le_of_ble_eq_true rfl, Nat.le_of_ble_eq_true rfl⟩ ⟨Nat.le_of_ble_eq_true rfl, Nat.le_of_ble_eq_true rfl⟩ (Nat.le_of_ble_eq_true rfl) dX7_addFile_21 (fun M23 hq => ?_)
  subst hq
  refine v_aload_n hC dX7_addFile_24 rfl rfl ?_
  refine gf_7_5 hC ht (wf_217 hW ht) mw_2_38 dX7_addFile_25 ?_
  refine v_aload_n hC dX7_addFile_28 rfl rfl ?_
  refine gf_7_4 hC ht mw_2_36 dX7_addFile_29 ?_
  rw [show m_i (f_wR M (m_r M 51 (m_r M 215 h 0) 0)) 216 h 0 = m_i M 216 h 0 from by unfold f_wR; rw [i_sk (by decide), i_sk (by decide), i_sk (by decide), i_sk (by decide), i_sk (by decide), i_sk (by decide)], h216]
  refine v_aload_n hC dX7_addFile_32 rfl rfl ?_
  refine gf_7_4 hC ht mw_2_36 dX7_addFile_33 ?_
  rw [show m_i (f_wR M (m_r M 51 (m_r M 215 h 0) 0)) 216 h 0 = m_i M 216 h 0 from by unfold f_wR; rw [i_sk (by decide), i_sk (by decide), i_sk (by decide), i_sk (by decide), i_sk (by decide), i_sk (by decide)], h216]
  refine v_iast 21 hC (wf_217 hW ht) (by decide) (by decide) (show ix 0 _ 0 from ix_c (j := 0) (wz_21 hW (wf_217 hW ht)) (by decide)) dX7_addFile_36 ?_
  refine v_aload_n hC dX7_addFile_37 rfl rfl ?_
  refine v_dup hC dX7_addFile_38 rfl ?_
  refine gf_7_4 hC ht mw_2_36 dX7_addFile_39 ?_
  rw [i_sk (by decide), show m_i (f_wR M (m_r M 51 (m_r M 215 h 0) 0)) 216 h 0 = m_i M 216 h 0 from by unfold f_wR; rw [i_sk (by decide), i_sk (by decide), i_sk (by decide), i_sk (by decide), i_sk (by decide), i_sk (by decide)], h216]
  refine v_iconst (v := 1) hC dX7_addFile_42 (by decide) ?_
  refine v_iadd hC dX7_addFile_43 ?_
  refine pf_7_4 hC ht mw_2_36 dX7_addFile_44 ?_
  refine v_aload_n hC dX7_addFile_47 rfl rfl ?_
  refine gf_7_4 hC ht mw_2_36 dX7_addFile_48 ?_
  rw [i_se]
  refine v_iconst (v := 1) hC dX7_addFile_51 (by decide) ?_
  refine v_isub hC dX7_addFile_52 ?_
  refine v_iret hC dX7_addFile_53 ?_
  exact ⟨by decide, (((((((Mo.rf.si rfl).si rfl).si rfl).si rfl).si rfl).si rfl).si rfl).si rfl⟩

set_option maxHeartbeats 4000000 in
set_option maxRecDepth 100000 in
theorem c_X8_append0 {l : Launch} {G : Gd} {M : Me} {h : Nat} {x : Int32} (hW : Wt M) (ht : m_t M h = 9) (h229 : m_i M 229 h 0 = 0) (hx : narrow .char (.int x) = .int x) : CQ (Qv G (fun M2 => Mo M M2 ∧ m_i M2 229 h 0 = 1)) l G yX8_append cX8_append 2 (none) 0 0 0 0 [.ref h, .int x] M := by
  refine c_of ([some (.ref h), some (.int x)] : Lo) RX8 "append" (by decide) rfl rfl (Nat.le_of_ble_eq_true rfl) rfl (fun p e s m below meth c hC nw => ?_)
  refine v_aload_n hC dX8_append_0 rfl rfl ?_
  refine gf_8_1 hC ht mw_1_70 dX8_append_1 ?_
  rw [h229]
  refine v_bipush (v := 60) hC dX8_append_4 (by decide) ?_
  refine v_icmp_ge hC dX8_append_6 (tgt := 29) (by decide) (fun hx => absurd hx (by decide)) (fun _ => ?_)
  refine v_aload_n hC dX8_append_9 rfl rfl ?_
  refine gf_8_0 hC ht (wf_228 hW ht) mw_1_69 dX8_append_10 ?_
  refine v_aload_n hC dX8_append_13 rfl rfl ?_
  refine gf_8_1 hC ht mw_1_70 dX8_append_14 ?_
  rw [h229]
  refine v_iload_n hC dX8_append_17 rfl rfl ?_
  refine v_cast 41 hC (wf_228 hW ht) (by decide) (by decide) (show ix 0 _ 0 from ix_c (j := 0) (wz_41 hW (wf_228 hW ht)) (by decide)) hx dX8_append_18 ?_
  refine v_aload_n hC dX8_append_19 rfl rfl ?_
  refine v_dup hC dX8_append_20 rfl ?_
  refine gf_8_1 hC ht mw_1_70 dX8_append_21 ?_
  rw [i_sk (by decide), h229]
  refine v_iconst (v := 1) hC dX8_append_24 (by decide) ?_
  refine v_iadd hC dX8_append_25 ?_
  refine pf_8_1 hC ht mw_1_70 dX8_append_26 ?_
  refine v_vret hC dX8_append_29 ?_
  exact ⟨(Mo.rf.si rfl).si rfl, by rw [i_se]; rfl⟩

set_option maxHeartbeats 4000000 in
set_option maxRecDepth 100000 in
theorem c_X10_addPerson0 {l : Launch} {G : Gd} {M : Me} {h : Nat} {x : Int32} (hW : Wt M) (hs : Fs M h) : CQ (Qi G (fun r M2 => r = (if 1 ≤ x ∧ x ≤ 50 then 0 else -2) ∧ Mo M M2)) l G yX10_addPerson cX10_addPerson 2 ((some .int)) 3 65 0 0 [.ref h, .int x] M := by
  refine c_of ([some (.ref h), some (.int x)] : Lo) RX10 "addPerson" (by decide) rfl rfl (Nat.le_of_ble_eq_true rfl) rfl (fun p e s m below meth c hC nw => ?_)
  obtain ⟨ht, h214, h216, h166, h168, h133, h229, h264, hsh, hn1, hn2⟩ := hs
  refine v_iload_n hC dX10_addPerson_0 rfl rfl ?_
  refine v_iconst (v := 1) hC dX10_addPerson_1 (by decide) ?_
  refine v_icmp_lt hC dX10_addPerson_2 (tgt := 11) (by decide) (fun h2 => ?_) (fun h2 => ?_)
  · refine v_bipush (v := (-2)) hC dX10_addPerson_11 (by decide) ?_
    refine v_iret hC dX10_addPerson_13 ?_
    exact ⟨by rw [if_neg (fun q => by first | exact i_ab h2 q.1 | exact h8 q.2)], Mo.rf⟩
  · refine v_iload_n hC dX10_addPerson_5 rfl rfl ?_
    refine v_bipush (v := 50) hC dX10_addPerson_6 (by decide) ?_
    refine v_icmp_le hC dX10_addPerson_8 (tgt := 14) (by decide) (fun h8 => ?_) (fun h8 => ?_)
    · refine v_aload_n hC dX10_addPerson_14 rfl rfl ?_
      refine gf_10_1 hC ht (wf_261 hW ht) mw_2_79 dX10_addPerson_15 ?_
      refine gf_7_2 hC (wf_261 hW ht) mw_2_33 dX10_addPerson_18 ?_
      rw [h214]
      refine v_bipush (v := 6) hC dX10_addPerson_21 (by decide) ?_
      refine v_icmp_lt hC dX10_addPerson_23 (tgt := 29) (by decide) (fun _ => ?_) (fun hx => absurd hx (by decide))
      refine v_aload_n hC dX10_addPerson_29 rfl rfl ?_
      refine gf_10_3 hC ht (wf_263 hW ht) mw_2_81 dX10_addPerson_30 ?_
      refine v_aload_n hC dX10_addPerson_33 rfl rfl ?_
      refine gf_10_1 hC ht (wf_261 hW ht) mw_2_79 dX10_addPerson_34 ?_
      refine cVv1 hC (c_X2_push0 hW (wf_263 hW ht) (wf_261 hW ht) h133 hn2 h214 h216 h166 h168) yv_X2_push rfl (wf_263 hW ht) mw_2_98 ⟨Nat.le_of_ble_eq_true rfl, Nat.le_of_ble_eq_true rfl⟩ ⟨Nat.le_of_ble_eq_true rfl, Nat.le_of_ble_eq_true rfl⟩ (Nat.le_of_ble_eq_true rfl) dX10_addPerson_37 (fun M39 hq37 => ?_)
      have hW2 : Wt M39 := hW.fx hq37.1.1
      have ht2 : m_t M39 h = 11 := (hq37.1.1.2.1 h).trans ht
      have er : m_r M39 261 h 0 = m_r M 261 h 0 := hq37.1.1.2.2.2 _ _ _
      have hq37b : m_i M39 214 (m_r M39 261 h 0) 0 = 0 := by rw [er]; exact hq37.2.1
      refine v_aload_n hC dX10_addPerson_40 rfl rfl ?_
      refine gf_10_1 hC ht2 (wf_261 hW2 ht2) mw_2_79 dX10_addPerson_41 ?_
      refine v_iload_n hC dX10_addPerson_44 rfl rfl ?_
      refine cVi1 hC (c_X7_hire0 hW2 (wf_261 hW2 ht2) hq37b) yv_X7_hire rfl (wf_261 hW2 ht2) mw_2_134 ⟨Nat.le_of_ble_eq_true rfl, Nat.le_of_ble_eq_true rfl⟩ ⟨Nat.le_of_ble_eq_true rfl, Nat.le_of_ble_eq_true rfl⟩ (Nat.le_of_ble_eq_true rfl) dX10_addPerson_45 (fun r45 M47 hq => ?_)
      obtain ⟨rfl, ho⟩ := hq
      refine v_iret hC dX10_addPerson_48 ?_
      exact ⟨by rw [if_pos ⟨i_nlt h2, h8⟩], hq37.1.tr ho⟩
    · refine v_bipush (v := (-2)) hC dX10_addPerson_11 (by decide) ?_
      refine v_iret hC dX10_addPerson_13 ?_
      exact ⟨by rw [if_neg (fun q => by first | exact i_ab h2 q.1 | exact h8 q.2)], Mo.rf⟩

set_option maxHeartbeats 4000000 in
set_option maxRecDepth 100000 in
theorem c_X10_newFile0 {l : Launch} {G : Gd} {M : Me} {h : Nat} (hW : Wt M) (hs : Fs M h) : CQ (Qi G (fun r M2 => r = 0 ∧ Mo M M2)) l G yX10_newFile cX10_newFile 1 ((some .int)) 3 65 0 0 [.ref h] M := by
  refine c_of ([some (.ref h)] : Lo) RX10 "newFile" (by decide) rfl rfl (Nat.le_of_ble_eq_true rfl) rfl (fun p e s m below meth c hC nw => ?_)
  obtain ⟨ht, h214, h216, h166, h168, h133, h229, h264, hsh, hn1, hn2⟩ := hs
  refine v_aload_n hC dX10_newFile_0 rfl rfl ?_
  refine gf_10_1 hC ht (wf_261 hW ht) mw_2_79 dX10_newFile_1 ?_
  refine gf_7_4 hC (wf_261 hW ht) mw_2_37 dX10_newFile_4 ?_
  rw [h216]
  refine v_bipush (v := 8) hC dX10_newFile_7 (by decide) ?_
  refine v_icmp_lt hC dX10_newFile_9 (tgt := 15) (by decide) (fun _ => ?_) (fun hx => absurd hx (by decide))
  refine v_aload_n hC dX10_newFile_15 rfl rfl ?_
  refine gf_10_3 hC ht (wf_263 hW ht) mw_2_81 dX10_newFile_16 ?_
  refine v_aload_n hC dX10_newFile_19 rfl rfl ?_
  refine gf_10_1 hC ht (wf_261 hW ht) mw_2_79 dX10_newFile_20 ?_
  refine cVv1 hC (c_X2_push0 hW (wf_263 hW ht) (wf_261 hW ht) h133 hn2 h214 h216 h166 h168) yv_X2_push rfl (wf_263 hW ht) mw_2_98 ⟨Nat.le_of_ble_eq_true rfl, Nat.le_of_ble_eq_true rfl⟩ ⟨Nat.le_of_ble_eq_true rfl, Nat.le_of_ble_eq_true rfl⟩ (Nat.le_of_ble_eq_true rfl) dX10_newFile_23 (fun M25 hq23 => ?_)
  have hW2 : Wt M25 := hW.fx hq23.1.1
  have ht2 : m_t M25 h = 11 := (hq23.1.1.2.1 h).trans ht
  have er : m_r M25 261 h 0 = m_r M 261 h 0 := hq23.1.1.2.2.2 _ _ _
  have hq23b : m_i M25 216 (m_r M25 261 h 0) 0 = 0 := by rw [er]; exact hq23.2.2
  refine v_aload_n hC dX10_newFile_26 rfl rfl ?_
  refine gf_10_1 hC ht2 (wf_261 hW2 ht2) mw_2_79 dX10_newFile_27 ?_
  refine cVi0 hC (c_X7_addFile0 hW2 (wf_261 hW2 ht2) hq23b) yv_X7_addFile rfl (wf_261 hW2 ht2) mw_2_184 ⟨Nat.le_of_ble_eq_true rfl, Nat.le_of_ble_eq_true rfl⟩ ⟨Nat.le_of_ble_eq_true rfl, Nat.le_of_ble_eq_true rfl⟩ (Nat.le_of_ble_eq_true rfl) dX10_newFile_30 (fun r30 M32 hq => ?_)
  obtain ⟨rfl, ho⟩ := hq
  refine v_iret hC dX10_newFile_33 ?_
  exact ⟨rfl, hq23.1.tr ho⟩

set_option maxHeartbeats 4000000 in
set_option maxRecDepth 100000 in
theorem c_X10_keep0 {l : Launch} {G : Gd} {M : Me} {h : Nat} (hW : Wt M) (hs : Fs M h) : CQ (Qi G (fun r M2 => r = 0 ∧ Mo M M2)) l G yX10_keep cX10_keep 1 ((some .int)) 2 44 0 0 [.ref h] M := by
  refine c_of ([some (.ref h)] : Lo) RX10 "keep" (by decide) rfl rfl (Nat.le_of_ble_eq_true rfl) rfl (fun p e s m below meth c hC nw => ?_)
  obtain ⟨ht, h214, h216, h166, h168, h133, h229, h264, hsh, hn1, hn2⟩ := hs
  refine v_aload_n hC dX10_keep_0 rfl rfl ?_
  refine gf_10_2 hC ht (wf_262 hW ht) mw_2_80 dX10_keep_1 ?_
  refine v_aload_n hC dX10_keep_4 rfl rfl ?_
  refine gf_10_1 hC ht (wf_261 hW ht) mw_2_79 dX10_keep_5 ?_
  refine cVv1 hC (c_X7_copyFrom0 hW (wf_262 hW ht) (wf_261 hW ht) hn1 h214 h216 h166 h168) yv_X7_copyFrom rfl (wf_262 hW ht) mw_3_205 ⟨Nat.le_of_ble_eq_true rfl, Nat.le_of_ble_eq_true rfl⟩ ⟨Nat.le_of_ble_eq_true rfl, Nat.le_of_ble_eq_true rfl⟩ (Nat.le_of_ble_eq_true rfl) dX10_keep_8 (fun M10 hq8 => ?_)
  have hW2 : Wt M10 := hW.fx hq8.1.1
  have ht2 : m_t M10 h = 11 := (hq8.1.1.2.1 h).trans ht
  have er : m_r M10 261 h 0 = m_r M 261 h 0 := hq8.1.1.2.2.2 _ _ _
  have hq8b : m_i M10 216 (m_r M10 261 h 0) 0 = 0 := by rw [er]; exact hq8.2.2.1
  refine v_aload_n hC dX10_keep_11 rfl rfl ?_
  refine v_iconst (v := 1) hC dX10_keep_12 (by decide) ?_
  refine pf_10_4 hC ht2 (Or.inr rfl) mw_2_82 dX10_keep_13 ?_
  refine v_aload_n hC dX10_keep_16 rfl rfl ?_
  refine gf_10_1 hC ht2 (wf_261 hW2 ht2) mw_2_79 dX10_keep_17 ?_
  refine gf_7_4 hC (wf_261 hW2 ht2) mw_2_37 dX10_keep_20 ?_
  rw [i_sk (by decide), show m_r (s_i M10 264 h 0 1) 261 h 0 = m_r M10 261 h 0 from rfl, hq8b]
  refine v_iret hC dX10_keep_23 ?_
  exact ⟨rfl, hq8.1.si rfl⟩

set_option maxHeartbeats 4000000 in
set_option maxRecDepth 100000 in
theorem c_X10_clearText0 {l : Launch} {G : Gd} {M : Me} {h : Nat} (hW : Wt M) (hs : Fs M h) : CQ (Qi G (fun r M2 => r = 0 ∧ Mo M M2)) l G yX10_clearText cX10_clearText 2 ((some .int)) 0 0 0 0 [.ref h] M := by
  refine c_of ([some (.ref h), none] : Lo) RX10 "clearText" (by decide) rfl rfl (Nat.le_of_ble_eq_true rfl) rfl (fun p e s m below meth c hC nw => ?_)
  obtain ⟨ht, h214, h216, h166, h168, h133, h229, h264, hsh, hn1, hn2⟩ := hs
  refine v_aload_n hC dX10_clearText_0 rfl rfl ?_
  refine gf_10_0 hC ht (wf_260 hW ht) mw_2_78 dX10_clearText_1 ?_
  refine gf_8_1 hC (wf_260 hW ht) mw_1_71 dX10_clearText_4 ?_
  rw [h229]
  refine v_ist1 hC dX10_clearText_7 (by decide) (kk := ?_)
  refine v_aload_n hC dX10_clearText_8 rfl rfl ?_
  refine gf_10_0 hC ht (wf_260 hW ht) mw_2_78 dX10_clearText_9 ?_
  refine v_iconst (v := 0) hC dX10_clearText_12 (by decide) ?_
  refine pf_8_1 hC (wf_260 hW ht) mw_1_71 dX10_clearText_13 ?_
  refine v_iload_n hC dX10_clearText_16 rfl rfl ?_
  refine v_iret hC dX10_clearText_17 ?_
  exact ⟨rfl, Mo.rf.si rfl⟩

set_option maxHeartbeats 4000000 in
set_option maxRecDepth 100000 in
theorem c_X10_type0 {l : Launch} {G : Gd} {M : Me} {h : Nat} {x : Int32} (hW : Wt M) (hs : Fs M h) (hx : narrow .char (.int x) = .int x) : CQ (Qi G (fun r M2 => r = 1 ∧ Mo M M2)) l G yX10_type cX10_type 2 ((some .int)) 1 21 0 0 [.ref h, .int x] M := by
  refine c_of ([some (.ref h), some (.int x)] : Lo) RX10 "type" (by decide) rfl rfl (Nat.le_of_ble_eq_true rfl) rfl (fun p e s m below meth c hC nw => ?_)
  obtain ⟨ht, h214, h216, h166, h168, h133, h229, h264, hsh, hn1, hn2⟩ := hs
  refine v_aload_n hC dX10_type_0 rfl rfl ?_
  refine gf_10_0 hC ht (wf_260 hW ht) mw_2_78 dX10_type_1 ?_
  refine gf_8_1 hC (wf_260 hW ht) mw_1_71 dX10_type_4 ?_
  rw [h229]
  refine v_bipush (v := 60) hC dX10_type_7 (by decide) ?_
  refine v_icmp_lt hC dX10_type_9 (tgt := 15) (by decide) (fun _ => ?_) (fun hx => absurd hx (by decide))
  refine v_aload_n hC dX10_type_15 rfl rfl ?_
  refine gf_10_0 hC ht (wf_260 hW ht) mw_2_78 dX10_type_16 ?_
  refine v_iload_n hC dX10_type_19 rfl rfl ?_
  refine cVv1 hC (c_X8_append0 hW (wf_260 hW ht) h229 hx) yv_X8_append rfl (wf_260 hW ht) mw_2_172 ⟨Nat.le_of_ble_eq_true rfl, Nat.le_of_ble_eq_true rfl⟩ ⟨Nat.le_of_ble_eq_true rfl, Nat.le_of_ble_eq_true rfl⟩ (Nat.le_of_ble_eq_true rfl) dX10_type_20 (fun M22 hq20 => ?_)
  have hW2 : Wt M22 := hW.fx hq20.1.1
  have ht2 : m_t M22 h = 11 := (hq20.1.1.2.1 h).trans ht
  have er : m_r M22 260 h 0 = m_r M 260 h 0 := hq20.1.1.2.2.2 _ _ _
  have hq20b : m_i M22 229 (m_r M22 260 h 0) 0 = 1 := by rw [er]; exact hq20.2
  refine v_aload_n hC dX10_type_23 rfl rfl ?_
  refine gf_10_0 hC ht2 (wf_260 hW2 ht2) mw_2_78 dX10_type_24 ?_
  refine gf_8_1 hC (wf_260 hW2 ht2) mw_1_71 dX10_type_27 ?_
  rw [hq20b]
  refine v_iret hC dX10_type_30 ?_
  exact ⟨rfl, hq20.1⟩

set_option maxHeartbeats 4000000 in
set_option maxRecDepth 100000 in
theorem c_X10_setShare0 {l : Launch} {G : Gd} {M : Me} {h : Nat} {x y : Int32} (hW : Wt M) (hs : Fs M h) : CQ (Qi G (fun r M2 => (r = (if (0 ≤ x ∧ x < 6) ∧ 0 ≤ y ∧ y ≤ 100 then (if shr x.toNatClampNeg = y then -5 else shr x.toNatClampNeg) else -2)) ∧ Mo M M2)) l G yX10_setShare cX10_setShare 4 ((some .int)) 3 65 0 0 [.ref h, .int x, .int y] M := by
  refine c_of ([some (.ref h), some (.int x), some (.int y), none] : Lo) RX10 "setShare" (by decide) rfl rfl (Nat.le_of_ble_eq_true rfl) rfl (fun p e s m below meth c hC nw => ?_)
  obtain ⟨ht, h214, h216, h166, h168, h133, h229, h264, hsh, hn1, hn2⟩ := hs
  refine v_iload_n hC dX10_setShare_0 rfl rfl ?_
  refine cSi1 hC (c_X10_isBand ) ys_X10_isBand mw_2_165 ⟨Nat.le_of_ble_eq_true rfl, Nat.le_of_ble_eq_true rfl⟩ ⟨Nat.le_of_ble_eq_true rfl, Nat.le_of_ble_eq_true rfl⟩ (Nat.le_of_ble_eq_true rfl) dX10_setShare_1 (fun r1 M3 hq => ?_)
  obtain ⟨hm, hq2⟩ := hq
  have hm2 := hm.symm
  clear hm
  subst hm2
  obtain ⟨g1, rfl⟩ | ⟨g1, rfl⟩ := hq2
  · refine v_if_eq hC dX10_setShare_4 (tgt := 17) (by decide) (fun hx => absurd hx (by decide)) (fun _ => ?_)
    refine v_iload_n hC dX10_setShare_7 rfl rfl ?_
    refine v_if_lt hC dX10_setShare_8 (tgt := 17) (by decide) (fun h8 => ?_) (fun h8 => ?_)
    · refine v_bipush (v := (-2)) hC dX10_setShare_17 (by decide) ?_
      refine v_iret hC dX10_setShare_19 ?_
      exact ⟨by rw [if_neg (fun q => by first | exact g1 q.1 | exact i_ab h8 q.2.1 | exact h14 q.2.2)], Mo.rf⟩
    · refine v_iload_n hC dX10_setShare_11 rfl rfl ?_
      refine v_bipush (v := 100) hC dX10_setShare_12 (by decide) ?_
      refine v_icmp_le hC dX10_setShare_14 (tgt := 20) (by decide) (fun h14 => ?_) (fun h14 => ?_)
      · have hin : vp_in x 6 := vp_in_iff.mpr (by obtain ⟨q1, q2⟩ := g1; rw [Int32.le_iff_toInt_le] at q1; rw [Int32.lt_iff_toInt_lt] at q2; exact ⟨q1, q2⟩)
        have hix : ix x (m_z M (m_r M 212 (m_r M 261 h 0) 0)) x.toNatClampNeg := ix_o (by rw [wz_20 hW (wf_212 hW (wf_261 hW ht))]; exact hin)
        refine v_aload_n hC dX10_setShare_20 rfl rfl ?_
        refine gf_10_1 hC ht (wf_261 hW ht) mw_2_79 dX10_setShare_21 ?_
        refine gf_7_0 hC (wf_261 hW ht) (wf_212 hW (wf_261 hW ht)) mw_2_29 dX10_setShare_24 ?_
        refine v_iload_n hC dX10_setShare_27 rfl rfl ?_
        refine v_iald 20 hC (wf_212 hW (wf_261 hW ht)) (by decide) (by decide) hix dX10_setShare_28 ?_
        rw [hsh]
        refine v_ist3 hC dX10_setShare_29 (by decide) (kk := ?_)
        refine v_iload_n hC dX10_setShare_30 rfl rfl ?_
        refine v_iload_n hC dX10_setShare_31 rfl rfl ?_
        refine v_icmp_ne hC dX10_setShare_32 (tgt := 38) (by decide) (fun h32 => ?_) (fun h32 => ?_)
        · refine v_aload_n hC dX10_setShare_38 rfl rfl ?_
          refine gf_10_3 hC ht (wf_263 hW ht) mw_2_81 dX10_setShare_39 ?_
          refine v_aload_n hC dX10_setShare_42 rfl rfl ?_
          refine gf_10_1 hC ht (wf_261 hW ht) mw_2_79 dX10_setShare_43 ?_
          refine cVv1 hC (c_X2_push0 hW (wf_263 hW ht) (wf_261 hW ht) h133 hn2 h214 h216 h166 h168) yv_X2_push rfl (wf_263 hW ht) mw_2_98 ⟨Nat.le_of_ble_eq_true rfl, Nat.le_of_ble_eq_true rfl⟩ ⟨Nat.le_of_ble_eq_true rfl, Nat.le_of_ble_eq_true rfl⟩ (Nat.le_of_ble_eq_true rfl) dX10_setShare_46 (fun M48 hq46 => ?_)
          have hW2 : Wt M48 := hW.fx hq46.1.1
          have ht2 : m_t M48 h = 11 := (hq46.1.1.2.1 h).trans ht
          refine v_aload_n hC dX10_setShare_49 rfl rfl ?_
          refine gf_10_1 hC ht2 (wf_261 hW2 ht2) mw_2_79 dX10_setShare_50 ?_
          refine gf_7_0 hC (wf_261 hW2 ht2) (wf_212 hW2 (wf_261 hW2 ht2)) mw_2_29 dX10_setShare_53 ?_
          refine v_iload_n hC dX10_setShare_56 rfl rfl ?_
          refine v_iload_n hC dX10_setShare_57 rfl rfl ?_
          refine v_iast 20 hC (wf_212 hW2 (wf_261 hW2 ht2)) (by decide) (by decide) (by have := ix_o (i := x) (z := m_z M48 (m_r M48 212 (m_r M48 261 h 0) 0)) (by rw [wz_20 hW2 (wf_212 hW2 (wf_261 hW2 ht2))]; exact hin); exact this) dX10_setShare_58 ?_
          refine v_iload_n hC dX10_setShare_59 rfl rfl ?_
          refine v_iret hC dX10_setShare_60 ?_
          exact ⟨by rw [if_pos ⟨g1, i_nlt h8, h14⟩, if_neg h32], hq46.1.si rfl⟩
        · refine v_bipush (v := (-5)) hC dX10_setShare_35 (by decide) ?_
          refine v_iret hC dX10_setShare_37 ?_
          exact ⟨by rw [if_pos ⟨g1, i_nlt h8, h14⟩, if_pos h32], Mo.rf⟩
      · refine v_bipush (v := (-2)) hC dX10_setShare_17 (by decide) ?_
        refine v_iret hC dX10_setShare_19 ?_
        exact ⟨by rw [if_neg (fun q => by first | exact g1 q.1 | exact i_ab h8 q.2.1 | exact h14 q.2.2)], Mo.rf⟩
  · refine v_if_eq hC dX10_setShare_4 (tgt := 17) (by decide) (fun _ => ?_) (fun hx => absurd hx (by decide))
    refine v_bipush (v := (-2)) hC dX10_setShare_17 (by decide) ?_
    refine v_iret hC dX10_setShare_19 ?_
    exact ⟨by rw [if_neg (fun q => by first | exact g1 q.1 | exact i_ab h8 q.2.1 | exact h14 q.2.2)], Mo.rf⟩
