theorem Cf.si {M M2 : Me} {h n k x j : Nat} {v : Int32} (c : Cf M M2 h n) (hx : x = h ∨ (n ≤ x ∧ x < n + 591)) : Cf M (s_i M2 k x j v) h n := c.tr ⟨Nat.le_refl _, fun a _ => ⟨rfl, rfl, fun _ _ => rfl, fun q1 q2 => ⟨fun _ _ => rfl, fun k2 j2 _ _ => i_ska (by omega)⟩⟩⟩
theorem TX.si {M : Me} {n t k x j : Nat} {c : Nat → Int32} {v : Int32} (q : TX M n t c) (h1 : k ≠ 229) (h2 : k ≠ 41) : TX (s_i M k x j v) n t c := ⟨q.1, by rw [i_sk (Ne.symm h1)]; exact q.2.1, fun j hj => by rw [i_sk (Ne.symm h2)]; exact q.2.2 j hj⟩
theorem nI_p1 {n : Nat} (h : 0 < n) : nI n - 1 = nI (n - 1) := by
  cases n with
  | zero => omega
  | succ k => exact nI_pred k
/-- segments stay -/
def Sk (M M2 : Me) : Prop := ∀ a g, SgR M a g → SgR M2 a g
def hzU (u : Si) : Prop := ∀ x, x < n_e u → q_i u 12 x 0 = 0 ∨ q_i u 12 x 0 = 1
def popX (x : Xs) : Xs := (x_h x (x_n x - 1), (x_n x - 1, x_h x), x.2.2)
theorem dO_sg {M : Me} {h A a : Nat} {g : Sg} (q : SgR M a g) : SgR (f_dO M h A) a g := by
  unfold f_dO
  exact q.s55.s55.s55.s55.si (by decide) (by decide)
theorem BR.sz {M : Me} {h n m : Nat} {x : Xs} (b : BR M h n x) (hm : m ≤ x_n x) : BR (s_i M 133 (n + 201) 0 (nI m)) h n (x.1, (m, x_h x), x.2.2) := by
  obtain ⟨b1, b2, ⟨b3, b4, b5⟩, b6, b7, b8⟩ := b
  refine ⟨show BK M h n from b1, b2.out (by omega) (by decide) (by decide), ⟨Nat.le_trans hm b3, i_se, fun j hj => ?_⟩, (i_sk (by decide)).trans b6, b7, fun e => (b8 e).out (by omega) (by decide) (by decide)⟩
  have hj2 : j < x_n x := Nat.lt_of_lt_of_le hj hm
  have := b5 j hj2
  obtain ⟨i2, hi2, e2⟩ := b1.2.2.2.1 j (Nat.lt_of_lt_of_le hj2 b3)
  show CR _ (m_r M 55 (n + 202) j) _
  rw [e2] at this ⊢
  exact this.out (by omega) (by decide) (by decide)
set_option maxHeartbeats 4000000 in
set_option maxRecDepth 100000 in
theorem c_X2_dropOldest {l : Launch} {G : Gd} {M : Me} {h A : Nat} (hW : Wt M) (ht : m_t M h = 3) (hA : m_r M 132 h 0 = A) (hT : m_t M A = 55) : CQ (Qv G (fun M2 => M2 = f_dO M h A)) l G yX2_dropOldest cX2_dropOldest 3 (none) 0 0 0 0 [.ref h] M := by
  refine c_of ([some (.ref h), none, none] : Lo) RX2 "dropOldest" (by decide) rfl rfl (Nat.le_of_ble_eq_true rfl) rfl (fun p e s m below meth c hC nw => ?_)
  have w0 : m_t M (m_r M 55 A 0) = 8 := we_55 hW hT (by decide)
  have w1 : m_t M (m_r M 55 A 1) = 8 := we_55 hW hT (by decide)
  have w2 : m_t M (m_r M 55 A 2) = 8 := we_55 hW hT (by decide)
  have w3 : m_t M (m_r M 55 A 3) = 8 := we_55 hW hT (by decide)
  refine v_aload_n hC dX2_dropOldest_0 rfl rfl ?_
  refine gf_2_0 hC ht (wf_132 hW ht) mw_2_70 dX2_dropOldest_1 ?_
  rw [hA]
  refine v_iconst (v := 0) hC dX2_dropOldest_4 (by decide) ?_
  refine v_aald 55 _ hC hT (by decide) rfl (ix_q (j := 0) (wz_55 hW hT) (by decide)) w0 dX2_dropOldest_5 ?_
  refine v_ast1 hC dX2_dropOldest_6 (by decide) (kk := ?_)
  refine v_iconst (v := 1) hC dX2_dropOldest_7 (by decide) ?_
  refine v_ist2 hC dX2_dropOldest_8 (by decide) (kk := ?_)
  refine v_iload_n hC dX2_dropOldest_9 rfl rfl ?_
  refine v_iconst (v := 4) hC dX2_dropOldest_10 (by decide) ?_
  refine v_icmp_ge hC dX2_dropOldest_11 (tgt := 34) (by decide) (fun hx => absurd hx (by decide)) (fun _ => ?_)
  refine v_aload_n hC dX2_dropOldest_14 rfl rfl ?_
  refine gf_2_0 hC ht (by show m_t M (m_r M 132 h 0) = 55; rw [hA]; exact hT) mw_2_70 dX2_dropOldest_15 ?_
  erw [hA]
  refine v_iload_n hC dX2_dropOldest_18 rfl rfl ?_
  refine v_iconst (v := 1) hC dX2_dropOldest_19 (by decide) ?_
  refine v_isub hC dX2_dropOldest_20 ?_
  refine v_aload_n hC dX2_dropOldest_21 rfl rfl ?_
  refine gf_2_0 hC ht (by show m_t M (m_r M 132 h 0) = 55; rw [hA]; exact hT) mw_2_70 dX2_dropOldest_22 ?_
  erw [hA]
  refine v_iload_n hC dX2_dropOldest_25 rfl rfl ?_
  refine v_aald 55 _ hC hT (by decide) rfl (ix_q (j := 1) (wz_55 hW hT) (by decide)) (show m_t M _ = 7 + 1 from by first | exact w1 | (rw [r_sx (by omega)]; exact w2) | (rw [r_sx (by omega), r_sx (by omega)]; exact w3)) dX2_dropOldest_26 ?_
  try rw [r_sx (by omega)]
  try rw [r_sx (by omega)]
  refine v_aast 55 7 hC hT (by decide) rfl rfl (ix_q (j := 0) (wz_55 hW hT) (by decide)) (by first | exact w1 | exact w2 | exact w3) dX2_dropOldest_27 ?_
  refine v_inc2 hC dX2_dropOldest_28 (v := 2) (by decide) (by decide) (kk := ?_)
  refine v_goto hC dX2_dropOldest_31 (tgt := 9) (by decide) ?_
  refine v_iload_n hC dX2_dropOldest_9 rfl rfl ?_
  refine v_iconst (v := 4) hC dX2_dropOldest_10 (by decide) ?_
  refine v_icmp_ge hC dX2_dropOldest_11 (tgt := 34) (by decide) (fun hx => absurd hx (by decide)) (fun _ => ?_)
  refine v_aload_n hC dX2_dropOldest_14 rfl rfl ?_
  refine gf_2_0 hC ht (by show m_t M (m_r M 132 h 0) = 55; rw [hA]; exact hT) mw_2_70 dX2_dropOldest_15 ?_
  erw [hA]
  refine v_iload_n hC dX2_dropOldest_18 rfl rfl ?_
  refine v_iconst (v := 1) hC dX2_dropOldest_19 (by decide) ?_
  refine v_isub hC dX2_dropOldest_20 ?_
  refine v_aload_n hC dX2_dropOldest_21 rfl rfl ?_
  refine gf_2_0 hC ht (by show m_t M (m_r M 132 h 0) = 55; rw [hA]; exact hT) mw_2_70 dX2_dropOldest_22 ?_
  erw [hA]
  refine v_iload_n hC dX2_dropOldest_25 rfl rfl ?_
  refine v_aald 55 _ hC hT (by decide) rfl (ix_q (j := 2) (wz_55 hW hT) (by decide)) (show m_t M _ = 7 + 1 from by first | exact w1 | (rw [r_sx (by omega)]; exact w2) | (rw [r_sx (by omega), r_sx (by omega)]; exact w3)) dX2_dropOldest_26 ?_
  try rw [r_sx (by omega)]
  try rw [r_sx (by omega)]
  refine v_aast 55 7 hC hT (by decide) rfl rfl (ix_q (j := 1) (wz_55 hW hT) (by decide)) (by first | exact w1 | exact w2 | exact w3) dX2_dropOldest_27 ?_
  refine v_inc2 hC dX2_dropOldest_28 (v := 3) (by decide) (by decide) (kk := ?_)
  refine v_goto hC dX2_dropOldest_31 (tgt := 9) (by decide) ?_
  refine v_iload_n hC dX2_dropOldest_9 rfl rfl ?_
  refine v_iconst (v := 4) hC dX2_dropOldest_10 (by decide) ?_
  refine v_icmp_ge hC dX2_dropOldest_11 (tgt := 34) (by decide) (fun hx => absurd hx (by decide)) (fun _ => ?_)
  refine v_aload_n hC dX2_dropOldest_14 rfl rfl ?_
  refine gf_2_0 hC ht (by show m_t M (m_r M 132 h 0) = 55; rw [hA]; exact hT) mw_2_70 dX2_dropOldest_15 ?_
  erw [hA]
  refine v_iload_n hC dX2_dropOldest_18 rfl rfl ?_
  refine v_iconst (v := 1) hC dX2_dropOldest_19 (by decide) ?_
  refine v_isub hC dX2_dropOldest_20 ?_
  refine v_aload_n hC dX2_dropOldest_21 rfl rfl ?_
  refine gf_2_0 hC ht (by show m_t M (m_r M 132 h 0) = 55; rw [hA]; exact hT) mw_2_70 dX2_dropOldest_22 ?_
  erw [hA]
  refine v_iload_n hC dX2_dropOldest_25 rfl rfl ?_
  refine v_aald 55 _ hC hT (by decide) rfl (ix_q (j := 3) (wz_55 hW hT) (by decide)) (show m_t M _ = 7 + 1 from by first | exact w1 | (rw [r_sx (by omega)]; exact w2) | (rw [r_sx (by omega), r_sx (by omega)]; exact w3)) dX2_dropOldest_26 ?_
  try rw [r_sx (by omega)]
  try rw [r_sx (by omega)]
  refine v_aast 55 7 hC hT (by decide) rfl rfl (ix_q (j := 2) (wz_55 hW hT) (by decide)) (by first | exact w1 | exact w2 | exact w3) dX2_dropOldest_27 ?_
  refine v_inc2 hC dX2_dropOldest_28 (v := 4) (by decide) (by decide) (kk := ?_)
  refine v_goto hC dX2_dropOldest_31 (tgt := 9) (by decide) ?_
  refine v_iload_n hC dX2_dropOldest_9 rfl rfl ?_
  refine v_iconst (v := 4) hC dX2_dropOldest_10 (by decide) ?_
  refine v_icmp_ge hC dX2_dropOldest_11 (tgt := 34) (by decide) (fun _ => ?_) (fun hx => absurd hx (by decide))
  refine v_aload_n hC dX2_dropOldest_34 rfl rfl ?_
  refine gf_2_0 hC ht (by show m_t M (m_r M 132 h 0) = 55; rw [hA]; exact hT) mw_2_70 dX2_dropOldest_35 ?_
  erw [hA]
  refine v_iconst (v := 3) hC dX2_dropOldest_38 (by decide) ?_
  refine v_aload_n hC dX2_dropOldest_39 rfl rfl ?_
  refine v_aast 55 7 hC hT (by decide) rfl rfl (ix_q (j := 3) (wz_55 hW hT) (by decide)) w0 dX2_dropOldest_40 ?_
  refine v_aload_n hC dX2_dropOldest_41 rfl rfl ?_
  refine v_iconst (v := 3) hC dX2_dropOldest_42 (by decide) ?_
  refine pf_2_1 hC ht mw_2_71 dX2_dropOldest_43 ?_
  refine v_vret hC dX2_dropOldest_46 ?_
  exact rfl

set_option maxHeartbeats 4000000 in
set_option maxRecDepth 100000 in
theorem c_X2_push {l : Launch} {G : Gd} {M : Me} {h n : Nat} {x : Xs} (hW : Wt M) (hB : BR M h n x) (hz : hzU (x_u x)) : CQ (Qv G (fun M2 => BR M2 h n (pushX x) ∧ Cf M M2 h n ∧ Wt M2 ∧ (∀ t c, TX M n t c → TX M2 n t c) ∧ Tx M M2 ∧ Sk M M2)) l G yX2_push cX2_push 2 (none) 3 67 0 0 [.ref (n + 201), .ref (n + 7)] M := by
  refine c_of ([some (.ref (n + 201)), some (.ref (n + 7))] : Lo) RX2 "push" (by decide) rfl rfl (Nat.le_of_ble_eq_true rfl) rfl (fun p e s m below meth c hC nw => ?_)
  have hb4 := hB.2.2.1.1
  refine v_aload_n hC dX2_push_0 rfl rfl ?_
  refine gf_2_1 hC hB.1.1.2.2.2.1 mw_2_71 dX2_push_1 ?_
  rw [hB.2.2.1.2.1]
  refine v_iconst (v := 4) hC dX2_push_4 (by decide) ?_
  refine v_icmp_lt hC dX2_push_5 (tgt := 12) (by decide) (fun h5 => ?_) (fun h5 => ?_)
  · have hk : x_n x < 4 := (nI_ltI (by omega) (by decide)).mp (show nI (x_n x) < nI 4 from h5)
    have hfin : pushX x = pushX0 x := if_pos hk
    have hcf : Cf M M h n := Cf.rf
    have htx : ∀ t c, TX M n t c → TX M n t c := fun _ _ q => q
    have hsk : Sk M M := fun _ _ q => q
    obtain ⟨i0, hi0, ei0⟩ := hB.1.2.2.2.1 _ hk
    have hnn := hB.1.1.2.2.2.2.2.2
    have hhn := hB.1.1.2.2.2.2.2.1
    have hS0 := (hB.1.2.2.1.2.2 i0 hi0).1.1
    refine v_aload_n hC dX2_push_12 rfl rfl ?_
    refine gf_2_0 hC hB.1.1.2.2.2.1 (wf_132 hW hB.1.1.2.2.2.1) mw_2_70 dX2_push_13 ?_
    rw [hB.1.2.1.2.2.2.2.2]
    refine v_aload_n hC dX2_push_16 rfl rfl ?_
    refine gf_2_1 hC hB.1.1.2.2.2.1 mw_2_71 dX2_push_17 ?_
    rw [hB.2.2.1.2.1]
    refine v_aald 55 _ hC hB.1.1.2.2.2.2.1 (by decide) rfl (ix_c (wz_55 hW hB.1.1.2.2.2.2.1) hk) (by rw [ei0]; exact hS0) dX2_push_20 ?_
    rw [ei0]
    refine v_aload_n hC dX2_push_21 rfl rfl ?_
    refine cVv1 hC (c_X7_copyFrom hW hS0 hB.1.2.2.1.1.1.1 (hB.1.2.2.1.2.2 i0 hi0) hB.2.1 hz (by omega) (by omega)) yv_X7_copyFrom rfl hS0 mw_2_106 ⟨Nat.le_of_ble_eq_true rfl, Nat.le_of_ble_eq_true rfl⟩ ⟨Nat.le_of_ble_eq_true rfl, Nat.le_of_ble_eq_true rfl⟩ (Nat.le_of_ble_eq_true rfl) dX2_push_22 (fun M24 hq => ?_)
    obtain ⟨hu, hr, hW2, hx2⟩ := hq
    have hkt : Kt _ M24 := fun a _ => hx2.2 a
    refine v_aload_n hC dX2_push_25 rfl rfl ?_
    refine v_dup hC dX2_push_26 rfl ?_
    refine gf_2_1 hC (hkt.u hB.1.1.2.2.2.1) mw_2_71 dX2_push_27 ?_
    rw [(hr.2 (n + 201) (by omega)).2.2.2.2 133 0 (Or.inr ⟨by decide, by omega⟩), hB.2.2.1.2.1]
    refine v_iconst (v := 1) hC dX2_push_30 (by decide) ?_
    refine v_iadd hC dX2_push_31 ?_
    rw [← nI_succ]
    refine pf_2_1 hC (hkt.u hB.1.1.2.2.2.1) mw_2_71 dX2_push_32 ?_
    refine v_vret hC dX2_push_35 ?_
    have hr' := hr
    rw [← ei0] at hr' hu
    exact ⟨by rw [hfin]; exact hB.push nw hW hk hr' hu, (hcf.tr (hr.cf (by omega) (by omega))).si (Or.inr ⟨by omega, by omega⟩), hW2, fun t c q => ((htx t c q).rg hnn hr (by omega)).si (by decide) (by decide), hx2, fun a g q => ((hsk a g q).rg nw hW hr).si (by decide) (by decide)⟩
  · have hk4 : x_n x = 4 := by
      have q : ¬ x_n x < 4 := fun q => h5 (show nI (x_n x) < nI 4 from nI_lt q (by decide))
      omega
    refine v_aload_n hC dX2_push_8 rfl rfl ?_
    refine cVv0 hC (c_X2_dropOldest hW hB.1.1.2.2.2.1 hB.1.2.1.2.2.2.2.2 hB.1.1.2.2.2.2.1) yv_X2_dropOldest rfl hB.1.1.2.2.2.1 mw_2_102 ⟨Nat.le_of_ble_eq_true rfl, Nat.le_of_ble_eq_true rfl⟩ ⟨Nat.le_of_ble_eq_true rfl, Nat.le_of_ble_eq_true rfl⟩ (Nat.le_of_ble_eq_true rfl) dX2_push_9 (fun M11 hq => ?_)
    subst hq
    have hfin : pushX x = pushX0 (dropX x) := if_neg (by omega)
    have hcf : Cf M (f_dO M (n + 201) (n + 202)) h n := Cf.dO
    have htx : ∀ t c, TX M n t c → TX (f_dO M (n + 201) (n + 202)) n t c := fun _ _ q => q.dO
    have hsk : Sk M (f_dO M (n + 201) (n + 202)) := fun a g q => dO_sg q
    have hW := dO_wt (h := n + 201) hW hB.1.1.2.2.2.2.1
    have nw : Nw (f_dO M (n + 201) (n + 202)) := nw
    have hB := hB.drop hk4
    have hk : x_n (dropX x) < 4 := by show 3 < 4; decide
    obtain ⟨i0, hi0, ei0⟩ := hB.1.2.2.2.1 _ hk
    have hnn := hB.1.1.2.2.2.2.2.2
    have hhn := hB.1.1.2.2.2.2.2.1
    have hS0 := (hB.1.2.2.1.2.2 i0 hi0).1.1
    refine v_aload_n hC dX2_push_12 rfl rfl ?_
    refine gf_2_0 hC hB.1.1.2.2.2.1 (wf_132 hW hB.1.1.2.2.2.1) mw_2_70 dX2_push_13 ?_
    rw [hB.1.2.1.2.2.2.2.2]
    refine v_aload_n hC dX2_push_16 rfl rfl ?_
    refine gf_2_1 hC hB.1.1.2.2.2.1 mw_2_71 dX2_push_17 ?_
    rw [hB.2.2.1.2.1]
    refine v_aald 55 _ hC hB.1.1.2.2.2.2.1 (by decide) rfl (ix_c (wz_55 hW hB.1.1.2.2.2.2.1) hk) (by rw [ei0]; exact hS0) dX2_push_20 ?_
    rw [ei0]
    refine v_aload_n hC dX2_push_21 rfl rfl ?_
    refine cVv1 hC (c_X7_copyFrom hW hS0 hB.1.2.2.1.1.1.1 (hB.1.2.2.1.2.2 i0 hi0) hB.2.1 hz (by omega) (by omega)) yv_X7_copyFrom rfl hS0 mw_2_106 ⟨Nat.le_of_ble_eq_true rfl, Nat.le_of_ble_eq_true rfl⟩ ⟨Nat.le_of_ble_eq_true rfl, Nat.le_of_ble_eq_true rfl⟩ (Nat.le_of_ble_eq_true rfl) dX2_push_22 (fun M24 hq => ?_)
    obtain ⟨hu, hr, hW2, hx2⟩ := hq
    have hkt : Kt _ M24 := fun a _ => hx2.2 a
    refine v_aload_n hC dX2_push_25 rfl rfl ?_
    refine v_dup hC dX2_push_26 rfl ?_
    refine gf_2_1 hC (hkt.u hB.1.1.2.2.2.1) mw_2_71 dX2_push_27 ?_
    rw [(hr.2 (n + 201) (by omega)).2.2.2.2 133 0 (Or.inr ⟨by decide, by omega⟩), hB.2.2.1.2.1]
    refine v_iconst (v := 1) hC dX2_push_30 (by decide) ?_
    refine v_iadd hC dX2_push_31 ?_
    rw [← nI_succ]
    refine pf_2_1 hC (hkt.u hB.1.1.2.2.2.1) mw_2_71 dX2_push_32 ?_
    refine v_vret hC dX2_push_35 ?_
    have hr' := hr
    rw [← ei0] at hr' hu
    exact ⟨by rw [hfin]; exact hB.push nw hW hk hr' hu, (hcf.tr (hr.cf (by omega) (by omega))).si (Or.inr ⟨by omega, by omega⟩), hW2, fun t c q => ((htx t c q).rg hnn hr (by omega)).si (by decide) (by decide), hx2, fun a g q => ((hsk a g q).rg nw hW hr).si (by decide) (by decide)⟩

set_option maxHeartbeats 4000000 in
set_option maxRecDepth 100000 in
theorem c_X2_pop {l : Launch} {G : Gd} {M : Me} {h n : Nat} {x : Xs} (hW : Wt M) (hB : BR M h n x) (h0 : 0 < x_n x) (hz : hzU (x_h x (x_n x - 1))) : CQ (Qv G (fun M2 => BR M2 h n (popX x) ∧ Cf M M2 h n ∧ Wt M2 ∧ (∀ t c, TX M n t c → TX M2 n t c) ∧ Tx M M2)) l G yX2_pop cX2_pop 2 (none) 3 67 0 0 [.ref (n + 201), .ref (n + 7)] M := by
  refine c_of ([some (.ref (n + 201)), some (.ref (n + 7))] : Lo) RX2 "pop" (by decide) rfl rfl (Nat.le_of_ble_eq_true rfl) rfl (fun p e s m below meth c hC nw => ?_)
  have hb4 := hB.2.2.1.1
  have hk : x_n x - 1 < 4 := by omega
  obtain ⟨i0, hi0, ei0⟩ := hB.1.2.2.2.1 _ hk
  have hnn := hB.1.1.2.2.2.2.2.2
  have hhn := hB.1.1.2.2.2.2.2.1
  have hS0 := (hB.1.2.2.1.2.2 i0 hi0).1.1
  have hB1 := hB.sz (m := x_n x - 1) (by omega)
  have nw1 : Nw (s_i M 133 (n + 201) 0 (nI (x_n x - 1))) := nw
  have hW1 : Wt (s_i M 133 (n + 201) 0 (nI (x_n x - 1))) := hW
  have hc0 := hB.2.2.1.2.2 (x_n x - 1) (by omega)
  rw [ei0] at hc0
  refine v_aload_n hC dX2_pop_0 rfl rfl ?_
  refine gf_2_1 hC hB.1.1.2.2.2.1 mw_2_71 dX2_pop_1 ?_
  rw [hB.2.2.1.2.1]
  refine v_if_le hC dX2_pop_4 (tgt := 30) (by decide) (fun h4 => absurd h4 (nI_nle h0 (by omega))) (fun h4 => ?_)
  refine v_aload_n hC dX2_pop_7 rfl rfl ?_
  refine v_dup hC dX2_pop_8 rfl ?_
  refine gf_2_1 hC hB.1.1.2.2.2.1 mw_2_71 dX2_pop_9 ?_
  rw [hB.2.2.1.2.1]
  refine v_iconst (v := 1) hC dX2_pop_12 (by decide) ?_
  refine v_isub hC dX2_pop_13 ?_
  rw [nI_p1 h0]
  refine pf_2_1 hC hB.1.1.2.2.2.1 mw_2_71 dX2_pop_14 ?_
  refine v_aload_n hC dX2_pop_17 rfl rfl ?_
  refine v_aload_n hC dX2_pop_18 rfl rfl ?_
  refine gf_2_0 hC hB.1.1.2.2.2.1 (wf_132 hW hB.1.1.2.2.2.1) mw_2_70 dX2_pop_19 ?_
  erw [hB.1.2.1.2.2.2.2.2]
  refine v_aload_n hC dX2_pop_22 rfl rfl ?_
  refine gf_2_1 hC hB.1.1.2.2.2.1 mw_2_71 dX2_pop_23 ?_
  rw [i_se]
  refine v_aald 55 _ hC hB.1.1.2.2.2.2.1 (by decide) rfl (ix_c (wz_55 hW hB.1.1.2.2.2.2.1) hk) (by show m_t M (m_r M 55 (n + 202) _) = 8; rw [ei0]; exact hS0) dX2_pop_26 ?_
  erw [ei0]
  refine cVv1 hC (c_X7_copyFrom hW1 hB.1.2.2.1.1.1.1 hS0 hB1.1.2.2.1.1 (hc0.out (by omega) (by decide) (by decide)) hz (by show n + (203 + 97 * i0) + 97 ≤ m_n M; omega) (by omega)) yv_X7_copyFrom rfl hB.1.2.2.1.1.1.1 mw_2_106 ⟨Nat.le_of_ble_eq_true rfl, Nat.le_of_ble_eq_true rfl⟩ ⟨Nat.le_of_ble_eq_true rfl, Nat.le_of_ble_eq_true rfl⟩ (Nat.le_of_ble_eq_true rfl) dX2_pop_27 (fun M29 hq => ?_)
  obtain ⟨hu, hr, hW2, hx2⟩ := hq
  refine v_vret hC dX2_pop_30 ?_
  exact ⟨hB1.now nw1 hW1 hr hu, (Cf.rf.si (Or.inr ⟨by omega, by omega⟩)).tr (hr.cf (by omega) (by omega)), hW2, fun t c q => (q.si (by decide) (by decide)).rg hnn hr (by omega), hx2⟩
