theorem pS_cnt {f : Nat → Int32} : ∀ {n : Nat} {q : Pt}, pS f n = some q → n ≤ 60 → q.1.length + 1 ≤ 61 := by
  have h : ∀ {n : Nat} {q : Pt}, pS f n = some q → q.1.length ≤ n := by
    intro n
    induction n with
    | zero => intro q h; cases h; exact Nat.le_refl _
    | succ n ih =>
      intro q h
      cases hn : pS f n with
      | none => rw [pS, hn] at h; cases h
      | some p =>
        have e := (pS_s hn).symm.trans h
        have := ih hn
        unfold pst at e
        split at e
        · cases e; show p.1.length ≤ _; omega
        · split at e
          · cases e; show p.1.length ≤ _; omega
          · split at e
            · cases e; simp; omega
            · cases e
  intro n q hq hn
  have := h hq
  omega
theorem BR.txt {M : Me} {h n k a j : Nat} {v : Int32} {x : Xs} (b : BR M h n x) (ha : a = n + 5 ∨ a = n + 6) (hk : k = 41 ∨ k = 229) : BR (s_i M k a j v) h n x := by
  obtain ⟨b1, b2, ⟨b3, b4, b5⟩, b6, b7, b8⟩ := b
  refine ⟨show BK M h n from b1, b2.out (by omega) (by omega) (by omega), ⟨b3, by rw [i_sk (by omega)]; exact b4, fun j2 hj => ?_⟩, by rw [i_sk (by omega)]; exact b6, b7, fun e => (b8 e).out (by omega) (by omega) (by omega)⟩
  have := b5 j2 hj
  obtain ⟨i2, hi2, e2⟩ := b1.2.2.2.1 j2 (Nat.lt_of_lt_of_le hj b3)
  show CR _ (m_r M 55 (n + 202) j2) _
  rw [e2] at this ⊢
  exact this.out (by omega) (by omega) (by omega)
theorem Ns.cf {M M2 : Me} {r h n : Nat} {g : Sg} (x : Ns M r M2 g) : Cf M M2 h n := ⟨by rw [x.1]; omega, fun a ha => ⟨(x.2.1 a ha).1, (x.2.1 a ha).2.1, (x.2.1 a ha).2.2.2.1, fun _ _ => ⟨(x.2.1 a ha).2.2.2.2, fun k j _ _ => (x.2.1 a ha).2.2.1 k j⟩⟩⟩
theorem BR.ns {M M2 : Me} {r h n : Nat} {g : Sg} {x : Xs} (b : BR M h n x) (nw : Nw M) (hW : Wt M) (y : Ns M r M2 g) : BR M2 h n x := by
  obtain ⟨b1, b2, ⟨b3, b4, b5⟩, b6, b7, b8⟩ := b
  have hn := b1.1.2.2.2.2.2.2
  have hh := b1.1.2.2.2.2.2.1
  refine ⟨b1.rg (S := n + 203) y.rg (Or.inr (Nat.le_refl _)), b2.ns nw hW (by omega) y, ⟨b3, by rw [(y.2.1 (n + 201) (by omega)).2.2.1]; exact b4, fun j hj => ?_⟩, by rw [(y.2.1 h (by omega)).2.2.1]; exact b6, b7, fun e => (b8 e).ns nw hW (by omega) y⟩
  have := b5 j hj
  obtain ⟨i2, hi2, e2⟩ := b1.2.2.2.1 j (Nat.lt_of_lt_of_le hj b3)
  rw [(y.2.1 (n + 202) (by omega)).2.2.2.2]
  rw [e2] at this ⊢
  exact this.ns nw hW (by omega) y
theorem flt_le {f : Nat → Int32} {t i : Nat} (h : fltF f t = some i) : i ≤ t := by
  unfold fltF at h
  cases w : fsN (fun i => (pS f (i + 1)).isNone) t with
  | some k => rw [w] at h; cases h; exact Nat.le_of_lt (fsN_i w).1
  | none =>
    rw [w] at h
    cases z : pS f t with
    | none => rw [z] at h; cases h
    | some q =>
      obtain ⟨a, b, d⟩ := q
      rw [z] at h
      cases d with
      | nil => cases h; exact Nat.le_refl _
      | cons y d => cases h
theorem ne1 {n : Nat} (h : n < 2 ^ 31) : ¬ nI n = -1 := fun q => by
  have w := congrArg Int32.toInt q
  rw [nI_toInt h] at w
  rw [show (-1 : Int32).toInt = -1 from rfl] at w
  omega
def ty_t (t : Nat) : Nat := if t < 60 then t + 1 else t
def ty_c (t : Nat) (f : Nat → Int32) (y : Int32) : Nat → Int32 := if t < 60 then (fun j => if j = t then y else f j) else f
set_option maxHeartbeats 4000000 in
set_option maxRecDepth 100000 in
theorem c_X8_append {l : Launch} {G : Gd} {M : Me} {n t : Nat} {tc : Nat → Int32} {y : Int32} (hW : Wt M) (ht : m_t M (n + 5) = 9) (hch : m_r M 228 (n + 5) 0 = n + 6) (hc : m_t M (n + 6) = 41) (hT : TX M n t tc) (h6 : t < 60) (hnar : narrow .char (.int y) = .int y) : CQ (Qv G (fun M2 => M2 = s_i (s_i M 41 (n + 6) t y) 229 (n + 5) 0 (nI (t + 1)))) l G yX8_append cX8_append 2 (none) 0 0 0 0 [.ref (n + 5), .int y] M := by
  refine c_of ([some (.ref (n + 5)), some (.int y)] : Lo) RX8 "append" (by decide) rfl rfl (Nat.le_of_ble_eq_true rfl) rfl (fun p e s m below meth c hC nw => ?_)
  have h6x := h6
  refine v_aload_n hC dX8_append_0 rfl rfl ?_
  refine gf_8_1 hC ht mw_1_70 dX8_append_1 ?_
  rw [hT.2.1]
  refine v_bipush (v := 60) hC dX8_append_4 (by decide) ?_
  refine v_icmp_ge hC dX8_append_6 (tgt := 29) (by decide) (fun h6 => absurd (nI_lt (a := t) (b := 60) h6x (by decide)) (fun q => i_ab q h6)) (fun h6 => ?_)
  refine v_aload_n hC dX8_append_9 rfl rfl ?_
  refine gf_8_0 hC ht (by rw [hch]; exact hc) mw_1_69 dX8_append_10 ?_
  rw [hch]
  refine v_aload_n hC dX8_append_13 rfl rfl ?_
  refine gf_8_1 hC ht mw_1_70 dX8_append_14 ?_
  rw [hT.2.1]
  refine v_iload_n hC dX8_append_17 rfl rfl ?_
  refine v_cast 41 hC hc (by decide) (by decide) (ix_c (wz_41 hW hc) h6x) hnar dX8_append_18 ?_
  refine v_aload_n hC dX8_append_19 rfl rfl ?_
  refine v_dup hC dX8_append_20 rfl ?_
  refine gf_8_1 hC ht mw_1_70 dX8_append_21 ?_
  erw [hT.2.1]
  refine v_iconst (v := 1) hC dX8_append_24 (by decide) ?_
  refine v_iadd hC dX8_append_25 ?_
  rw [← nI_succ]
  refine pf_8_1 hC ht mw_1_70 dX8_append_26 ?_
  refine v_vret hC dX8_append_29 ?_
  exact rfl

set_option maxHeartbeats 4000000 in
set_option maxRecDepth 100000 in
theorem c_X10_type {l : Launch} {G : Gd} {M : Me} {h n t : Nat} {tc : Nat → Int32} {x : Xs} {y : Int32} (hW : Wt M) (hB : BR M h n x) (hT : TX M n t tc) (hnar : narrow .char (.int y) = .int y) : CQ (Qi G (fun r M2 => r = (if t < 60 then nI (t + 1) else -3) ∧ BR M2 h n x ∧ TX M2 n (ty_t t) (ty_c t tc y) ∧ Cf M M2 h n ∧ Wt M2)) l G yX10_type cX10_type 2 ((some .int)) 1 21 0 0 [.ref h, .int y] M := by
  refine c_of ([some (.ref h), some (.int y)] : Lo) RX10 "type" (by decide) rfl rfl (Nat.le_of_ble_eq_true rfl) rfl (fun p e s m below meth c hC nw => ?_)
  have hR := hB.2.1
  have hnn := hB.1.1.2.2.2.2.2.2
  have hu := hR.2.1
  have u1 := hu.1
  have u2 := hu.2.1
  have u3 := hu.2.2.1
  have u4 := hu.2.2.2.1
  have hb := hT.1
  refine v_aload_n hC dX10_type_0 rfl rfl ?_
  refine gf_10_0 hC hB.1.1.1 (wf_260 hW hB.1.1.1) mw_2_78 dX10_type_1 ?_
  first | rw [hB.1.2.1.1] | erw [hB.1.2.1.1]
  refine gf_8_1 hC hB.1.1.2.1 mw_1_71 dX10_type_4 ?_
  rw [hT.2.1]
  refine v_bipush (v := 60) hC dX10_type_7 (by decide) ?_
  refine v_icmp_lt hC dX10_type_9 (tgt := 15) (by decide) (fun h9 => ?_) (fun h9 => ?_)
  · have h60 : t < 60 := lp_gt (i := 60) h9
    refine v_aload_n hC dX10_type_15 rfl rfl ?_
    refine gf_10_0 hC hB.1.1.1 (wf_260 hW hB.1.1.1) mw_2_78 dX10_type_16 ?_
    first | rw [hB.1.2.1.1] | erw [hB.1.2.1.1]
    refine v_iload_n hC dX10_type_19 rfl rfl ?_
    refine cVv1 hC (c_X8_append hW hB.1.1.2.1 hB.1.2.1.2.2.2.2.1 hB.1.1.2.2.1 hT h60 hnar) yv_X8_append rfl hB.1.1.2.1 mw_2_172 ⟨Nat.le_of_ble_eq_true rfl, Nat.le_of_ble_eq_true rfl⟩ ⟨Nat.le_of_ble_eq_true rfl, Nat.le_of_ble_eq_true rfl⟩ (Nat.le_of_ble_eq_true rfl) dX10_type_20 (fun M22 hq => ?_)
    subst hq
    refine v_aload_n hC dX10_type_23 rfl rfl ?_
    refine gf_10_0 hC hB.1.1.1 (wf_260 hW hB.1.1.1) mw_2_78 dX10_type_24 ?_
    first | rw [hB.1.2.1.1] | erw [hB.1.2.1.1]
    refine gf_8_1 hC hB.1.1.2.1 mw_1_71 dX10_type_27 ?_
    rw [i_se]
    refine v_iret hC dX10_type_30 ?_
    rw [if_pos h60, ty_t, if_pos h60, ty_c, if_pos h60]
    refine ⟨rfl, (hB.txt (Or.inr rfl) (Or.inl rfl)).txt (Or.inl rfl) (Or.inr rfl), ⟨h60, i_se, fun j hj => ?_⟩, (Cf.rf.si (Or.inr ⟨by omega, by omega⟩)).si (Or.inr ⟨by omega, by omega⟩), hW⟩
    rw [i_sk (by decide), i_sj]
    by_cases w : j = t
    · rw [if_pos w]; exact (if_pos w).symm
    · rw [if_neg w]; exact (hT.2.2 j (by omega)).trans (if_neg w).symm
  · have h60 : ¬ t < 60 := fun q => h9 (nI_lt (a := t) (b := 60) q (by decide))
    refine v_bipush (v := (-3)) hC dX10_type_12 (by decide) ?_
    refine v_iret hC dX10_type_14 ?_
    rw [if_neg h60, ty_t, if_neg h60, ty_c, if_neg h60]; exact ⟨rfl, hB, hT, Cf.rf, hW⟩

set_option maxHeartbeats 4000000 in
set_option maxRecDepth 100000 in
theorem c_X10_clearText {l : Launch} {G : Gd} {M : Me} {h n t : Nat} {tc : Nat → Int32} {x : Xs} (hW : Wt M) (hB : BR M h n x) (hT : TX M n t tc) : CQ (Qi G (fun r M2 => r = nI t ∧ BR M2 h n x ∧ TX M2 n 0 tc ∧ Cf M M2 h n ∧ Wt M2)) l G yX10_clearText cX10_clearText 2 ((some .int)) 0 0 0 0 [.ref h] M := by
  refine c_of ([some (.ref h), none] : Lo) RX10 "clearText" (by decide) rfl rfl (Nat.le_of_ble_eq_true rfl) rfl (fun p e s m below meth c hC nw => ?_)
  have hR := hB.2.1
  have hnn := hB.1.1.2.2.2.2.2.2
  have hu := hR.2.1
  have u1 := hu.1
  have u2 := hu.2.1
  have u3 := hu.2.2.1
  have u4 := hu.2.2.2.1
  refine v_aload_n hC dX10_clearText_0 rfl rfl ?_
  refine gf_10_0 hC hB.1.1.1 (wf_260 hW hB.1.1.1) mw_2_78 dX10_clearText_1 ?_
  first | rw [hB.1.2.1.1] | erw [hB.1.2.1.1]
  refine gf_8_1 hC hB.1.1.2.1 mw_1_71 dX10_clearText_4 ?_
  rw [hT.2.1]
  refine v_ist1 hC dX10_clearText_7 (by decide) (kk := ?_)
  refine v_aload_n hC dX10_clearText_8 rfl rfl ?_
  refine gf_10_0 hC hB.1.1.1 (wf_260 hW hB.1.1.1) mw_2_78 dX10_clearText_9 ?_
  first | rw [hB.1.2.1.1] | erw [hB.1.2.1.1]
  refine v_iconst (v := 0) hC dX10_clearText_12 (by decide) ?_
  refine pf_8_1 hC hB.1.1.2.1 mw_1_71 dX10_clearText_13 ?_
  refine v_iload_n hC dX10_clearText_16 rfl rfl ?_
  refine v_iret hC dX10_clearText_17 ?_
  exact ⟨rfl, hB.txt (Or.inl rfl) (Or.inr rfl), ⟨Nat.zero_le _, i_se, fun j hj => absurd hj (Nat.not_lt_zero j)⟩, Cf.rf.si (Or.inr ⟨by omega, by omega⟩), hW⟩

set_option maxHeartbeats 4000000 in
set_option maxRecDepth 100000 in
theorem c_X10_readSegments {l : Launch} {G : Gd} {M : Me} {h n : Nat} {x : Xs} {t : Nat} {tc : Nat → Int32} {y : Int32} (hW : Wt M) (hB : BR M h n x) (hz : hzU (x_u x)) (hT : TX M n t tc) : CQ (Qi G (fun r M2 => r = (d_readSegments (x_u x) t tc y).1 ∧ BR M2 h n (acX x (d_readSegments (x_u x) t tc y).2) ∧ Tk M M2 n ∧ Cf M M2 h n ∧ Wt M2)) l G yX10_readSegments cX10_readSegments 4 ((some .int)) 4 93 36 852 [.ref h, .int y] M := by
  refine c_of ([some (.ref h), some (.int y), none, none] : Lo) RX10 "readSegments" (by decide) rfl rfl (Nat.le_of_ble_eq_true rfl) rfl (fun p e s m below meth c hC nw => ?_)
  have hR := hB.2.1
  have hnn := hB.1.1.2.2.2.2.2.2
  have hu := hR.2.1
  have u1 := hu.1
  have u2 := hu.2.1
  have u3 := hu.2.2.1
  have u4 := hu.2.2.2.1
  refine v_aload_n hC dX10_readSegments_0 rfl rfl ?_
  refine gf_10_1 hC hB.1.1.1 (wf_261 hW hB.1.1.1) mw_2_79 dX10_readSegments_1 ?_
  first | rw [hB.1.2.1.2.1] | erw [hB.1.2.1.2.1]
  refine v_iload_n hC dX10_readSegments_4 rfl rfl ?_
  refine cVi1 hC (c_X7_hasFile hR.1.1.1 hR.2.2.2.1.1 hu.1) yv_X7_hasFile rfl hB.1.2.2.1.1.1.1 mw_2_193 ⟨Nat.le_of_ble_eq_true rfl, Nat.le_of_ble_eq_true rfl⟩ ⟨Nat.le_of_ble_eq_true rfl, Nat.le_of_ble_eq_true rfl⟩ (Nat.le_of_ble_eq_true rfl) dX10_readSegments_5 (fun r5 M7 hq => ?_)
  obtain ⟨hm, hq2⟩ := hq
  have hm2 := hm.symm
  clear hm
  subst hm2
  obtain ⟨g5, rfl⟩ | ⟨g5, rfl⟩ := hq2
  · refine v_if_ne hC dX10_readSegments_8 (tgt := 13) (by decide) (fun _ => ?_) (fun hx => absurd hx (by decide))
    obtain ⟨f, hf, rfl⟩ := g5
    have h8 : f < 8 := by have := hu.1; omega
    have hF : m_t M (cA (n + 7) 4 f) = 10 := by rw [← ly_F2 hR.1 h8]; exact we_51 hW (wf_215 hW hR.1.1.1) h8
    have h12s := hu.2.2.2.2 f hf
    have hb60 := hT.1
    refine v_aload_n hC dX10_readSegments_13 rfl rfl ?_
    refine gf_10_0 hC hB.1.1.1 (wf_260 hW hB.1.1.1) mw_2_78 dX10_readSegments_14 ?_
    first | rw [hB.1.2.1.1] | erw [hB.1.2.1.1]
    refine cVi0 hC (c_X8_fault hW hB.1.1.2.1 hB.1.2.1.2.2.2.2.1 hB.1.1.2.2.1 hT) yv_X8_fault rfl hB.1.1.2.1 mw_2_197 ⟨Nat.le_of_ble_eq_true rfl, Nat.le_of_ble_eq_true rfl⟩ ⟨Nat.le_of_ble_eq_true rfl, Nat.le_of_ble_eq_true rfl⟩ (Nat.le_of_ble_eq_true rfl) dX10_readSegments_17 (fun r17 M19 hq => ?_)
    obtain ⟨rfl, hm⟩ := hq
    have hm2 := hm.symm
    clear hm
    subst hm2
    rcases hfl : fltF tc t with _ | i1
    · refine v_ist2 hC dX10_readSegments_20 (by decide) (kk := ?_)
      refine v_iload_n hC dX10_readSegments_21 rfl rfl ?_
      refine v_iconst (v := (-1)) hC dX10_readSegments_22 (by decide) ?_
      refine v_icmp_eq hC dX10_readSegments_23 (tgt := 31) (by decide) (fun _ => ?_) (fun hx => absurd hx (by decide))
      obtain ⟨qe, hqe, hep⟩ := flt_n hfl
      have hsg : sgT tc t = qe.1 ++ [qe.2.1 ++ [qe.2.2]] := by rw [sgT, hqe]
      have hlen : (sgT tc t).length = qe.1.length + 1 := by rw [hsg, List.length_append]; rfl
      have hl61 : qe.1.length + 1 ≤ 61 := pS_cnt hqe hb60
      refine v_aload_n hC dX10_readSegments_31 rfl rfl ?_
      refine gf_10_1 hC hB.1.1.1 (wf_261 hW hB.1.1.1) mw_2_79 dX10_readSegments_32 ?_
      first | rw [hB.1.2.1.2.1] | erw [hB.1.2.1.2.1]
      refine gf_7_3 hC hB.1.2.2.1.1.1.1 (wf_215 hW hB.1.2.2.1.1.1.1) mw_2_35 dX10_readSegments_35 ?_
      refine v_iload_n hC dX10_readSegments_38 rfl rfl ?_
      refine v_aald 51 _ hC (wf_215 hW hB.1.2.2.1.1.1.1) (by decide) rfl (ix_c (wz_51 hW (wf_215 hW hR.1.1.1)) h8) (we_51 hW (wf_215 hW hB.1.2.2.1.1.1.1) (by omega)) dX10_readSegments_39 ?_
      rw [ly_F2 hR.1 h8]
      refine v_ast3 hC dX10_readSegments_40 (by decide) (kk := ?_)
      refine v_aload_n hC dX10_readSegments_41 rfl rfl ?_
      refine gf_9_0 hC hF mw_1_131 dX10_readSegments_42 ?_
      rw [(hR.f42 hf).1]
      refine v_if_eq hC dX10_readSegments_45 (tgt := 51) (by decide) (fun h45 => ?_) (fun h45 => ?_)
      · refine v_aload_n hC dX10_readSegments_51 rfl rfl ?_
        refine gf_9_5 hC hF mw_1_146 dX10_readSegments_52 ?_
        rw [hR.2.2.2.2.1 f hf]
        refine v_aload_n hC dX10_readSegments_55 rfl rfl ?_
        refine gf_10_0 hC hB.1.1.1 (wf_260 hW hB.1.1.1) mw_2_78 dX10_readSegments_56 ?_
        first | rw [hB.1.2.1.1] | erw [hB.1.2.1.1]
        refine cVi0 hC (c_X8_segmentCount hW hB.1.1.2.1 hB.1.2.1.2.2.2.2.1 hB.1.1.2.2.1 hT hfl) yv_X8_segmentCount rfl hB.1.1.2.1 mw_2_201 ⟨Nat.le_of_ble_eq_true rfl, Nat.le_of_ble_eq_true rfl⟩ ⟨Nat.le_of_ble_eq_true rfl, Nat.le_of_ble_eq_true rfl⟩ (Nat.le_of_ble_eq_true rfl) dX10_readSegments_59 (fun r59 M61 hq => ?_)
        obtain ⟨rfl, hm⟩ := hq
        have hm2 := hm.symm
        clear hm
        subst hm2
        refine v_iadd hC dX10_readSegments_62 ?_
        rw [nI_add]
        refine v_bipush (v := 12) hC dX10_readSegments_63 (by decide) ?_
        refine v_icmp_le hC dX10_readSegments_65 (tgt := 71) (by decide) (fun h65 => ?_) (fun h65 => ?_)
        · have k65 : n_s (x_u x) f + (sgT tc t).length ≤ 12 := (nI_leI (by omega) (by decide)).mp h65
          rw [hlen] at k65
          refine v_aload_n hC dX10_readSegments_71 rfl rfl ?_
          refine gf_10_3 hC hB.1.1.1 (wf_263 hW hB.1.1.1) mw_2_81 dX10_readSegments_72 ?_
          first | rw [hB.1.2.1.2.2.2.1] | erw [hB.1.2.1.2.2.2.1]
          refine v_aload_n hC dX10_readSegments_75 rfl rfl ?_
          refine gf_10_1 hC hB.1.1.1 (wf_261 hW hB.1.1.1) mw_2_79 dX10_readSegments_76 ?_
          first | rw [hB.1.2.1.2.1] | erw [hB.1.2.1.2.1]
          refine cVv1 hC (c_X2_push hW hB hz) yv_X2_push rfl hB.1.1.2.2.2.1 mw_2_98 ⟨Nat.le_of_ble_eq_true rfl, Nat.le_of_ble_eq_true rfl⟩ ⟨Nat.le_of_ble_eq_true rfl, Nat.le_of_ble_eq_true rfl⟩ (Nat.le_of_ble_eq_true rfl) dX10_readSegments_79 (fun M81 hq => ?_)
          obtain ⟨hB2, hcf2, hW2, htk2, hx2, hsk2⟩ := hq
          have nw2 := hx2.nw nw
          have hkt2 := hx2.kt
          have hR2 := hB2.pushed
          have hnn2 := hB2.1.1.2.2.2.2.2.2
          refine v_aload_n hC dX10_readSegments_82 rfl rfl ?_
          refine gf_10_0 hC (hkt2.u hB.1.1.1) (wf_260 hW2 (hkt2.u hB.1.1.1)) mw_2_78 dX10_readSegments_83 ?_
          first | rw [hB2.1.2.1.1] | erw [hB2.1.2.1.1]
          refine v_aload_n hC dX10_readSegments_86 rfl rfl ?_
          refine cVv1 hC (c_X8_appendSegmentsTo hW2 hB2.1.1.2.1 hB2.1.2.1.2.2.2.2.1 hB2.1.1.2.2.1 (htk2 _ _ hT) hqe hep (hkt2.u hF) hR2 hf (by omega) (Nat.le_refl _) (by omega) hnn2) yv_X8_appendSegmentsTo rfl hB2.1.1.2.1 mw_2_205 ⟨Nat.le_of_ble_eq_true rfl, Nat.le_of_ble_eq_true rfl⟩ ⟨Nat.le_of_ble_eq_true rfl, Nat.le_of_ble_eq_true rfl⟩ (Nat.le_of_ble_eq_true rfl) dX10_readSegments_87 (fun M89 hq => ?_)
          obtain ⟨hR3, hr3, hW3, nw3⟩ := hq
          have hkt3 : Kt M81 M89 := fun a ha => (hr3.2 a (nw2 a ha)).1
          obtain ⟨n1, n2⟩ := apU_s (x_u x) f (qe.1 ++ [qe.2.1 ++ [qe.2.2]])
          have n3 : (qe.1 ++ [qe.2.1 ++ [qe.2.2]]).length = qe.1.length + 1 := by rw [List.length_append]; rfl
          refine v_aload_n hC dX10_readSegments_90 rfl rfl ?_
          refine gf_9_5 hC (hkt3.u (hkt2.u hF)) mw_1_146 dX10_readSegments_91 ?_
          rw [hR3.2.2.2.2.1 f (by rw [n2]; exact hf), n1, n3]
          refine v_wide (k := 36) (n := 852) (Nat.le_of_ble_eq_true rfl) (Nat.le_of_ble_eq_true rfl) ?_
          refine v_iret hC dX10_readSegments_94 ?_
          have hD : d_readSegments (x_u x) t tc (nI f) = (nI (n_s (x_u x) f + (qe.1.length + 1)), some (apU (x_u x) f (qe.1 ++ [qe.2.1 ++ [qe.2.2]]))) := by rw [d_readSegments, inN_s hf]; show (match fltF tc t with | some i => _ | none => _) = _; rw [hfl]; show (if _ then _ else if _ then _ else (_, some (apU (x_u x) f (sgT tc t)))) = _; rw [if_neg (fun q => q h45), if_neg (by omega), hsg, n3]
          rw [hD]; exact ⟨rfl, hB2.act nw2 hW2 hr3 hR3, Tk.tr htk2 (hr3.tk hnn2 (Nat.le_refl _)), hcf2.tr (hr3.cf (Nat.le_refl _) (by omega)), hW3⟩
        · have k65 : 12 < n_s (x_u x) f + (sgT tc t).length := Nat.not_le.mp (fun q => h65 (nI_le (b := 12) q (by decide)))
          refine v_bipush (v := (-3)) hC dX10_readSegments_68 (by decide) ?_
          refine v_wide (k := 36) (n := 852) (Nat.le_of_ble_eq_true rfl) (Nat.le_of_ble_eq_true rfl) ?_
          refine v_iret hC dX10_readSegments_70 ?_
          have hD : d_readSegments (x_u x) t tc (nI f) = (-3, none) := by rw [d_readSegments, inN_s hf]; show (match fltF tc t with | some i => _ | none => _) = _; rw [hfl]; exact (if_neg (fun q => q h45)).trans (if_pos k65)
          rw [hD]; exact ⟨rfl, hB, Tk.rf, Cf.rf, hW⟩
      · refine v_bipush (v := (-4)) hC dX10_readSegments_48 (by decide) ?_
        refine v_wide (k := 36) (n := 852) (Nat.le_of_ble_eq_true rfl) (Nat.le_of_ble_eq_true rfl) ?_
        refine v_iret hC dX10_readSegments_50 ?_
        have hD : d_readSegments (x_u x) t tc (nI f) = (-4, none) := by rw [d_readSegments, inN_s hf]; show (match fltF tc t with | some i => _ | none => _) = _; rw [hfl]; exact if_pos h45
        rw [hD]; exact ⟨rfl, hB, Tk.rf, Cf.rf, hW⟩
    · refine v_ist2 hC dX10_readSegments_20 (by decide) (kk := ?_)
      refine v_iload_n hC dX10_readSegments_21 rfl rfl ?_
      refine v_iconst (v := (-1)) hC dX10_readSegments_22 (by decide) ?_
      refine v_icmp_eq hC dX10_readSegments_23 (tgt := 31) (by decide) (fun h23 => absurd (show nI i1 = -1 from h23) (ne1 (by have := flt_le hfl; omega))) (fun h23 => ?_)
      refine v_bipush (v := (-100)) hC dX10_readSegments_26 (by decide) ?_
      refine v_iload_n hC dX10_readSegments_28 rfl rfl ?_
      refine v_isub hC dX10_readSegments_29 ?_
      refine v_wide (k := 36) (n := 852) (Nat.le_of_ble_eq_true rfl) (Nat.le_of_ble_eq_true rfl) ?_
      refine v_iret hC dX10_readSegments_30 ?_
      have hD : d_readSegments (x_u x) t tc (nI f) = (-100 - nI i1, none) := by rw [d_readSegments, inN_s hf]; show (match fltF tc t with | some i => _ | none => _) = _; rw [hfl]
      rw [hD]; exact ⟨rfl, hB, Tk.rf, Cf.rf, hW⟩
  · refine v_if_ne hC dX10_readSegments_8 (tgt := 13) (by decide) (fun hx => absurd hx (by decide)) (fun _ => ?_)
    refine v_iconst (v := (-1)) hC dX10_readSegments_11 (by decide) ?_
    refine v_wide (k := 36) (n := 852) (Nat.le_of_ble_eq_true rfl) (Nat.le_of_ble_eq_true rfl) ?_
    refine v_iret hC dX10_readSegments_12 ?_
    have hD : d_readSegments (x_u x) t tc y = (-1, none) := by rw [d_readSegments, inN_o g5]
    rw [hD]; exact ⟨rfl, hB, Tk.rf, Cf.rf, hW⟩

set_option maxHeartbeats 4000000 in
set_option maxRecDepth 100000 in
theorem c_X10_remember {l : Launch} {G : Gd} {M : Me} {h n : Nat} {x : Xs} {t : Nat} {tc : Nat → Int32} {y : Int32} (hW : Wt M) (hB : BR M h n x) (hz : hzU (x_u x)) (hT : TX M n t tc) : CQ (Qi G (fun r M2 => r = (d_remember (x_u x) t tc y).1 ∧ BR M2 h n (acX x (d_remember (x_u x) t tc y).2) ∧ Tk M M2 n ∧ Cf M M2 h n ∧ Wt M2)) l G yX10_remember cX10_remember 4 ((some .int)) 4 90 3 71 [.ref h, .int y] M := by
  refine c_of ([some (.ref h), some (.int y), none, none] : Lo) RX10 "remember" (by decide) rfl rfl (Nat.le_of_ble_eq_true rfl) rfl (fun p e s m below meth c hC nw => ?_)
  have hR := hB.2.1
  have hnn := hB.1.1.2.2.2.2.2.2
  have hu := hR.2.1
  have u1 := hu.1
  have u2 := hu.2.1
  have u3 := hu.2.2.1
  have u4 := hu.2.2.2.1
  refine v_aload_n hC dX10_remember_0 rfl rfl ?_
  refine gf_10_0 hC hB.1.1.1 (wf_260 hW hB.1.1.1) mw_2_78 dX10_remember_1 ?_
  first | rw [hB.1.2.1.1] | erw [hB.1.2.1.1]
  refine cVi0 hC (c_X8_fault hW hB.1.1.2.1 hB.1.2.1.2.2.2.2.1 hB.1.1.2.2.1 hT) yv_X8_fault rfl hB.1.1.2.1 mw_2_197 ⟨Nat.le_of_ble_eq_true rfl, Nat.le_of_ble_eq_true rfl⟩ ⟨Nat.le_of_ble_eq_true rfl, Nat.le_of_ble_eq_true rfl⟩ (Nat.le_of_ble_eq_true rfl) dX10_remember_4 (fun r4 M6 hq => ?_)
  obtain ⟨rfl, hm⟩ := hq
  have hm2 := hm.symm
  clear hm
  subst hm2
  rcases hfl : fltF tc t with _ | i1
  · refine v_ist2 hC dX10_remember_7 (by decide) (kk := ?_)
    refine v_iload_n hC dX10_remember_8 rfl rfl ?_
    refine v_iconst (v := (-1)) hC dX10_remember_9 (by decide) ?_
    refine v_icmp_eq hC dX10_remember_10 (tgt := 18) (by decide) (fun _ => ?_) (fun hx => absurd hx (by decide))
    obtain ⟨qe, hqe, hep⟩ := flt_n hfl
    have hsg : sgT tc t = qe.1 ++ [qe.2.1 ++ [qe.2.2]] := by rw [sgT, hqe]
    have hlen : (sgT tc t).length = qe.1.length + 1 := by rw [hsg, List.length_append]; rfl
    have hb60 := hT.1
    have hl61 : qe.1.length + 1 ≤ 61 := pS_cnt hqe hb60
    refine v_iload_n hC dX10_remember_18 rfl rfl ?_
    refine cSi1 hC (c_X10_isTarget ) ys_X10_isTarget mw_2_226 ⟨Nat.le_of_ble_eq_true rfl, Nat.le_of_ble_eq_true rfl⟩ ⟨Nat.le_of_ble_eq_true rfl, Nat.le_of_ble_eq_true rfl⟩ (Nat.le_of_ble_eq_true rfl) dX10_remember_19 (fun r19 M21 hq => ?_)
    obtain ⟨hm, hq2⟩ := hq
    have hm2 := hm.symm
    clear hm
    subst hm2
    obtain ⟨g19, rfl⟩ | ⟨g19, rfl⟩ := hq2
    · refine v_if_eq hC dX10_remember_22 (tgt := 36) (by decide) (fun hx => absurd hx (by decide)) (fun _ => ?_)
      refine v_aload_n hC dX10_remember_25 rfl rfl ?_
      refine gf_10_0 hC hB.1.1.1 (wf_260 hW hB.1.1.1) mw_2_78 dX10_remember_26 ?_
      first | rw [hB.1.2.1.1] | erw [hB.1.2.1.1]
      refine cVi0 hC (c_X8_segmentCount hW hB.1.1.2.1 hB.1.2.1.2.2.2.2.1 hB.1.1.2.2.1 hT hfl) yv_X8_segmentCount rfl hB.1.1.2.1 mw_2_201 ⟨Nat.le_of_ble_eq_true rfl, Nat.le_of_ble_eq_true rfl⟩ ⟨Nat.le_of_ble_eq_true rfl, Nat.le_of_ble_eq_true rfl⟩ (Nat.le_of_ble_eq_true rfl) dX10_remember_29 (fun r29 M31 hq => ?_)
      obtain ⟨rfl, hm⟩ := hq
      have hm2 := hm.symm
      clear hm
      subst hm2
      refine v_iconst (v := 1) hC dX10_remember_32 (by decide) ?_
      refine v_icmp_le hC dX10_remember_33 (tgt := 39) (by decide) (fun h33 => ?_) (fun h33 => ?_)
      · have k33 : (sgT tc t).length ≤ 1 := (nI_leI (by omega) (by decide)).mp h33
        have q0 : qe.1 = [] := List.length_eq_zero_iff.mp (by omega)
        refine v_aload_n hC dX10_remember_39 rfl rfl ?_
        refine gf_10_0 hC hB.1.1.1 (wf_260 hW hB.1.1.1) mw_2_78 dX10_remember_40 ?_
        first | rw [hB.1.2.1.1] | erw [hB.1.2.1.1]
        refine cVr0 hC (c_X8_wholeSegment hW hB.1.1.2.1 hB.1.2.1.2.2.2.2.1 hB.1.1.2.2.1 hT hqe q0 hep) yv_X8_wholeSegment rfl hB.1.1.2.1 mw_2_229 ⟨Nat.le_of_ble_eq_true rfl, Nat.le_of_ble_eq_true rfl⟩ ⟨Nat.le_of_ble_eq_true rfl, Nat.le_of_ble_eq_true rfl⟩ (Nat.le_of_ble_eq_true rfl) dX10_remember_43 (fun r43 M45 hq9 => ?_)
        obtain ⟨rfl, hN, nw3⟩ := hq9
        have hW3 := hN.2.2.2
        have hB3 := hB.ns nw hW hN
        have hcf3 : Cf M M45 h n := hN.cf
        have htk3 : Tk M M45 n := Rg.tk (S := n + 7) hN.rg hnn (Nat.le_refl _)
        have hkt3 : Kt M M45 := fun a ha => (hN.2.1 a (nw a ha)).1
        have hR3 := hB3.2.1
        have hM5 : m_t M45 (n + 7 + 43) = 5 := by rw [← ly_M hR3.1]; exact wf_218 hW3 hR3.1.1.1
        refine v_ast3 hC dX10_remember_46 (by decide) (kk := ?_)
        refine v_aload_n hC dX10_remember_47 rfl rfl ?_
        refine gf_10_1 hC (hkt3.u hB.1.1.1) (wf_261 hW3 (hkt3.u hB.1.1.1)) mw_2_79 dX10_remember_48 ?_
        first | rw [hB3.1.2.1.2.1] | erw [hB3.1.2.1.2.1]
        refine gf_7_6 hC hB3.1.2.2.1.1.1.1 (wf_218 hW3 hB3.1.2.2.1.1.1.1) mw_2_41 dX10_remember_51 ?_
        rw [ly_M hR3.1]
        refine v_aload_n hC dX10_remember_54 rfl rfl ?_
        refine cVi1 hC (c_X4_alikeEntry hW3 hM5 hR3.es2 hN.2.2.1) yv_X4_alikeEntry rfl hM5 mw_2_233 ⟨Nat.le_of_ble_eq_true rfl, Nat.le_of_ble_eq_true rfl⟩ ⟨Nat.le_of_ble_eq_true rfl, Nat.le_of_ble_eq_true rfl⟩ (Nat.le_of_ble_eq_true rfl) dX10_remember_55 (fun r55 M57 hq => ?_)
        obtain ⟨hf9, hm⟩ := hq
        have hm2 := hm.symm
        clear hm
        subst hm2
        have hE : alE (x_u x) (qe.2.1 ++ [qe.2.2]) r55 := hf9
        rcases hE.c with ⟨e1, a1, a2, rfl⟩ | ⟨a1, rfl⟩
        · refine v_bipush (v := (-5)) hC dX10_remember_58 (by decide) ?_
          refine v_icmp_eq hC dX10_remember_60 (tgt := 66) (by decide) (fun h60 => absurd h60 (ne5 (by omega))) (fun h60 => ?_)
          refine v_bipush (v := (-4)) hC dX10_remember_63 (by decide) ?_
          refine v_wide (k := 3) (n := 71) (Nat.le_of_ble_eq_true rfl) (Nat.le_of_ble_eq_true rfl) ?_
          refine v_iret hC dX10_remember_65 ?_
          have hD : d_remember (x_u x) t tc y = (-4, none) := by rw [d_remember, hfl]; show (if _ then _ else _) = _; rw [if_neg (fun q => q.elim (fun q => q g19) (fun q => by omega)), (show (sgT tc t).headD [] = qe.2.1 ++ [qe.2.2] from by rw [hsg, q0]; rfl)]; exact if_pos (by rw [a1]; rfl)
          rw [hD]; exact ⟨rfl, hB3, htk3, hcf3, hW3⟩
        · refine v_bipush (v := (-5)) hC dX10_remember_58 (by decide) ?_
          refine v_icmp_eq hC dX10_remember_60 (tgt := 66) (by decide) (fun _ => ?_) (fun hx => absurd hx (by decide))
          refine v_aload_n hC dX10_remember_66 rfl rfl ?_
          refine gf_10_1 hC (hkt3.u hB.1.1.1) (wf_261 hW3 (hkt3.u hB.1.1.1)) mw_2_79 dX10_remember_67 ?_
          first | rw [hB3.1.2.1.2.1] | erw [hB3.1.2.1.2.1]
          refine gf_7_6 hC hB3.1.2.2.1.1.1.1 (wf_218 hW3 hB3.1.2.2.1.1.1.1) mw_2_41 dX10_remember_70 ?_
          rw [ly_M hR3.1]
          refine gf_4_2 hC hM5 mw_2_11 dX10_remember_73 ?_
          rw [hR3.2.2.2.1.2.2.1]
          refine v_bipush (v := 40) hC dX10_remember_76 (by decide) ?_
          refine v_icmp_lt hC dX10_remember_78 (tgt := 84) (by decide) (fun h78 => ?_) (fun h78 => ?_)
          · have hk : n_e (x_u x) < 40 := lp_gt (i := 40) h78
            refine v_aload_n hC dX10_remember_84 rfl rfl ?_
            refine gf_10_3 hC (hkt3.u hB.1.1.1) (wf_263 hW3 (hkt3.u hB.1.1.1)) mw_2_81 dX10_remember_85 ?_
            first | rw [hB3.1.2.1.2.2.2.1] | erw [hB3.1.2.1.2.2.2.1]
            refine v_aload_n hC dX10_remember_88 rfl rfl ?_
            refine gf_10_1 hC (hkt3.u hB.1.1.1) (wf_261 hW3 (hkt3.u hB.1.1.1)) mw_2_79 dX10_remember_89 ?_
            first | rw [hB3.1.2.1.2.1] | erw [hB3.1.2.1.2.1]
            refine cVv1 hC (c_X2_push hW3 hB3 hz) yv_X2_push rfl hB3.1.1.2.2.2.1 mw_2_98 ⟨Nat.le_of_ble_eq_true rfl, Nat.le_of_ble_eq_true rfl⟩ ⟨Nat.le_of_ble_eq_true rfl, Nat.le_of_ble_eq_true rfl⟩ (Nat.le_of_ble_eq_true rfl) dX10_remember_92 (fun M94 hq => ?_)
            obtain ⟨hB4, hcf4, hW4, htk4, hx4, hsk4⟩ := hq
            have nw4 := hx4.nw nw3
            have hkt4 := hx4.kt
            have hR4 := hB4.pushed
            have hnn4 := hB4.1.1.2.2.2.2.2.2
            have hM6 : m_t M94 (n + 7 + 43) = 5 := by rw [← ly_M hR4.1]; exact wf_218 hW4 hR4.1.1.1
            refine v_aload_n hC dX10_remember_95 rfl rfl ?_
            refine gf_10_1 hC (hkt4.u (hkt3.u hB.1.1.1)) (wf_261 hW4 (hkt4.u (hkt3.u hB.1.1.1))) mw_2_79 dX10_remember_96 ?_
            first | rw [hB4.1.2.1.2.1] | erw [hB4.1.2.1.2.1]
            refine gf_7_6 hC hB4.1.2.2.1.1.1.1 (wf_218 hW4 hB4.1.2.2.1.1.1.1) mw_2_41 dX10_remember_99 ?_
            rw [ly_M hR4.1]
            refine v_aload_n hC dX10_remember_102 rfl rfl ?_
            refine v_iload_n hC dX10_remember_103 rfl rfl ?_
            refine cVi2 hC (c_X4_addEntry hW4 hM6 hR4 (hsk4 _ _ hN.2.2.1) hk) yv_X4_addEntry rfl hM6 mw_3_1 ⟨Nat.le_of_ble_eq_true rfl, Nat.le_of_ble_eq_true rfl⟩ ⟨Nat.le_of_ble_eq_true rfl, Nat.le_of_ble_eq_true rfl⟩ (Nat.le_of_ble_eq_true rfl) dX10_remember_104 (fun r104 M106 hq => ?_)
            obtain ⟨rfl, hR5, hr5, hW5⟩ := hq
            refine v_wide (k := 3) (n := 71) (Nat.le_of_ble_eq_true rfl) (Nat.le_of_ble_eq_true rfl) ?_
            refine v_iret hC dX10_remember_107 ?_
            have hD : d_remember (x_u x) t tc y = (nI (n_e (x_u x)), some (entU (x_u x) (qe.2.1 ++ [qe.2.2]) y)) := by rw [d_remember, hfl]; show (if _ then _ else _) = _; rw [if_neg (fun q => q.elim (fun q => q g19) (fun q => by omega)), (show (sgT tc t).headD [] = qe.2.1 ++ [qe.2.2] from by rw [hsg, q0]; rfl)]; exact (if_neg (by rw [a1]; exact Bool.false_ne_true)).trans (if_pos hk)
            rw [hD]; exact ⟨rfl, hB4.act nw4 hW4 hr5 hR5, Tk.tr htk3 (Tk.tr htk4 (hr5.tk hnn4 (Nat.le_refl _))), (hcf3.tr hcf4).tr (hr5.cf (Nat.le_refl _) (by omega)), hW5⟩
          · refine v_bipush (v := (-3)) hC dX10_remember_81 (by decide) ?_
            refine v_wide (k := 3) (n := 71) (Nat.le_of_ble_eq_true rfl) (Nat.le_of_ble_eq_true rfl) ?_
            refine v_iret hC dX10_remember_83 ?_
            have hD : d_remember (x_u x) t tc y = (-3, none) := by rw [d_remember, hfl]; show (if _ then _ else _) = _; rw [if_neg (fun q => q.elim (fun q => q g19) (fun q => by omega)), (show (sgT tc t).headD [] = qe.2.1 ++ [qe.2.2] from by rw [hsg, q0]; rfl)]; exact (if_neg (by rw [a1]; exact Bool.false_ne_true)).trans (if_neg (fun q => h78 (nI_lt (a := n_e (x_u x)) (b := 40) q (by decide))))
            rw [hD]; exact ⟨rfl, hB3, htk3, hcf3, hW3⟩
      · have k33 : 1 < (sgT tc t).length := Nat.not_le.mp (fun q => h33 (nI_le (b := 1) q (by decide)))
        refine v_bipush (v := (-2)) hC dX10_remember_36 (by decide) ?_
        refine v_wide (k := 3) (n := 71) (Nat.le_of_ble_eq_true rfl) (Nat.le_of_ble_eq_true rfl) ?_
        refine v_iret hC dX10_remember_38 ?_
        have hD : d_remember (x_u x) t tc y = (-2, none) := by rw [d_remember, hfl]; show (if _ then _ else _) = _; exact if_pos (by first | exact Or.inl g19 | exact Or.inr k33)
        rw [hD]; exact ⟨rfl, hB, Tk.rf, Cf.rf, hW⟩
    · refine v_if_eq hC dX10_remember_22 (tgt := 36) (by decide) (fun _ => ?_) (fun hx => absurd hx (by decide))
      refine v_bipush (v := (-2)) hC dX10_remember_36 (by decide) ?_
      refine v_wide (k := 3) (n := 71) (Nat.le_of_ble_eq_true rfl) (Nat.le_of_ble_eq_true rfl) ?_
      refine v_iret hC dX10_remember_38 ?_
      have hD : d_remember (x_u x) t tc y = (-2, none) := by rw [d_remember, hfl]; show (if _ then _ else _) = _; exact if_pos (by first | exact Or.inl g19 | exact Or.inr k33)
      rw [hD]; exact ⟨rfl, hB, Tk.rf, Cf.rf, hW⟩
  · refine v_ist2 hC dX10_remember_7 (by decide) (kk := ?_)
    refine v_iload_n hC dX10_remember_8 rfl rfl ?_
    refine v_iconst (v := (-1)) hC dX10_remember_9 (by decide) ?_
    refine v_icmp_eq hC dX10_remember_10 (tgt := 18) (by decide) (fun h10 => absurd (show nI i1 = -1 from h10) (ne1 (by have := flt_le hfl; have := hT.1; omega))) (fun h10 => ?_)
    refine v_bipush (v := (-100)) hC dX10_remember_13 (by decide) ?_
    refine v_iload_n hC dX10_remember_15 rfl rfl ?_
    refine v_isub hC dX10_remember_16 ?_
    refine v_wide (k := 3) (n := 71) (Nat.le_of_ble_eq_true rfl) (Nat.le_of_ble_eq_true rfl) ?_
    refine v_iret hC dX10_remember_17 ?_
    have hD : d_remember (x_u x) t tc y = (-100 - nI i1, none) := by rw [d_remember, hfl]
    rw [hD]; exact ⟨rfl, hB, Tk.rf, Cf.rf, hW⟩
