/-- the entry of a segment is settled with another target -/
def stO (u : Si) (g : Sg) (t : Int32) : Prop := ∃ e, alE u g (nI e) ∧ e < n_e u ∧ ¬ q_i u 12 e 0 = 0 ∧ ¬ q_i u 11 e 0 = t
/-- an entry's target is another one and it has no open dispute -/
def nds (u : Si) (e : Nat) (t : Int32) : Prop := ¬ q_i u 11 e 0 = t ∧ opD u (nI e) (-5)
set_option maxHeartbeats 4000000 in
set_option maxRecDepth 100000 in
theorem c_X4_isSettledOtherwise {l : Launch} {G : Gd} {M : Me} {S g0 : Nat} {u : Si} {g : Sg} {t : Int32} (hW : Wt M) (ht : m_t M (pM M S) = 5) (hR : CR M S u) (hg : SgR M g0 g) : CQ (Qi G (fun r M2 => M2 = M ∧ (stO u g t ∧ r = 1 ∨ ¬ stO u g t ∧ r = 0))) l G yX4_isSettledOtherwise cX4_isSettledOtherwise 4 ((some .boolean)) 2 44 0 0 [.ref (pM M S), .ref g0, .int t] M := by
  refine c_of ([some (.ref (pM M S)), some (.ref g0), some (.int t), none] : Lo) RX4 "isSettledOtherwise" (by decide) rfl rfl (Nat.le_of_ble_eq_true rfl) rfl (fun p e s m below meth c hC nw => ?_)
  have c1 := hR.2.1.2.2.1
  refine v_aload_n hC dX4_isSettledOtherwise_0 rfl rfl ?_
  refine v_aload_n hC dX4_isSettledOtherwise_1 rfl rfl ?_
  refine cVi1 hC (c_X4_alikeEntry hW ht hR.es hg) yv_X4_alikeEntry rfl ht mw_3_83 ⟨Nat.le_of_ble_eq_true rfl, Nat.le_of_ble_eq_true rfl⟩ ⟨Nat.le_of_ble_eq_true rfl, Nat.le_of_ble_eq_true rfl⟩ (Nat.le_of_ble_eq_true rfl) dX4_isSettledOtherwise_2 (fun r2 M4 hq => ?_)
  obtain ⟨hf, hm⟩ := hq
  have hm2 := hm.symm
  clear hm
  subst hm2
  have hE : alE u g r2 := hf
  refine v_ist3 hC dX4_isSettledOtherwise_5 (by decide) (kk := ?_)
  refine v_aload_n hC dX4_isSettledOtherwise_6 rfl rfl ?_
  refine v_iload_n hC dX4_isSettledOtherwise_7 rfl rfl ?_
  refine cVi1 hC (c_X4_hasEntry ht hR.ne.1 hR.2.1.2.2.1) yv_X4_hasEntry rfl ht mw_3_84 ⟨Nat.le_of_ble_eq_true rfl, Nat.le_of_ble_eq_true rfl⟩ ⟨Nat.le_of_ble_eq_true rfl, Nat.le_of_ble_eq_true rfl⟩ (Nat.le_of_ble_eq_true rfl) dX4_isSettledOtherwise_8 (fun r8 M10 hq => ?_)
  obtain ⟨hm, hq2⟩ := hq
  have hm2 := hm.symm
  clear hm
  subst hm2
  obtain ⟨g8, rfl⟩ | ⟨g8, rfl⟩ := hq2
  · refine v_if_eq hC dX4_isSettledOtherwise_11 (tgt := 43) (by decide) (fun hx => absurd hx (by decide)) (fun _ => ?_)
    obtain ⟨e, he, rfl⟩ := g8
    refine v_aload_n hC dX4_isSettledOtherwise_14 rfl rfl ?_
    refine gf_4_1 hC ht (wf_165 hW ht) mw_2_7 dX4_isSettledOtherwise_15 ?_
    refine v_iload_n hC dX4_isSettledOtherwise_18 rfl rfl ?_
    refine v_aald 53 _ hC (wf_165 hW ht) (by decide) rfl (ix_c (wz_53 hW (wf_165 hW ht)) (by omega)) (we_53 hW (wf_165 hW ht) (by omega)) dX4_isSettledOtherwise_19 ?_
    refine gf_1_2 hC (we_53 hW (wf_165 hW ht) (by omega)) mw_1_203 dX4_isSettledOtherwise_20 ?_
    rw [(hR.en he).2.1]
    refine v_if_eq hC dX4_isSettledOtherwise_23 (tgt := 43) (by decide) (fun h23 => ?_) (fun h23 => ?_)
    · refine v_iconst (v := 0) hC dX4_isSettledOtherwise_43 (by decide) ?_
      refine v_zret hC (Or.inl rfl) dX4_isSettledOtherwise_44 ?_
      refine ⟨rfl, Or.inr ⟨fun ⟨e2, a1, a2, a3, a4⟩ => ?_, rfl⟩⟩
      have w := hE.uniq a1
      first
        | exact g8 ⟨e2, a2, w⟩
        | (have w2 := (nI_eq (by omega) (by omega)).mp w; subst w2; first | exact a3 h23 | exact a4 h36)
    · refine v_aload_n hC dX4_isSettledOtherwise_26 rfl rfl ?_
      refine gf_4_1 hC ht (wf_165 hW ht) mw_2_7 dX4_isSettledOtherwise_27 ?_
      refine v_iload_n hC dX4_isSettledOtherwise_30 rfl rfl ?_
      refine v_aald 53 _ hC (wf_165 hW ht) (by decide) rfl (ix_c (wz_53 hW (wf_165 hW ht)) (by omega)) (we_53 hW (wf_165 hW ht) (by omega)) dX4_isSettledOtherwise_31 ?_
      refine gf_1_1 hC (we_53 hW (wf_165 hW ht) (by omega)) mw_1_199 dX4_isSettledOtherwise_32 ?_
      rw [(hR.en he).1]
      refine v_iload_n hC dX4_isSettledOtherwise_35 rfl rfl ?_
      refine v_icmp_eq hC dX4_isSettledOtherwise_36 (tgt := 43) (by decide) (fun h36 => ?_) (fun h36 => ?_)
      · refine v_iconst (v := 0) hC dX4_isSettledOtherwise_43 (by decide) ?_
        refine v_zret hC (Or.inl rfl) dX4_isSettledOtherwise_44 ?_
        refine ⟨rfl, Or.inr ⟨fun ⟨e2, a1, a2, a3, a4⟩ => ?_, rfl⟩⟩
        have w := hE.uniq a1
        first
          | exact g8 ⟨e2, a2, w⟩
          | (have w2 := (nI_eq (by omega) (by omega)).mp w; subst w2; first | exact a3 h23 | exact a4 h36)
      · refine v_iconst (v := 1) hC dX4_isSettledOtherwise_39 (by decide) ?_
        refine v_goto hC dX4_isSettledOtherwise_40 (tgt := 44) (by decide) ?_
        refine v_zret hC (Or.inr rfl) dX4_isSettledOtherwise_44 ?_
        exact ⟨rfl, Or.inl ⟨⟨e, hE, he, h23, h36⟩, rfl⟩⟩
  · refine v_if_eq hC dX4_isSettledOtherwise_11 (tgt := 43) (by decide) (fun _ => ?_) (fun hx => absurd hx (by decide))
    refine v_iconst (v := 0) hC dX4_isSettledOtherwise_43 (by decide) ?_
    refine v_zret hC (Or.inl rfl) dX4_isSettledOtherwise_44 ?_
    refine ⟨rfl, Or.inr ⟨fun ⟨e2, a1, a2, a3, a4⟩ => ?_, rfl⟩⟩
    have w := hE.uniq a1
    first
      | exact g8 ⟨e2, a2, w⟩
      | (have w2 := (nI_eq (by omega) (by omega)).mp w; subst w2; first | exact a3 h23 | exact a4 h36)

set_option maxHeartbeats 4000000 in
set_option maxRecDepth 100000 in
theorem c_X4_needsDispute {l : Launch} {G : Gd} {M : Me} {S e : Nat} {u : Si} {t : Int32} (hW : Wt M) (ht : m_t M (pM M S) = 5) (hR : CR M S u) (he : e < n_e u) : CQ (Qi G (fun r M2 => M2 = M ∧ (nds u e t ∧ r = 1 ∨ ¬ nds u e t ∧ r = 0))) l G yX4_needsDispute cX4_needsDispute 3 ((some .boolean)) 2 42 0 0 [.ref (pM M S), .int (nI e), .int t] M := by
  refine c_of ([some (.ref (pM M S)), some (.int (nI e)), some (.int t)] : Lo) RX4 "needsDispute" (by decide) rfl rfl (Nat.le_of_ble_eq_true rfl) rfl (fun p e s m below meth c hC nw => ?_)
  have c1 := hR.2.1.2.2.1
  have c2 := hR.2.1.2.2.2.1
  refine v_aload_n hC dX4_needsDispute_0 rfl rfl ?_
  refine gf_4_1 hC ht (wf_165 hW ht) mw_2_7 dX4_needsDispute_1 ?_
  refine v_iload_n hC dX4_needsDispute_4 rfl rfl ?_
  refine v_aald 53 _ hC (wf_165 hW ht) (by decide) rfl (ix_c (wz_53 hW (wf_165 hW ht)) (by omega)) (we_53 hW (wf_165 hW ht) (by omega)) dX4_needsDispute_5 ?_
  refine gf_1_1 hC (we_53 hW (wf_165 hW ht) (by omega)) mw_1_199 dX4_needsDispute_6 ?_
  rw [(hR.en he).1]
  refine v_iload_n hC dX4_needsDispute_9 rfl rfl ?_
  refine v_icmp_eq hC dX4_needsDispute_10 (tgt := 27) (by decide) (fun h10 => ?_) (fun h10 => ?_)
  · refine v_iconst (v := 0) hC dX4_needsDispute_27 (by decide) ?_
    refine v_zret hC (Or.inl rfl) dX4_needsDispute_28 ?_
    refine ⟨rfl, Or.inr ⟨fun ⟨a1, a2⟩ => ?_, rfl⟩⟩
    first
      | exact a1 h10
      | exact h20 (hD.uniq a2)
  · refine v_aload_n hC dX4_needsDispute_13 rfl rfl ?_
    refine v_iload_n hC dX4_needsDispute_14 rfl rfl ?_
    refine cVi1 hC (c_X4_openDispute hW ht hR.ne.2 c2) yv_X4_openDispute rfl ht mw_3_109 ⟨Nat.le_of_ble_eq_true rfl, Nat.le_of_ble_eq_true rfl⟩ ⟨Nat.le_of_ble_eq_true rfl, Nat.le_of_ble_eq_true rfl⟩ (Nat.le_of_ble_eq_true rfl) dX4_needsDispute_15 (fun r15 M17 hq => ?_)
    obtain ⟨hd, hm⟩ := hq
    have hm2 := hm.symm
    clear hm
    subst hm2
    have hD := hR.opD hd
    refine v_bipush (v := (-5)) hC dX4_needsDispute_18 (by decide) ?_
    refine v_icmp_ne hC dX4_needsDispute_20 (tgt := 27) (by decide) (fun h20 => ?_) (fun h20 => ?_)
    · refine v_iconst (v := 0) hC dX4_needsDispute_27 (by decide) ?_
      refine v_zret hC (Or.inl rfl) dX4_needsDispute_28 ?_
      refine ⟨rfl, Or.inr ⟨fun ⟨a1, a2⟩ => ?_, rfl⟩⟩
      first
        | exact a1 h10
        | exact h20 (hD.uniq a2)
    · refine v_iconst (v := 1) hC dX4_needsDispute_23 (by decide) ?_
      refine v_goto hC dX4_needsDispute_24 (tgt := 28) (by decide) ?_
      refine v_zret hC (Or.inr rfl) dX4_needsDispute_28 ?_
      exact ⟨rfl, Or.inl ⟨⟨h10, by rw [← h20]; exact hD⟩, rfl⟩⟩

def roomF (u : Si) (g : Sg) (t : Int32) : Prop := (alE u g (-5) → n_e u < 40) ∧ ∀ e, alE u g (nI e) → e < n_e u → nds u e t → n_d u < 10
set_option maxHeartbeats 4000000 in
set_option maxRecDepth 100000 in
theorem c_X4_hasRoomFor {l : Launch} {G : Gd} {M : Me} {S g0 : Nat} {u : Si} {g : Sg} {t : Int32} (hW : Wt M) (ht : m_t M (pM M S) = 5) (hR : CR M S u) (hg : SgR M g0 g) : CQ (Qi G (fun r M2 => M2 = M ∧ (roomF u g t ∧ r = 1 ∨ ¬ roomF u g t ∧ r = 0))) l G yX4_hasRoomFor cX4_hasRoomFor 4 ((some .boolean)) 3 64 0 0 [.ref (pM M S), .ref g0, .int t] M := by
  refine c_of ([some (.ref (pM M S)), some (.ref g0), some (.int t), none] : Lo) RX4 "hasRoomFor" (by decide) rfl rfl (Nat.le_of_ble_eq_true rfl) rfl (fun p e s m below meth c hC nw => ?_)
  have c1 := hR.2.1.2.2.1
  have c2 := hR.2.1.2.2.2.1
  refine v_aload_n hC dX4_hasRoomFor_0 rfl rfl ?_
  refine v_aload_n hC dX4_hasRoomFor_1 rfl rfl ?_
  refine cVi1 hC (c_X4_alikeEntry hW ht hR.es hg) yv_X4_alikeEntry rfl ht mw_3_83 ⟨Nat.le_of_ble_eq_true rfl, Nat.le_of_ble_eq_true rfl⟩ ⟨Nat.le_of_ble_eq_true rfl, Nat.le_of_ble_eq_true rfl⟩ (Nat.le_of_ble_eq_true rfl) dX4_hasRoomFor_2 (fun r2 M4 hq => ?_)
  obtain ⟨hf, hm⟩ := hq
  have hm2 := hm.symm
  clear hm
  subst hm2
  have hE : alE u g r2 := hf
  refine v_ist3 hC dX4_hasRoomFor_5 (by decide) (kk := ?_)
  refine v_aload_n hC dX4_hasRoomFor_6 rfl rfl ?_
  refine v_iload_n hC dX4_hasRoomFor_7 rfl rfl ?_
  refine cVi1 hC (c_X4_hasEntry ht hR.ne.1 hR.2.1.2.2.1) yv_X4_hasEntry rfl ht mw_3_84 ⟨Nat.le_of_ble_eq_true rfl, Nat.le_of_ble_eq_true rfl⟩ ⟨Nat.le_of_ble_eq_true rfl, Nat.le_of_ble_eq_true rfl⟩ (Nat.le_of_ble_eq_true rfl) dX4_hasRoomFor_8 (fun r8 M10 hq => ?_)
  obtain ⟨hm, hq2⟩ := hq
  have hm2 := hm.symm
  clear hm
  subst hm2
  obtain ⟨g8, rfl⟩ | ⟨g8, rfl⟩ := hq2
  · refine v_if_ne hC dX4_hasRoomFor_11 (tgt := 29) (by decide) (fun _ => ?_) (fun hx => absurd hx (by decide))
    obtain ⟨e, he, rfl⟩ := g8
    refine v_aload_n hC dX4_hasRoomFor_29 rfl rfl ?_
    refine v_iload_n hC dX4_hasRoomFor_30 rfl rfl ?_
    refine v_iload_n hC dX4_hasRoomFor_31 rfl rfl ?_
    refine cVi2 hC (c_X4_needsDispute hW ht hR he) yv_X4_needsDispute rfl ht mw_3_105 ⟨Nat.le_of_ble_eq_true rfl, Nat.le_of_ble_eq_true rfl⟩ ⟨Nat.le_of_ble_eq_true rfl, Nat.le_of_ble_eq_true rfl⟩ (Nat.le_of_ble_eq_true rfl) dX4_hasRoomFor_32 (fun r32 M34 hq => ?_)
    obtain ⟨hm, hq2⟩ := hq
    have hm2 := hm.symm
    clear hm
    subst hm2
    obtain ⟨g32, rfl⟩ | ⟨g32, rfl⟩ := hq2
    · refine v_if_eq hC dX4_hasRoomFor_35 (tgt := 47) (by decide) (fun hx => absurd hx (by decide)) (fun _ => ?_)
      refine v_aload_n hC dX4_hasRoomFor_38 rfl rfl ?_
      refine gf_4_4 hC ht mw_2_15 dX4_hasRoomFor_39 ?_
      rw [hR.ne.2]
      refine v_bipush (v := 10) hC dX4_hasRoomFor_42 (by decide) ?_
      refine v_icmp_ge hC dX4_hasRoomFor_44 (tgt := 51) (by decide) (fun h44 => ?_) (fun h44 => ?_)
      · refine v_iconst (v := 0) hC dX4_hasRoomFor_51 (by decide) ?_
        refine v_zret hC (Or.inl rfl) dX4_hasRoomFor_52 ?_
        refine ⟨rfl, Or.inr ⟨fun a => ?_, rfl⟩⟩
        first
          | (have w := lp_ge (N := 40) h20; have w2 := a.1 hE5; omega)
          | (have w := lp_ge (N := 10) h44; have w2 := a.2 e hE he g32; omega)
      · refine v_iconst (v := 1) hC dX4_hasRoomFor_47 (by decide) ?_
        refine v_goto hC dX4_hasRoomFor_48 (tgt := 52) (by decide) ?_
        refine v_zret hC (Or.inr rfl) dX4_hasRoomFor_52 ?_
        refine ⟨rfl, Or.inl ⟨?_, rfl⟩⟩
        first
          | exact ⟨fun _ => lp_lt (N := 40) h20, fun e2 a1 a2 _ => absurd ⟨e2, a2, hE5.uniq a1 ▸ hE.uniq hE5⟩ g8⟩
          | exact ⟨fun a => absurd (hE.uniq a ▸ (show (-5 : Int32) < 0 by decide)) (fun q => i_ab q (nI_le (a := 0) (Nat.zero_le e) (by omega))), fun e2 a1 a2 a3 => by have w := (nI_eq (by omega) (by omega)).mp (hE.uniq a1); subst w; first | exact absurd a3 g32 | exact lp_lt (N := 10) h44⟩
    · refine v_if_eq hC dX4_hasRoomFor_35 (tgt := 47) (by decide) (fun _ => ?_) (fun hx => absurd hx (by decide))
      refine v_iconst (v := 1) hC dX4_hasRoomFor_47 (by decide) ?_
      refine v_goto hC dX4_hasRoomFor_48 (tgt := 52) (by decide) ?_
      refine v_zret hC (Or.inr rfl) dX4_hasRoomFor_52 ?_
      refine ⟨rfl, Or.inl ⟨?_, rfl⟩⟩
      first
        | exact ⟨fun _ => lp_lt (N := 40) h20, fun e2 a1 a2 _ => absurd ⟨e2, a2, hE5.uniq a1 ▸ hE.uniq hE5⟩ g8⟩
        | exact ⟨fun a => absurd (hE.uniq a ▸ (show (-5 : Int32) < 0 by decide)) (fun q => i_ab q (nI_le (a := 0) (Nat.zero_le e) (by omega))), fun e2 a1 a2 a3 => by have w := (nI_eq (by omega) (by omega)).mp (hE.uniq a1); subst w; first | exact absurd a3 g32 | exact lp_lt (N := 10) h44⟩
  · refine v_if_ne hC dX4_hasRoomFor_11 (tgt := 29) (by decide) (fun hx => absurd hx (by decide)) (fun _ => ?_)
    have hE5 : alE u g (-5) := by
      rcases hE with ⟨e, a1, a2, a3, a4⟩ | w
      · exact absurd ⟨e, a1, a4⟩ g8
      · exact Or.inr ⟨w.1, rfl⟩
    refine v_aload_n hC dX4_hasRoomFor_14 rfl rfl ?_
    refine gf_4_2 hC ht mw_2_10 dX4_hasRoomFor_15 ?_
    rw [hR.ne.1]
    refine v_bipush (v := 40) hC dX4_hasRoomFor_18 (by decide) ?_
    refine v_icmp_ge hC dX4_hasRoomFor_20 (tgt := 27) (by decide) (fun h20 => ?_) (fun h20 => ?_)
    · refine v_iconst (v := 0) hC dX4_hasRoomFor_27 (by decide) ?_
      refine v_zret hC (Or.inl rfl) dX4_hasRoomFor_28 ?_
      refine ⟨rfl, Or.inr ⟨fun a => ?_, rfl⟩⟩
      first
        | (have w := lp_ge (N := 40) h20; have w2 := a.1 hE5; omega)
        | (have w := lp_ge (N := 10) h44; have w2 := a.2 e hE he g32; omega)
    · refine v_iconst (v := 1) hC dX4_hasRoomFor_23 (by decide) ?_
      refine v_goto hC dX4_hasRoomFor_24 (tgt := 28) (by decide) ?_
      refine v_zret hC (Or.inr rfl) dX4_hasRoomFor_28 ?_
      refine ⟨rfl, Or.inl ⟨?_, rfl⟩⟩
      first
        | exact ⟨fun _ => lp_lt (N := 40) h20, fun e2 a1 a2 _ => absurd ⟨e2, a2, hE5.uniq a1 ▸ hE.uniq hE5⟩ g8⟩
        | exact ⟨fun a => absurd (hE.uniq a ▸ (show (-5 : Int32) < 0 by decide)) (fun q => i_ab q (nI_le (a := 0) (Nat.zero_le e) (by omega))), fun e2 a1 a2 a3 => by have w := (nI_eq (by omega) (by omega)).mp (hE.uniq a1); subst w; first | exact absurd a3 g32 | exact lp_lt (N := 10) h44⟩
