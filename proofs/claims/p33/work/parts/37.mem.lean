theorem Fst.congr {p q : Nat → Prop} {n : Nat} {r : Int32} (h : Fst p n r) (e : ∀ j, j < n → (p j ↔ q j)) : Fst q n r := by
  rcases h with ⟨k, a1, a2, a3, a4⟩ | ⟨a1, a2⟩
  · exact Or.inl ⟨k, a1, (e k a1).mp a2, fun j hj w => a3 j hj ((e j (by omega)).mpr w), a4⟩
  · exact Or.inr ⟨fun j hj w => a1 j hj ((e j hj).mpr w), a2⟩
/-- x, y name a segment -/
def sgI (u : Si) (x y : Int32) : Prop := ∃ f t, f < n_f u ∧ t < n_s u f ∧ x = nI f ∧ y = nI t
/-- the entry that is alike; the open dispute of an entry -/
def alE (u : Si) (g : Sg) (r : Int32) : Prop := Fst (fun e => q_g u 1 e 0 = g) (n_e u) r
def opD (u : Si) (x : Int32) (r : Int32) : Prop := Fst (fun d => q_i u 13 d 0 = x ∧ q_i u 16 d 0 = 0) (n_d u) r
theorem CR.opD {M : Me} {S : Nat} {u : Si} {x r : Int32} (h : CR M S u) (hq : Fst (fun d => m_i M 100 (pD M (pM M S) d) 0 = x ∧ m_i M 103 (pD M (pM M S) d) 0 = 0) (n_d u) r) : opD u x r := hq.congr fun j hj => by
  obtain ⟨e1, e2, e3, e4⟩ := h.di hj
  show (m_i M 100 (pD M (pM M S) j) 0 = x ∧ m_i M 103 (pD M (pM M S) j) 0 = 0) ↔ _
  rw [e1, e4]
set_option maxHeartbeats 4000000 in
set_option maxRecDepth 100000 in
theorem c_X7_hasSegment {l : Launch} {G : Gd} {M : Me} {h : Nat} {u : Si} {x y : Int32} (hW : Wt M) (ht : m_t M h = 8) (hR : CR M h u) : CQ (Qi G (fun r M2 => M2 = M ∧ (sgI u x y ∧ r = 1 ∨ ¬ sgI u x y ∧ r = 0))) l G yX7_hasSegment cX7_hasSegment 3 ((some .boolean)) 1 21 0 0 [.ref h, .int x, .int y] M := by
  refine c_of ([some (.ref h), some (.int x), some (.int y)] : Lo) RX7 "hasSegment" (by decide) rfl rfl (Nat.le_of_ble_eq_true rfl) rfl (fun p e s m below meth c hC nw => ?_)
  have hb : n_f u ≤ 8 := hR.2.1.1
  refine v_aload_n hC dX7_hasSegment_0 rfl rfl ?_
  refine v_iload_n hC dX7_hasSegment_1 rfl rfl ?_
  refine cVi1 hC (c_X7_hasFile ht hR.2.2.2.1.1 hb) yv_X7_hasFile rfl ht mw_3_64 ⟨Nat.le_of_ble_eq_true rfl, Nat.le_of_ble_eq_true rfl⟩ ⟨Nat.le_of_ble_eq_true rfl, Nat.le_of_ble_eq_true rfl⟩ (Nat.le_of_ble_eq_true rfl) dX7_hasSegment_2 (fun r2 M4 hq => ?_)
  obtain ⟨hm, hq2⟩ := hq
  have hm2 := hm.symm
  clear hm
  subst hm2
  obtain ⟨g2, rfl⟩ | ⟨g2, rfl⟩ := hq2
  · refine v_if_eq hC dX7_hasSegment_5 (tgt := 29) (by decide) (fun hx => absurd hx (by decide)) (fun _ => ?_)
    obtain ⟨f, hf, rfl⟩ := g2
    have h12 := hR.2.1.2.2.2.2 f hf
    refine v_iload_n hC dX7_hasSegment_8 rfl rfl ?_
    refine v_if_lt hC dX7_hasSegment_9 (tgt := 29) (by decide) (fun h9 => ?_) (fun h9 => ?_)
    · refine v_iconst (v := 0) hC dX7_hasSegment_29 (by decide) ?_
      refine v_zret hC (Or.inl rfl) dX7_hasSegment_30 ?_
      refine ⟨rfl, Or.inr ⟨fun ⟨f2, t, a1, a2, a3, a4⟩ => ?_, rfl⟩⟩
      have k12 := hR.2.1.2.2.2.2 f2 a1
      first | exact g2 ⟨f2, a1, a3⟩ | exact rg_lo h9 (n := n_s u f2) (by omega) ⟨t, a2, a4⟩ | (have e := (nI_eq (by omega) (by omega)).mp a3; subst e; exact rg_hi h22 (by omega) ⟨t, a2, a4⟩)
    · refine v_iload_n hC dX7_hasSegment_12 rfl rfl ?_
      refine v_aload_n hC dX7_hasSegment_13 rfl rfl ?_
      refine gf_7_3 hC ht (wf_215 hW ht) mw_2_34 dX7_hasSegment_14 ?_
      refine v_iload_n hC dX7_hasSegment_17 rfl rfl ?_
      refine v_aald 51 _ hC (wf_215 hW ht) (by decide) rfl (ix_c (wz_51 hW (wf_215 hW ht)) (by omega)) (we_51 hW (wf_215 hW ht) (by omega)) dX7_hasSegment_18 ?_
      refine gf_9_5 hC (we_51 hW (wf_215 hW ht) (by omega)) mw_1_145 dX7_hasSegment_19 ?_
      rw [(hR.fs hf).2.1]
      refine v_icmp_ge hC dX7_hasSegment_22 (tgt := 29) (by decide) (fun h22 => ?_) (fun h22 => ?_)
      · refine v_iconst (v := 0) hC dX7_hasSegment_29 (by decide) ?_
        refine v_zret hC (Or.inl rfl) dX7_hasSegment_30 ?_
        refine ⟨rfl, Or.inr ⟨fun ⟨f2, t, a1, a2, a3, a4⟩ => ?_, rfl⟩⟩
        have k12 := hR.2.1.2.2.2.2 f2 a1
        first | exact g2 ⟨f2, a1, a3⟩ | exact rg_lo h9 (n := n_s u f2) (by omega) ⟨t, a2, a4⟩ | (have e := (nI_eq (by omega) (by omega)).mp a3; subst e; exact rg_hi h22 (by omega) ⟨t, a2, a4⟩)
      · refine v_iconst (v := 1) hC dX7_hasSegment_25 (by decide) ?_
        refine v_goto hC dX7_hasSegment_26 (tgt := 30) (by decide) ?_
        refine v_zret hC (Or.inr rfl) dX7_hasSegment_30 ?_
        exact ⟨rfl, Or.inl ⟨by obtain ⟨t, q1, q2⟩ := rg_in h9 h22 (by omega); exact ⟨f, t, hf, q1, rfl, q2⟩, rfl⟩⟩
  · refine v_if_eq hC dX7_hasSegment_5 (tgt := 29) (by decide) (fun _ => ?_) (fun hx => absurd hx (by decide))
    refine v_iconst (v := 0) hC dX7_hasSegment_29 (by decide) ?_
    refine v_zret hC (Or.inl rfl) dX7_hasSegment_30 ?_
    refine ⟨rfl, Or.inr ⟨fun ⟨f2, t, a1, a2, a3, a4⟩ => ?_, rfl⟩⟩
    have k12 := hR.2.1.2.2.2.2 f2 a1
    first | exact g2 ⟨f2, a1, a3⟩ | exact rg_lo h9 (n := n_s u f2) (by omega) ⟨t, a2, a4⟩ | (have e := (nI_eq (by omega) (by omega)).mp a3; subst e; exact rg_hi h22 (by omega) ⟨t, a2, a4⟩)

def dsp (u : Si) (g : Sg) : Prop := ∃ e d, alE u g (nI e) ∧ e < n_e u ∧ opD u (nI e) (nI d) ∧ d < n_d u
set_option maxHeartbeats 4000000 in
set_option maxRecDepth 100000 in
theorem c_X4_isDisputed {l : Launch} {G : Gd} {M : Me} {S g0 : Nat} {u : Si} {g : Sg} (hW : Wt M) (ht : m_t M (pM M S) = 5) (hR : CR M S u) (hg : SgR M g0 g) : CQ (Qi G (fun r M2 => M2 = M ∧ (dsp u g ∧ r = 1 ∨ ¬ dsp u g ∧ r = 0))) l G yX4_isDisputed cX4_isDisputed 3 ((some .boolean)) 2 44 0 0 [.ref (pM M S), .ref g0] M := by
  refine c_of ([some (.ref (pM M S)), some (.ref g0), none] : Lo) RX4 "isDisputed" (by decide) rfl rfl (Nat.le_of_ble_eq_true rfl) rfl (fun p e s m below meth c hC nw => ?_)
  have c1 := hR.2.1.2.2.1
  have c2 := hR.2.1.2.2.2.1
  refine v_aload_n hC dX4_isDisputed_0 rfl rfl ?_
  refine v_aload_n hC dX4_isDisputed_1 rfl rfl ?_
  refine cVi1 hC (c_X4_alikeEntry hW ht hR.es hg) yv_X4_alikeEntry rfl ht mw_3_83 ⟨Nat.le_of_ble_eq_true rfl, Nat.le_of_ble_eq_true rfl⟩ ⟨Nat.le_of_ble_eq_true rfl, Nat.le_of_ble_eq_true rfl⟩ (Nat.le_of_ble_eq_true rfl) dX4_isDisputed_2 (fun r2 M4 hq => ?_)
  obtain ⟨hf, hm⟩ := hq
  have hm2 := hm.symm
  clear hm
  subst hm2
  have hE : alE u g r2 := hf
  refine v_ist2 hC dX4_isDisputed_5 (by decide) (kk := ?_)
  refine v_aload_n hC dX4_isDisputed_6 rfl rfl ?_
  refine v_iload_n hC dX4_isDisputed_7 rfl rfl ?_
  refine cVi1 hC (c_X4_hasEntry ht hR.ne.1 hR.2.1.2.2.1) yv_X4_hasEntry rfl ht mw_3_84 ⟨Nat.le_of_ble_eq_true rfl, Nat.le_of_ble_eq_true rfl⟩ ⟨Nat.le_of_ble_eq_true rfl, Nat.le_of_ble_eq_true rfl⟩ (Nat.le_of_ble_eq_true rfl) dX4_isDisputed_8 (fun r8 M10 hq => ?_)
  obtain ⟨hm, hq2⟩ := hq
  have hm2 := hm.symm
  clear hm
  subst hm2
  obtain ⟨g8, rfl⟩ | ⟨g8, rfl⟩ := hq2
  · refine v_if_eq hC dX4_isDisputed_11 (tgt := 28) (by decide) (fun hx => absurd hx (by decide)) (fun _ => ?_)
    obtain ⟨e, he, rfl⟩ := g8
    refine v_aload_n hC dX4_isDisputed_14 rfl rfl ?_
    refine v_iload_n hC dX4_isDisputed_15 rfl rfl ?_
    refine cVi1 hC (c_X4_openDispute hW ht hR.ne.2 c2) yv_X4_openDispute rfl ht mw_3_109 ⟨Nat.le_of_ble_eq_true rfl, Nat.le_of_ble_eq_true rfl⟩ ⟨Nat.le_of_ble_eq_true rfl, Nat.le_of_ble_eq_true rfl⟩ (Nat.le_of_ble_eq_true rfl) dX4_isDisputed_16 (fun r16 M18 hq => ?_)
    obtain ⟨hd, hm⟩ := hq
    have hm2 := hm.symm
    clear hm
    subst hm2
    have hD := hR.opD hd
    refine v_bipush (v := (-5)) hC dX4_isDisputed_19 (by decide) ?_
    refine v_icmp_eq hC dX4_isDisputed_21 (tgt := 28) (by decide) (fun h21 => ?_) (fun h21 => ?_)
    · have z21 := h21
      refine v_iconst (v := 0) hC dX4_isDisputed_28 (by decide) ?_
      refine v_zret hC (Or.inl rfl) dX4_isDisputed_29 ?_
      refine ⟨rfl, Or.inr ⟨fun ⟨e2, d2, a1, a2, a3, a4⟩ => ?_, rfl⟩⟩
      have w := hE.uniq a1
      first
        | exact g8 ⟨e2, a2, w⟩
        | (rw [← w] at a3; have w2 := hD.uniq a3; rw [z21] at w2; exact absurd (show (nI d2 : Int32) < 0 from by rw [← w2]; decide) (fun q => i_ab q (nI_le (a := 0) (Nat.zero_le d2) (by omega))))
    · have z21 := h21
      refine v_iconst (v := 1) hC dX4_isDisputed_24 (by decide) ?_
      refine v_goto hC dX4_isDisputed_25 (tgt := 29) (by decide) ?_
      refine v_zret hC (Or.inr rfl) dX4_isDisputed_29 ?_
      refine ⟨rfl, Or.inl ⟨?_, rfl⟩⟩
      rcases hD with ⟨d, d1, d2, d3, rfl⟩ | ⟨d1, rfl⟩
      · exact ⟨e, d, hE, he, Or.inl ⟨d, d1, d2, d3, rfl⟩, d1⟩
      · exact absurd rfl z21
  · refine v_if_eq hC dX4_isDisputed_11 (tgt := 28) (by decide) (fun _ => ?_) (fun hx => absurd hx (by decide))
    refine v_iconst (v := 0) hC dX4_isDisputed_28 (by decide) ?_
    refine v_zret hC (Or.inl rfl) dX4_isDisputed_29 ?_
    refine ⟨rfl, Or.inr ⟨fun ⟨e2, d2, a1, a2, a3, a4⟩ => ?_, rfl⟩⟩
    have w := hE.uniq a1
    first
      | exact g8 ⟨e2, a2, w⟩
      | (rw [← w] at a3; have w2 := hD.uniq a3; rw [z21] at w2; exact absurd (show (nI d2 : Int32) < 0 from by rw [← w2]; decide) (fun q => i_ab q (nI_le (a := 0) (Nat.zero_le d2) (by omega))))
