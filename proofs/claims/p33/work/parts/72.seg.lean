/-! scratch numbers of the reference: the two short rows (26, 27) -/
def s_d (M : Me) (b : Nat → Nat → Nat → Int32) : Me := (M.1, M.2.1, M.2.2.1, fun k a j => if k = 26 ∨ k = 27 then b k a j else M.2.2.2.1 k a j, M.2.2.2.2)
def Bd (M M2 : Me) : Prop := ∃ b, M2 = s_d M b
theorem Bd.rf {M : Me} : Bd M M := ⟨M.2.2.2.1, me_ext (fun k a j => (ite_self _).symm)⟩
theorem Bd.tr {M M2 M3 : Me} (h : Bd M M2) (h2 : Bd M2 M3) : Bd M M3 := by
  obtain ⟨b, rfl⟩ := h
  obtain ⟨b2, rfl⟩ := h2
  exact ⟨b2, me_ext (fun k a j => by
    show (if k = 26 ∨ k = 27 then b2 k a j else if k = 26 ∨ k = 27 then b k a j else M.2.2.2.1 k a j) = _
    by_cases q : k = 26 ∨ k = 27
    · rw [if_pos q, if_pos q]
    · rw [if_neg q, if_neg q, if_neg q])⟩
theorem Bd.si {M : Me} {k x i : Nat} {v : Int32} (hk : k = 26 ∨ k = 27) : Bd M (s_i M k x i v) := ⟨(s_i M k x i v).2.2.2.1, me_ext (fun k2 a j => by
  show (if k2 = k ∧ a = x ∧ j = i then v else M.2.2.2.1 k2 a j) = if k2 = 26 ∨ k2 = 27 then (if k2 = k ∧ a = x ∧ j = i then v else M.2.2.2.1 k2 a j) else M.2.2.2.1 k2 a j
  by_cases q : k2 = 26 ∨ k2 = 27
  · rw [if_pos q]
  · rw [if_neg q, if_neg (fun w => q (by rw [w.1]; exact hk))])⟩
theorem SgN.wd {r : Nat → Int64} {p i : Nat} {g : Sg} (h : SgN (fun i => r (p + i)) g) (hi : i < 8) : r (p + 1 + i) = Int64.ofNat (v27 (g.getD i [])) := by
  have := h.2.2 i hi
  rw [show p + 1 + i = p + (1 + i) by omega]; exact this
theorem SgN.n0 {r : Nat → Int64} {p : Nat} {g : Sg} (h : SgN (fun i => r (p + i)) g) : r p = lN g.length := h.2.1
theorem v27_lt {w : List Nat} (h : w.length ≤ 8) (h2 : ∀ c ∈ w, 1 ≤ c ∧ c ≤ 26) : v27 w < 2 ^ 63 := by
  have h1 := vB_lt (B := 27) (by decide) w.length w rfl h2
  have h3 : (27 : Nat) ^ w.length ≤ 27 ^ 8 := Nat.pow_le_pow_right (by decide) h
  have h4 : (27 : Nat) ^ 8 < 2 ^ 63 := by decide
  exact Nat.lt_of_lt_of_le h1 (Nat.le_trans h3 (Nat.le_of_lt h4))
theorem gD_w {g : Sg} (h : gSeg g) (i : Nat) : (g.getD i []).length ≤ 8 ∧ ∀ c ∈ g.getD i [], 1 ≤ c ∧ c ≤ 26 := by
  by_cases hi : i < g.length
  · exact (h.at hi).2
  · rw [List.getD_eq_getElem?_getD, List.getElem?_eq_none (by omega)]
    exact ⟨Nat.zero_le _, by simp⟩
theorem w27_inj {g g2 : Sg} (h : gSeg g) (h2 : gSeg g2) {i j : Nat} (e : Int64.ofNat (v27 (g.getD i [])) = Int64.ofNat (v27 (g2.getD j []))) : g.getD i [] = g2.getD j [] := by
  obtain ⟨a1, a2⟩ := gD_w h i
  obtain ⟨b1, b2⟩ := gD_w h2 j
  exact vB_inj (by decide) _ _ _ rfl a2 b2 (v_i64 (v27_lt a1 a2) (v27_lt b1 b2) e)
theorem bd_b : ∀ b : Fin 64, ∀ q : Fin 6, (((nI b.1).toInt64 >>> ((nI q.1).toInt64 &&& 63)) &&& 1 = 1 ↔ (nI b.1 >>> (nI q.1 &&& 31)) &&& 1 = 1) := by decide +kernel
/-- bars are six bits -/
def WfB (u : Si) : Prop := ∀ p, p < n_p u → ∃ b, b < 64 ∧ q_i u 2 p 0 = nI b
set_option maxHeartbeats 4000000 in
set_option maxRecDepth 100000 in
theorem c_X11_noSegment {l : Launch} {G : Gd} {M : Me} {h : Nat} {u : Si} {x y : Int32} (hW : Wt M) (ht : m_t M h = 12) (hA : LA (rwM M h) u) : CQ (Qi G (fun r M2 => M2 = M ∧ (sgI u x y ∧ r = 0 ∨ ¬ sgI u x y ∧ r = 1))) l G yX11_noSegment cX11_noSegment 3 ((some .boolean)) 2 43 0 0 [.ref h, .int x, .int y] M := by
  refine c_of ([some (.ref h), some (.int x), some (.int y)] : Lo) RX11 "noSegment" (by decide) rfl rfl (Nat.le_of_ble_eq_true rfl) rfl (fun p e s m below meth c hC nw => ?_)
  have u1 := hA.1.1
  have u2 := hA.1.2.1
  have u3 := hA.1.2.2.1
  have u4 := hA.1.2.2.2.1
  refine v_aload_n hC dX11_noSegment_0 rfl rfl ?_
  refine v_iload_n hC dX11_noSegment_1 rfl rfl ?_
  refine cVi1 hC (c_X11_noFile hW ht hA) yv_X11_noFile rfl ht mw_4_230 ⟨Nat.le_of_ble_eq_true rfl, Nat.le_of_ble_eq_true rfl⟩ ⟨Nat.le_of_ble_eq_true rfl, Nat.le_of_ble_eq_true rfl⟩ (Nat.le_of_ble_eq_true rfl) dX11_noSegment_2 (fun r2 M4 hq => ?_)
  obtain ⟨hm, hq2⟩ := hq
  have hm2 := hm.symm
  clear hm
  subst hm2
  obtain ⟨g2, rfl⟩ | ⟨g2, rfl⟩ := hq2
  · refine v_if_ne hC dX11_noSegment_5 (tgt := 23) (by decide) (fun hx => absurd hx (by decide)) (fun _ => ?_)
    obtain ⟨f, hf, rfl⟩ := g2
    have h12 := hA.1.2.2.2.2 f hf
    refine v_iload_n hC dX11_noSegment_8 rfl rfl ?_
    refine v_iconst (v := 0) hC dX11_noSegment_9 (by decide) ?_
    refine v_aload_n hC dX11_noSegment_10 rfl rfl ?_
    refine v_iload_n hC dX11_noSegment_11 rfl rfl ?_
    refine cVi1 hC (c_X11_many hW ht hA (by assumption)) yv_X11_many rfl ht mw_5_15 ⟨Nat.le_of_ble_eq_true rfl, Nat.le_of_ble_eq_true rfl⟩ ⟨Nat.le_of_ble_eq_true rfl, Nat.le_of_ble_eq_true rfl⟩ (Nat.le_of_ble_eq_true rfl) dX11_noSegment_12 (fun r12 M14 hq => ?_)
    obtain ⟨rfl, hm⟩ := hq
    have hm2 := hm.symm
    clear hm
    subst hm2
    refine v_iconst (v := 1) hC dX11_noSegment_15 (by decide) ?_
    refine v_isub hC dX11_noSegment_16 ?_
    refine cSi3 hC (c_X11_in ) ys_X11_in mw_4_181 ⟨Nat.le_of_ble_eq_true rfl, Nat.le_of_ble_eq_true rfl⟩ ⟨Nat.le_of_ble_eq_true rfl, Nat.le_of_ble_eq_true rfl⟩ (Nat.le_of_ble_eq_true rfl) dX11_noSegment_17 (fun r17 M19 hq => ?_)
    obtain ⟨hm, hq2⟩ := hq
    have hm2 := hm.symm
    clear hm
    subst hm2
    obtain ⟨g17, rfl⟩ | ⟨g17, rfl⟩ := hq2
    · refine v_if_ne hC dX11_noSegment_20 (tgt := 27) (by decide) (fun _ => ?_) (fun hx => absurd hx (by decide))
      refine v_iconst (v := 0) hC dX11_noSegment_27 (by decide) ?_
      refine v_zret hC (Or.inl rfl) dX11_noSegment_28 ?_
      exact ⟨rfl, Or.inl ⟨by obtain ⟨t, q1, q2⟩ := rg_m g17.1 g17.2 (by omega); exact ⟨f, t, hf, q1, rfl, q2⟩, rfl⟩⟩
    · refine v_if_ne hC dX11_noSegment_20 (tgt := 27) (by decide) (fun hx => absurd hx (by decide)) (fun _ => ?_)
      refine v_iconst (v := 1) hC dX11_noSegment_23 (by decide) ?_
      refine v_goto hC dX11_noSegment_24 (tgt := 28) (by decide) ?_
      refine v_zret hC (Or.inr rfl) dX11_noSegment_28 ?_
      refine ⟨rfl, Or.inr ⟨fun ⟨f2, t, a1, a2, a3, a4⟩ => ?_, rfl⟩⟩
      have k12 := hA.1.2.2.2.2 f2 a1
      first
        | exact g2 ⟨f2, a1, a3⟩
        | (have e := (nI_eq (by omega) (by omega)).mp a3; subst e; exact g17 (rg_n ⟨t, a2, a4⟩ (by omega)))
  · refine v_if_ne hC dX11_noSegment_5 (tgt := 23) (by decide) (fun _ => ?_) (fun hx => absurd hx (by decide))
    refine v_iconst (v := 1) hC dX11_noSegment_23 (by decide) ?_
    refine v_goto hC dX11_noSegment_24 (tgt := 28) (by decide) ?_
    refine v_zret hC (Or.inr rfl) dX11_noSegment_28 ?_
    refine ⟨rfl, Or.inr ⟨fun ⟨f2, t, a1, a2, a3, a4⟩ => ?_, rfl⟩⟩
    have k12 := hA.1.2.2.2.2 f2 a1
    first
      | exact g2 ⟨f2, a1, a3⟩
      | (have e := (nI_eq (by omega) (by omega)).mp a3; subst e; exact g17 (rg_n ⟨t, a2, a4⟩ (by omega)))

set_option maxHeartbeats 4000000 in
set_option maxRecDepth 100000 in
theorem c_X11_areBarred {l : Launch} {G : Gd} {M : Me} {h p1 q1 : Nat} {u : Si} (hW : Wt M) (ht : m_t M h = 12) (hA : LA (rwM M h) u) (hB : WfB u) (hp : p1 < n_p u) (hq : q1 < 6) : CQ (Qi G (fun r M2 => M2 = M ∧ (brd (q_i u 2 p1 0) (nI q1) ∧ r = 1 ∨ ¬ brd (q_i u 2 p1 0) (nI q1) ∧ r = 0))) l G yX11_areBarred cX11_areBarred 3 ((some .boolean)) 1 21 0 0 [.ref h, .int (nI p1), .int (nI q1)] M := by
  refine c_of ([some (.ref h), some (.int (nI p1)), some (.int (nI q1))] : Lo) RX11 "areBarred" (by decide) rfl rfl (Nat.le_of_ble_eq_true rfl) rfl (fun p e s m below meth c hC nw => ?_)
  have u1 := hA.1.1
  have u2 := hA.1.2.1
  have u3 := hA.1.2.2.1
  have u4 := hA.1.2.2.2.1
  obtain ⟨b, hb, eb⟩ := hB p1 hp
  have hbd := bd_b ⟨b, hb⟩ ⟨q1, hq⟩
  have hwz := wz_31 hW (wf_276 hW ht)
  refine v_aload_n hC dX11_areBarred_0 rfl rfl ?_
  refine gf_11_0 hC ht (wf_276 hW ht) mw_4_120 dX11_areBarred_1 ?_
  refine v_aload_n hC dX11_areBarred_4 rfl rfl ?_
  refine v_iload_n hC dX11_areBarred_5 rfl rfl ?_
  refine cVi1 hC (c_X11_personBy ht) yv_X11_personBy rfl ht mw_4_185 ⟨Nat.le_of_ble_eq_true rfl, Nat.le_of_ble_eq_true rfl⟩ ⟨Nat.le_of_ble_eq_true rfl, Nat.le_of_ble_eq_true rfl⟩ (Nat.le_of_ble_eq_true rfl) dX11_areBarred_6 (fun r6 M8 hq => ?_)
  obtain ⟨rfl, hm⟩ := hq
  have hm2 := hm.symm
  clear hm
  subst hm2
  refine v_iconst (v := 1) hC dX11_areBarred_9 (by decide) ?_
  refine v_iadd hC dX11_areBarred_10 ?_
  rw [show nI (74 + 7 * p1) + 1 = nI (74 + 7 * p1 + 1) from nI_add _ 1]
  refine v_lald 31 hC (wf_276 hW ht) (by decide) (by decide) (ix_c hwz (by omega)) dX11_areBarred_11 ?_
  rw [show m_l M 31 (m_r M 276 h 0) (74 + 7 * p1 + 1) = _ from (hA.p3 hp).2.1, eb]
  refine v_iload_n hC dX11_areBarred_12 rfl rfl ?_
  refine v_lshr hC dX11_areBarred_13 ?_
  refine v_lconst (v := 1) hC dX11_areBarred_14 (by decide) ?_
  refine v_land hC dX11_areBarred_15 ?_
  refine v_lconst (v := 1) hC dX11_areBarred_16 (by decide) ?_
  refine v_lcmp hC dX11_areBarred_17 ?_
  refine v_if_ne hC dX11_areBarred_18 (tgt := 25) (by decide) (fun h18 => ?_) (fun h18 => ?_)
  · refine v_iconst (v := 0) hC dX11_areBarred_25 (by decide) ?_
    refine v_zret hC (Or.inl rfl) dX11_areBarred_26 ?_
    exact ⟨rfl, Or.inr ⟨fun q => h18 ((lg_cmp_eq _ _).mpr (hbd.mpr q)), rfl⟩⟩
  · refine v_iconst (v := 1) hC dX11_areBarred_21 (by decide) ?_
    refine v_goto hC dX11_areBarred_22 (tgt := 26) (by decide) ?_
    refine v_zret hC (Or.inr rfl) dX11_areBarred_26 ?_
    exact ⟨rfl, Or.inl ⟨hbd.mp ((lg_cmp_eq _ _).mp h18), rfl⟩⟩

set_option maxHeartbeats 4000000 in
set_option maxRecDepth 100000 in
theorem c_X11_areAlike {l : Launch} {G : Gd} {M : Me} {h a b : Nat} {g1 g2 : Sg} (hW : Wt M) (ht : m_t M h = 12) (h1 : SgN (fun i => rwM M h (a + i)) g1) (h2 : SgN (fun i => rwM M h (b + i)) g2) (ha : a + 9 ≤ 1662) (hb : b + 9 ≤ 1662) : CQ (Qi G (fun r M2 => M2 = M ∧ (g1 = g2 ∧ r = 1 ∨ ¬ g1 = g2 ∧ r = 0))) l G yX11_areAlike cX11_areAlike 5 ((some .boolean)) 0 0 0 0 [.ref h, .int (nI a), .int (nI b)] M := by
  refine c_of ([some (.ref h), some (.int (nI a)), some (.int (nI b)), none, none] : Lo) RX11 "areAlike" (by decide) rfl rfl (Nat.le_of_ble_eq_true rfl) rfl (fun p e s m below meth c hC nw => ?_)
  have hwz := wz_31 hW (wf_276 hW ht)
  have b1 := h1.1.2.1
  have b2 := h2.1.2.1
  have b3 := h1.1.1
  have b4 := h2.1.1
  have loop : ∀ (k i : Nat) (x : Int32), i + k = 9 → i ≤ 8 → ((g1.length = g2.length ∧ ∀ t, t < i → g1.getD t [] = g2.getD t []) ∧ x = 1 ∨ ¬ (g1.length = g2.length ∧ ∀ t, t < i → g1.getD t [] = g2.getD t []) ∧ x = 0) → V p l e (rmk 0 0 0 0) s m ([.ref h, .int (nI a), .int (nI b)] : List Value).toArray below meth c 5 G (MQ below (Qi G (fun r M2 => M2 = M ∧ (g1 = g2 ∧ r = 1 ∨ ¬ g1 = g2 ∧ r = 0))) ([.ref h, .int (nI a), .int (nI b)] : List Value).toArray s 0 0 (fr_ G)) M 0 0 29 ([some (.ref h), some (.int (nI a)), some (.int (nI b)), some (.int x), some (.int (nI i))] : Lo) [] := by
    intro k
    induction k with
    | zero => intro i x w1 w2; omega
    | succ k ih =>
      intro i x w1 w2 hP
      refine v_iload hC dX11_areAlike_29 rfl ?_
      refine v_bipush (v := 8) hC dX11_areAlike_31 (by decide) ?_
      refine v_icmp_ge hC dX11_areAlike_33 (tgt := 78) (by decide) (fun h33 => ?_) (fun h33 => ?_)
      · have hi := lp_ge (N := 8) h33
        refine v_iload_n hC dX11_areAlike_78 rfl rfl ?_
        refine v_zret hC (hP.elim (fun q => Or.inr q.2) (fun q => Or.inl q.2)) dX11_areAlike_79 ?_
        have hie : i = 8 := by omega
        subst hie
        refine ⟨rfl, hP.elim (fun q => Or.inl ⟨sg_ext q.1.1 (fun t ht2 => q.1.2 t (by omega)), q.2⟩) (fun q => Or.inr ⟨fun z => q.1 ⟨by rw [z], fun t _ => by rw [z]⟩, q.2⟩)⟩
      · have hi : i < 8 := lp_lt (N := 8) h33
        refine v_iload_n hC dX11_areAlike_36 rfl rfl ?_
        refine v_if_eq hC dX11_areAlike_37 (tgt := 70) (by decide) (fun h37 => ?_) (fun h37 => ?_)
        · have hQ : ¬ (g1.length = g2.length ∧ ∀ t, t < i → g1.getD t [] = g2.getD t []) := by
            rcases hP with ⟨q, e⟩ | ⟨q, e⟩
            · rw [h37] at e; exact absurd e (by decide)
            · exact q
          refine v_iconst (v := 0) hC dX11_areAlike_70 (by decide) ?_
          refine v_ist3 hC dX11_areAlike_71 (by decide) (kk := ?_)
          refine v_inc4 hC dX11_areAlike_72 ((nI_succ i).symm) (by decide) (kk := ?_)
          refine v_goto hC dX11_areAlike_75 (tgt := 29) (by decide) ?_
          first
            | exact ih (i + 1) 1 (by omega) (by omega) (Or.inl ⟨⟨hQ.1, fun t ht2 => by
                by_cases q : t = i
                · rw [q]; exact h63
                · exact hQ.2 t (by omega)⟩, rfl⟩)
            | exact ih (i + 1) 0 (by omega) (by omega) (Or.inr ⟨fun q => h63 (q.2 i (by omega)), rfl⟩)
            | exact ih (i + 1) 0 (by omega) (by omega) (Or.inr ⟨fun q => hQ ⟨q.1, fun t ht2 => q.2 t (by omega)⟩, rfl⟩)
        · have hQ : (g1.length = g2.length ∧ ∀ t, t < i → g1.getD t [] = g2.getD t []) := by
            rcases hP with ⟨q, e⟩ | ⟨q, e⟩
            · exact q
            · exact absurd e h37
          refine v_aload_n hC dX11_areAlike_40 rfl rfl ?_
          refine gf_11_0 hC ht (wf_276 hW ht) mw_4_120 dX11_areAlike_41 ?_
          refine v_iload_n hC dX11_areAlike_44 rfl rfl ?_
          refine v_iconst (v := 1) hC dX11_areAlike_45 (by decide) ?_
          refine v_iadd hC dX11_areAlike_46 ?_
          rw [show nI a + 1 = nI (a + 1) from nI_add _ 1]
          refine v_iload hC dX11_areAlike_47 rfl ?_
          refine v_iadd hC dX11_areAlike_49 ?_
          rw [nI_add]
          refine v_lald 31 hC (wf_276 hW ht) (by decide) (by decide) (ix_c hwz (by omega)) dX11_areAlike_50 ?_
          rw [show m_l M 31 (m_r M 276 h 0) (a + 1 + i) = _ from h1.wd hi]
          refine v_aload_n hC dX11_areAlike_51 rfl rfl ?_
          refine gf_11_0 hC ht (wf_276 hW ht) mw_4_120 dX11_areAlike_52 ?_
          refine v_iload_n hC dX11_areAlike_55 rfl rfl ?_
          refine v_iconst (v := 1) hC dX11_areAlike_56 (by decide) ?_
          refine v_iadd hC dX11_areAlike_57 ?_
          rw [show nI b + 1 = nI (b + 1) from nI_add _ 1]
          refine v_iload hC dX11_areAlike_58 rfl ?_
          refine v_iadd hC dX11_areAlike_60 ?_
          rw [nI_add]
          refine v_lald 31 hC (wf_276 hW ht) (by decide) (by decide) (ix_c hwz (by omega)) dX11_areAlike_61 ?_
          rw [show m_l M 31 (m_r M 276 h 0) (b + 1 + i) = _ from h2.wd hi]
          refine v_lcmp hC dX11_areAlike_62 ?_
          refine v_if_ne hC dX11_areAlike_63 (tgt := 70) (by decide) (fun h63 => ?_) (fun h63 => ?_)
          · have h63 : ¬ g1.getD i [] = g2.getD i [] := fun q => h63 ((lg_cmp_eq _ _).mpr (by rw [q]))
            refine v_iconst (v := 0) hC dX11_areAlike_70 (by decide) ?_
            refine v_ist3 hC dX11_areAlike_71 (by decide) (kk := ?_)
            refine v_inc4 hC dX11_areAlike_72 ((nI_succ i).symm) (by decide) (kk := ?_)
            refine v_goto hC dX11_areAlike_75 (tgt := 29) (by decide) ?_
            first
              | exact ih (i + 1) 1 (by omega) (by omega) (Or.inl ⟨⟨hQ.1, fun t ht2 => by
                  by_cases q : t = i
                  · rw [q]; exact h63
                  · exact hQ.2 t (by omega)⟩, rfl⟩)
              | exact ih (i + 1) 0 (by omega) (by omega) (Or.inr ⟨fun q => h63 (q.2 i (by omega)), rfl⟩)
              | exact ih (i + 1) 0 (by omega) (by omega) (Or.inr ⟨fun q => hQ ⟨q.1, fun t ht2 => q.2 t (by omega)⟩, rfl⟩)
          · have h63 := w27_inj h1.1 h2.1 ((lg_cmp_eq _ _).mp h63)
            refine v_iconst (v := 1) hC dX11_areAlike_66 (by decide) ?_
            refine v_goto hC dX11_areAlike_67 (tgt := 71) (by decide) ?_
            refine v_ist3 hC dX11_areAlike_71 (by decide) (kk := ?_)
            refine v_inc4 hC dX11_areAlike_72 ((nI_succ i).symm) (by decide) (kk := ?_)
            refine v_goto hC dX11_areAlike_75 (tgt := 29) (by decide) ?_
            first
              | exact ih (i + 1) 1 (by omega) (by omega) (Or.inl ⟨⟨hQ.1, fun t ht2 => by
                  by_cases q : t = i
                  · rw [q]; exact h63
                  · exact hQ.2 t (by omega)⟩, rfl⟩)
              | exact ih (i + 1) 0 (by omega) (by omega) (Or.inr ⟨fun q => h63 (q.2 i (by omega)), rfl⟩)
              | exact ih (i + 1) 0 (by omega) (by omega) (Or.inr ⟨fun q => hQ ⟨q.1, fun t ht2 => q.2 t (by omega)⟩, rfl⟩)
  refine v_aload_n hC dX11_areAlike_0 rfl rfl ?_
  refine gf_11_0 hC ht (wf_276 hW ht) mw_4_120 dX11_areAlike_1 ?_
  refine v_iload_n hC dX11_areAlike_4 rfl rfl ?_
  refine v_iconst (v := 0) hC dX11_areAlike_5 (by decide) ?_
  refine v_iadd hC dX11_areAlike_6 ?_
  rw [show nI a + 0 = nI a from nI_add _ 0]
  refine v_lald 31 hC (wf_276 hW ht) (by decide) (by decide) (ix_c hwz (by omega)) dX11_areAlike_7 ?_
  rw [show m_l M 31 (m_r M 276 h 0) a = lN g1.length from h1.n0]
  refine v_aload_n hC dX11_areAlike_8 rfl rfl ?_
  refine gf_11_0 hC ht (wf_276 hW ht) mw_4_120 dX11_areAlike_9 ?_
  refine v_iload_n hC dX11_areAlike_12 rfl rfl ?_
  refine v_iconst (v := 0) hC dX11_areAlike_13 (by decide) ?_
  refine v_iadd hC dX11_areAlike_14 ?_
  rw [show nI b + 0 = nI b from nI_add _ 0]
  refine v_lald 31 hC (wf_276 hW ht) (by decide) (by decide) (ix_c hwz (by omega)) dX11_areAlike_15 ?_
  rw [show m_l M 31 (m_r M 276 h 0) b = lN g2.length from h2.n0]
  refine v_lcmp hC dX11_areAlike_16 ?_
  refine v_if_ne hC dX11_areAlike_17 (tgt := 24) (by decide) (fun h17 => ?_) (fun h17 => ?_)
  · refine v_iconst (v := 0) hC dX11_areAlike_24 (by decide) ?_
    refine v_ist3 hC dX11_areAlike_25 (by decide) (kk := ?_)
    refine v_iconst (v := 0) hC dX11_areAlike_26 (by decide) ?_
    refine v_ist4 hC dX11_areAlike_27 (by decide) (kk := ?_)
    first
      | exact loop 9 0 1 (by omega) (by omega) (Or.inl ⟨⟨(lN_eq (by omega) (by omega)).mp ((lg_cmp_eq _ _).mp h17), fun t ht2 => absurd ht2 (Nat.not_lt_zero t)⟩, rfl⟩)
      | exact loop 9 0 0 (by omega) (by omega) (Or.inr ⟨fun q => h17 ((lg_cmp_eq _ _).mpr (by rw [q.1])), rfl⟩)
  · refine v_iconst (v := 1) hC dX11_areAlike_20 (by decide) ?_
    refine v_goto hC dX11_areAlike_21 (tgt := 25) (by decide) ?_
    refine v_ist3 hC dX11_areAlike_25 (by decide) (kk := ?_)
    refine v_iconst (v := 0) hC dX11_areAlike_26 (by decide) ?_
    refine v_ist4 hC dX11_areAlike_27 (by decide) (kk := ?_)
    first
      | exact loop 9 0 1 (by omega) (by omega) (Or.inl ⟨⟨(lN_eq (by omega) (by omega)).mp ((lg_cmp_eq _ _).mp h17), fun t ht2 => absurd ht2 (Nat.not_lt_zero t)⟩, rfl⟩)
      | exact loop 9 0 0 (by omega) (by omega) (Or.inr ⟨fun q => h17 ((lg_cmp_eq _ _).mpr (by rw [q.1])), rfl⟩)

set_option maxHeartbeats 4000000 in
set_option maxRecDepth 100000 in
theorem c_X11_entryLike {l : Launch} {G : Gd} {M : Me} {h a : Nat} {u : Si} {g : Sg} (hW : Wt M) (ht : m_t M h = 12) (hA : LA (rwM M h) u) (hg : SgN (fun i => rwM M h (a + i)) g) (ha : a + 9 ≤ 1662) : CQ (Qi G (fun r M2 => r = eN (alN u g) ∧ M2 = M)) l G yX11_entryLike cX11_entryLike 3 ((some .int)) 1 24 0 0 [.ref h, .int (nI a)] M := by
  refine c_of ([some (.ref h), some (.int (nI a)), none] : Lo) RX11 "entryLike" (by decide) rfl rfl (Nat.le_of_ble_eq_true rfl) rfl (fun p e s m below meth c hC nw => ?_)
  have u1 := hA.1.1
  have u2 := hA.1.2.1
  have u3 := hA.1.2.2.1
  have u4 := hA.1.2.2.2.1
  have hwz := wz_31 hW (wf_276 hW ht)
  have loop : ∀ (k i : Nat), i + k = 41 → i ≤ n_e u → (∀ j, j < i → ¬ alB u g j = true) → V p l e (rmk 1 24 0 0) s m ([.ref h, .int (nI a)] : List Value).toArray below meth c 3 G (MQ below (Qi G (fun r M2 => r = eN (alN u g) ∧ M2 = M)) ([.ref h, .int (nI a)] : List Value).toArray s 0 0 (fr_ G)) M 0 0 2 ([some (.ref h), some (.int (nI a)), some (.int (nI i))] : Lo) [] := by
    intro k
    induction k with
    | zero => intro i w1 w2; omega
    | succ k ih =>
      intro i w1 w2 hI
      refine v_iload_n hC dX11_entryLike_2 rfl rfl ?_
      refine v_i2l hC dX11_entryLike_3 ?_
      rw [nI_l (by omega)]
      refine v_aload_n hC dX11_entryLike_4 rfl rfl ?_
      refine gf_11_0 hC ht (wf_276 hW ht) mw_4_120 dX11_entryLike_5 ?_
      refine v_iconst (v := 2) hC dX11_entryLike_8 (by decide) ?_
      refine v_lald 31 hC (wf_276 hW ht) (by decide) (by decide) (ix_q (j := 2) hwz rfl) dX11_entryLike_9 ?_
      rw [show m_l M 31 (m_r M 276 h 0) 2 = _ from hA.c2]
      refine v_lcmp hC dX11_entryLike_10 ?_
      refine v_if_ge hC dX11_entryLike_11 (tgt := 35) (by decide) (fun h11 => ?_) (fun h11 => ?_)
      · have hi := lc_ge h11
        refine v_bipush (v := (-5)) hC dX11_entryLike_35 (by decide) ?_
        refine v_iret hC dX11_entryLike_37 ?_
        exact ⟨by rw [alN, fsN_o (fun j hj => hI j (by omega))]; rfl, rfl⟩
      · have hi := lc_lt h11
        refine v_aload_n hC dX11_entryLike_14 rfl rfl ?_
        refine v_aload_n hC dX11_entryLike_15 rfl rfl ?_
        refine v_iload_n hC dX11_entryLike_16 rfl rfl ?_
        refine cVi1 hC (c_X11_entryAt ht) yv_X11_entryAt rfl ht mw_5_35 ⟨Nat.le_of_ble_eq_true rfl, Nat.le_of_ble_eq_true rfl⟩ ⟨Nat.le_of_ble_eq_true rfl, Nat.le_of_ble_eq_true rfl⟩ (Nat.le_of_ble_eq_true rfl) dX11_entryLike_17 (fun r17 M19 hq => ?_)
        obtain ⟨rfl, hm⟩ := hq
        have hm2 := hm.symm
        clear hm
        subst hm2
        refine v_iload_n hC dX11_entryLike_20 rfl rfl ?_
        refine cVi2 hC (c_X11_areAlike hW ht (hA.eg hi) hg (by omega) ha) yv_X11_areAlike rfl ht mw_5_92 ⟨Nat.le_of_ble_eq_true rfl, Nat.le_of_ble_eq_true rfl⟩ ⟨Nat.le_of_ble_eq_true rfl, Nat.le_of_ble_eq_true rfl⟩ (Nat.le_of_ble_eq_true rfl) dX11_entryLike_21 (fun r21 M23 hq => ?_)
        obtain ⟨hm, hq2⟩ := hq
        have hm2 := hm.symm
        clear hm
        subst hm2
        obtain ⟨g21, rfl⟩ | ⟨g21, rfl⟩ := hq2
        · refine v_if_eq hC dX11_entryLike_24 (tgt := 29) (by decide) (fun hx => absurd hx (by decide)) (fun _ => ?_)
          refine v_iload_n hC dX11_entryLike_27 rfl rfl ?_
          refine v_iret hC dX11_entryLike_28 ?_
          exact ⟨by rw [alN, fsN_s hi (decide_eq_true g21) hI]; rfl, rfl⟩
        · refine v_if_eq hC dX11_entryLike_24 (tgt := 29) (by decide) (fun _ => ?_) (fun hx => absurd hx (by decide))
          refine v_inc2 hC dX11_entryLike_29 ((nI_succ i).symm) (by decide) (kk := ?_)
          refine v_goto hC dX11_entryLike_32 (tgt := 2) (by decide) ?_
          exact ih (i + 1) (by omega) (by omega) (fun j hj => by
            by_cases q : j = i
            · rw [q]; exact fun z => g21 (of_decide_eq_true z)
            · exact hI j (by omega))
  refine v_iconst (v := 0) hC dX11_entryLike_0 (by decide) ?_
  refine v_ist2 hC dX11_entryLike_1 (by decide) (kk := ?_)
  exact loop 41 0 (by omega) (by omega) (fun j hj => absurd hj (Nat.not_lt_zero j))

set_option maxHeartbeats 4000000 in
set_option maxRecDepth 100000 in
theorem c_X11_least {l : Launch} {G : Gd} {M : Me} {a b d : Nat} (ha : a < 2 ^ 31) (hb : b < 2 ^ 31) (hd : d < 2 ^ 31) : CQ (Qi G (fun r M2 => r = nI (min (min a b) d) ∧ M2 = M)) l G yX11_least cX11_least 4 ((some .int)) 0 0 0 0 [.int (nI a), .int (nI b), .int (nI d)] M := by
  refine c_of ([some (.int (nI a)), some (.int (nI b)), some (.int (nI d)), none] : Lo) RX11 "least" (by decide) rfl rfl (Nat.le_of_ble_eq_true rfl) rfl (fun p e s m below meth c hC nw => ?_)
  refine v_iload_n hC dX11_least_0 rfl rfl ?_
  refine v_iload_n hC dX11_least_1 rfl rfl ?_
  refine v_icmp_ge hC dX11_least_2 (tgt := 9) (by decide) (fun h2 => ?_) (fun h2 => ?_)
  · have k2 := lp_ge h2
    refine v_iload_n hC dX11_least_9 rfl rfl ?_
    refine v_ist3 hC dX11_least_10 (by decide) (kk := ?_)
    refine v_iload_n hC dX11_least_11 rfl rfl ?_
    refine v_iload_n hC dX11_least_12 rfl rfl ?_
    refine v_icmp_ge hC dX11_least_13 (tgt := 20) (by decide) (fun h13 => ?_) (fun h13 => ?_)
    · have k13 := lp_ge h13
      refine v_iload_n hC dX11_least_20 rfl rfl ?_
      refine v_iret hC dX11_least_21 ?_
      exact ⟨congrArg nI (by omega), rfl⟩
    · have k13 := lp_lt h13
      refine v_iload_n hC dX11_least_16 rfl rfl ?_
      refine v_goto hC dX11_least_17 (tgt := 21) (by decide) ?_
      refine v_iret hC dX11_least_21 ?_
      exact ⟨congrArg nI (by omega), rfl⟩
  · have k2 := lp_lt h2
    refine v_iload_n hC dX11_least_5 rfl rfl ?_
    refine v_goto hC dX11_least_6 (tgt := 10) (by decide) ?_
    refine v_ist3 hC dX11_least_10 (by decide) (kk := ?_)
    refine v_iload_n hC dX11_least_11 rfl rfl ?_
    refine v_iload_n hC dX11_least_12 rfl rfl ?_
    refine v_icmp_ge hC dX11_least_13 (tgt := 20) (by decide) (fun h13 => ?_) (fun h13 => ?_)
    · have k13 := lp_ge h13
      refine v_iload_n hC dX11_least_20 rfl rfl ?_
      refine v_iret hC dX11_least_21 ?_
      exact ⟨congrArg nI (by omega), rfl⟩
    · have k13 := lp_lt h13
      refine v_iload_n hC dX11_least_16 rfl rfl ?_
      refine v_goto hC dX11_least_17 (tgt := 21) (by decide) ?_
      refine v_iret hC dX11_least_21 ?_
      exact ⟨congrArg nI (by omega), rfl⟩
