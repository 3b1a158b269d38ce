/-- text, and what was read, stay -/
def Tb (M M2 : Me) (h : Nat) : Prop := Ta M M2 h ∧ m_i M2 284 h 0 = m_i M 284 h 0 ∧ rdM M2 h = rdM M h
theorem q_l {M : Me} {b : Nat → Nat → Nat → Int64} {k a j : Nat} (hk : ¬ (k = 31 ∨ k = 32 ∨ k = 33)) : m_l (s_q M b) k a j = m_l M k a j := if_neg hk
theorem Tb.rf {M : Me} {h : Nat} : Tb M M h := ⟨Ta.rf, rfl, rfl⟩
theorem Tb.tr {M M2 M3 : Me} {h : Nat} (a : Tb M M2 h) (b : Tb M2 M3 h) : Tb M M3 h := ⟨a.1.tr b.1, b.2.1.trans a.2.1, b.2.2.trans a.2.2⟩
theorem Tb.si {M : Me} {h k a j : Nat} {v : Int32} (h1 : k ≠ 282) (h2 : k ≠ 42) (h3 : k ≠ 284) : Tb M (s_i M k a j v) h := ⟨Ta.si h1 h2, i_sk (fun z => h3 z.symm), rfl⟩
theorem Tb.sq {M : Me} {b : Nat → Nat → Nat → Int64} {h : Nat} : Tb M (s_q M b) h := ⟨fun _ _ q => q, rfl, funext fun q => q_l (by decide)⟩
theorem RdT.tb {M M2 : Me} {h : Nat} {gs : List Sg} (a : RdT M h gs) (b : Tb M M2 h) : RdT M2 h gs := ⟨b.2.1.trans a.1, a.2.1, a.2.2.1, fun c hc => by
  rw [b.2.2]
  exact a.2.2.2 c hc⟩
set_option maxHeartbeats 4000000 in
set_option maxRecDepth 100000 in
theorem c_X11_record2 {l : Launch} {G : Gd} {M : Me} {h : Nat} {x : Xs} (hW : Wt M) (hX : AR M h x) : CQ (Qv G (fun M2 => AR M2 h (pushX x) ∧ On M M2 ∧ Wt M2 ∧ Tb M M2 h)) l G yX11_record cX11_record 2 (none) 0 0 0 0 [.ref h] M := by
  refine c_of ([some (.ref h), none] : Lo) RX11 "record" (by decide) rfl rfl (Nat.le_of_ble_eq_true rfl) rfl (fun p e s m below meth c hC nw => ?_)
  have ht := hX.1
  have hn4 := hX.2.2.1.1
  have hst := hX.2.2.1.2.1
  have loopB : ∀ (Mb : Me) (y : Xs), AR Mb h y → Wt Mb → On M Mb → Tb M Mb h → x_n y < 4 → pushX0 y = pushX x → ∀ (k i : Nat) (M1 : Me), i + k = 1663 → i ≤ 1662 → Qd Mb M1 → rwM M1 h = rwM Mb h → asd M1 h = asd Mb h → (∀ p, p < 1662 * x_n y → pas M1 h p = pas Mb h p) → (∀ p, p < i → pas M1 h (1662 * x_n y + p) = rwM Mb h p) → V p l e (rmk 0 0 0 0) s m ([.ref h] : List Value).toArray below meth c 2 G (MQ below (Qv G (fun M2 => AR M2 h (pushX x) ∧ On M M2 ∧ Wt M2 ∧ Tb M M2 h)) ([.ref h] : List Value).toArray s 0 0 (fr_ G)) M1 0 0 51 ([some (.ref h), some (.int (nI i))] : Lo) [] := by
    intro Mb y hY hWb hOn hTa hn hpu
    have htb := hY.1
    have hstb := hY.2.2.1.2.1
    intro k
    induction k with
    | zero => intro i M1 w1 w2; omega
    | succ k ih =>
      intro i M1 w1 w2 hB hr hs hp hq
      obtain ⟨b9, rfl⟩ := hB
      have hW : Wt (s_q Mb b9) := hWb
      have ht : m_t (s_q Mb b9) h = 12 := htb
      have hst9 : m_i (s_q Mb b9) 279 h 0 = nI (x_n y) := hstb
      refine v_iload_n hC dX11_record_51 rfl rfl ?_
      refine v_sipush (v := 1662) hC dX11_record_52 (by decide) ?_
      refine v_icmp_ge hC dX11_record_55 (tgt := 85) (by decide) (fun h55 => ?_) (fun h55 => ?_)
      · have hi := lp_ge (N := 1662) h55
        refine v_aload_n hC dX11_record_85 rfl rfl ?_
        refine v_dup hC dX11_record_86 rfl ?_
        refine gf_11_3 hC ht mw_4_123 dX11_record_87 ?_
        rw [hst9]
        refine v_iconst (v := 1) hC dX11_record_90 (by decide) ?_
        refine v_iadd hC dX11_record_91 ?_
        rw [← nI_succ]
        refine pf_11_3 hC ht mw_4_123 dX11_record_92 ?_
        refine v_vret hC dX11_record_95 ?_
        have hie : i = 1662 := by omega
        subst hie
        refine ⟨?_, hOn.tr ((On.qd ⟨b9, rfl⟩).si (by decide)), hW, hTa.tr (Tb.tr (M2 := s_q Mb b9) Tb.sq (Tb.si (by decide) (by decide) (by decide)))⟩
        rw [← hpu]
        exact hY.push hn hr hs hp hq
      · have hi := lp_lt (N := 1662) h55
        refine v_aload_n hC dX11_record_58 rfl rfl ?_
        refine gf_11_1 hC ht (wf_277 hW ht) mw_4_121 dX11_record_59 ?_
        refine v_sipush (v := 1662) hC dX11_record_62 (by decide) ?_
        refine v_aload_n hC dX11_record_65 rfl rfl ?_
        refine gf_11_3 hC ht mw_4_123 dX11_record_66 ?_
        rw [hst9]
        refine v_imul hC dX11_record_69 ?_
        rw [show 1662 * nI (x_n y) = nI (1662 * x_n y) from nI_ml 1662 _]
        refine v_iload_n hC dX11_record_70 rfl rfl ?_
        refine v_iadd hC dX11_record_71 ?_
        rw [nI_add]
        refine v_aload_n hC dX11_record_72 rfl rfl ?_
        refine gf_11_0 hC ht (wf_276 hW ht) mw_4_120 dX11_record_73 ?_
        refine v_iload_n hC dX11_record_76 rfl rfl ?_
        refine v_lald 31 hC (wf_276 hW ht) (by decide) (by decide) (ix_c (wz_31 hW (wf_276 hW ht)) (by omega)) dX11_record_77 ?_
        refine v_last 32 hC (wf_277 hW ht) (by decide) (by decide) (ix_c (wz_32 hW (wf_277 hW ht)) (by omega)) dX11_record_78 ?_
        refine v_inc1 hC dX11_record_79 ((nI_succ i).symm) (by decide) (kk := ?_)
        refine v_goto hC dX11_record_82 (tgt := 51) (by decide) ?_
        exact ih (i + 1) _ (by omega) (by omega) (Qd.tr ⟨b9, rfl⟩ (Qd.sl (Or.inr (Or.inl rfl)))) (funext fun q => (l_sk (by decide)).trans (congrFun hr q)) (funext fun q => (l_sk (by decide)).trans (congrFun hs q)) (fun p hp2 => by
          refine l_sw.trans ?_
          rw [if_neg (by omega)]; exact hp p hp2) (fun p hp2 => by
          refine l_sw.trans ?_
          by_cases q : p = i
          · rw [if_pos (by omega), q]; exact congrFun hr i
          · rw [if_neg (by omega)]; exact hq p (by omega))
  have loopA : x_n x = 4 → ∀ (k i : Nat) (M1 : Me), i + k = 4987 → i ≤ 4986 → Qd M M1 → rwM M1 h = rwM M h → asd M1 h = asd M h → (∀ p, p < i → pas M1 h p = pas M h (1662 + p)) → (∀ p, i ≤ p → pas M1 h p = pas M h p) → V p l e (rmk 0 0 0 0) s m ([.ref h] : List Value).toArray below meth c 2 G (MQ below (Qv G (fun M2 => AR M2 h (pushX x) ∧ On M M2 ∧ Wt M2 ∧ Tb M M2 h)) ([.ref h] : List Value).toArray s 0 0 (fr_ G)) M1 0 0 10 ([some (.ref h), some (.int (nI i))] : Lo) [] := by
    intro h4
    intro k
    induction k with
    | zero => intro i M1 w1 w2; omega
    | succ k ih =>
      intro i M1 w1 w2 hB hr hs hp hq
      obtain ⟨b9, rfl⟩ := hB
      have hW : Wt (s_q M b9) := hW
      have ht : m_t (s_q M b9) h = 12 := ht
      refine v_iload_n hC dX11_record_10 rfl rfl ?_
      refine v_sipush (v := 4986) hC dX11_record_11 (by decide) ?_
      refine v_icmp_ge hC dX11_record_14 (tgt := 39) (by decide) (fun h14 => ?_) (fun h14 => ?_)
      · have hi := lp_ge (N := 4986) h14
        refine v_aload_n hC dX11_record_39 rfl rfl ?_
        refine v_dup hC dX11_record_40 rfl ?_
        refine gf_11_3 hC ht mw_4_123 dX11_record_41 ?_
        rw [show m_i (s_q M b9) 279 h 0 = nI (x_n x) from hst, h4]
        refine v_iconst (v := 1) hC dX11_record_44 (by decide) ?_
        refine v_isub hC dX11_record_45 ?_
        rw [show nI 4 - 1 = nI 3 by decide]
        refine pf_11_3 hC ht mw_4_123 dX11_record_46 ?_
        refine v_iconst (v := 0) hC dX11_record_49 (by decide) ?_
        refine v_ist1 hC dX11_record_50 (by decide) (kk := ?_)
        first
          | exact loopB M x hX hW On.rf Tb.rf (by omega) (if_pos (by omega)).symm 1663 0 M (by omega) (by omega) Qd.rf rfl rfl (fun p _ => rfl) (fun p hp => absurd hp (Nat.not_lt_zero p))
          | exact loopB _ (dropX x) (AR.drop hX h4 hr hs (fun p hp2 => hp p (by omega))) hW ((On.qd ⟨b9, rfl⟩).si (by decide)) (Tb.tr (M2 := s_q M b9) Tb.sq (Tb.si (by decide) (by decide) (by decide))) (show 3 < 4 by decide) (if_neg (by omega)).symm 1663 0 _ (by omega) (by omega) Qd.rf rfl rfl (fun p _ => rfl) (fun p hp => absurd hp (Nat.not_lt_zero p))
      · have hi := lp_lt (N := 4986) h14
        refine v_aload_n hC dX11_record_17 rfl rfl ?_
        refine gf_11_1 hC ht (wf_277 hW ht) mw_4_121 dX11_record_18 ?_
        refine v_iload_n hC dX11_record_21 rfl rfl ?_
        refine v_aload_n hC dX11_record_22 rfl rfl ?_
        refine gf_11_1 hC ht (wf_277 hW ht) mw_4_121 dX11_record_23 ?_
        refine v_sipush (v := 1662) hC dX11_record_26 (by decide) ?_
        refine v_iload_n hC dX11_record_29 rfl rfl ?_
        refine v_iadd hC dX11_record_30 ?_
        rw [show 1662 + nI i = nI (1662 + i) from nI_add 1662 i]
        refine v_lald 32 hC (wf_277 hW ht) (by decide) (by decide) (ix_c (wz_32 hW (wf_277 hW ht)) (by omega)) dX11_record_31 ?_
        refine v_last 32 hC (wf_277 hW ht) (by decide) (by decide) (ix_c (wz_32 hW (wf_277 hW ht)) (by omega)) dX11_record_32 ?_
        refine v_inc1 hC dX11_record_33 ((nI_succ i).symm) (by decide) (kk := ?_)
        refine v_goto hC dX11_record_36 (tgt := 10) (by decide) ?_
        exact ih (i + 1) _ (by omega) (by omega) (Qd.tr ⟨b9, rfl⟩ (Qd.sl (Or.inr (Or.inl rfl)))) (funext fun q => (l_sk (by decide)).trans (congrFun hr q)) (funext fun q => (l_sk (by decide)).trans (congrFun hs q)) (fun p hp2 => by
          refine l_sw.trans ?_
          by_cases q : p = i
          · rw [if_pos q, q]; exact hq (1662 + i) (by omega)
          · rw [if_neg q]; exact hp p (by omega)) (fun p hp2 => by
          refine l_sw.trans ?_
          rw [if_neg (by omega)]; exact hq p (by omega))
  refine v_aload_n hC dX11_record_0 rfl rfl ?_
  refine gf_11_3 hC ht mw_4_123 dX11_record_1 ?_
  rw [hst]
  refine v_iconst (v := 4) hC dX11_record_4 (by decide) ?_
  refine v_icmp_ne hC dX11_record_5 (tgt := 49) (by decide) (fun h5 => ?_) (fun h5 => ?_)
  · have h4 : x_n x < 4 := by
      rcases Nat.lt_or_ge (x_n x) 4 with q | q
      · exact q
      · exact absurd (show nI (x_n x) = 4 from congrArg nI (show x_n x = 4 by omega)) h5
    refine v_iconst (v := 0) hC dX11_record_49 (by decide) ?_
    refine v_ist1 hC dX11_record_50 (by decide) (kk := ?_)
    first
      | exact loopB M x hX hW On.rf Tb.rf (by omega) (if_pos (by omega)).symm 1663 0 M (by omega) (by omega) Qd.rf rfl rfl (fun p _ => rfl) (fun p hp => absurd hp (Nat.not_lt_zero p))
      | exact loopB _ (dropX x) (AR.drop hX h4 hr hs (fun p hp2 => hp p (by omega))) hW ((On.qd ⟨b9, rfl⟩).si (by decide)) (Tb.tr (M2 := s_q M b9) Tb.sq (Tb.si (by decide) (by decide) (by decide))) (show 3 < 4 by decide) (if_neg (by omega)).symm 1663 0 _ (by omega) (by omega) Qd.rf rfl rfl (fun p _ => rfl) (fun p hp => absurd hp (Nat.not_lt_zero p))
  · have h4 : x_n x = 4 := (nI_eq (b := 4) (by omega) (by omega)).mp (Decidable.not_not.mp (fun q => q h5))
    refine v_iconst (v := 0) hC dX11_record_8 (by decide) ?_
    refine v_ist1 hC dX11_record_9 (by decide) (kk := ?_)
    exact loopA h4 4987 0 M (by omega) (by omega) Qd.rf rfl rfl (fun p hp => absurd hp (Nat.not_lt_zero p)) (fun p _ => rfl)

theorem LA.app {r rl W : Nat → Int64} {v : Si} {g : Sg} {f n : Nat} (h : LA (updR r (pl 19 f 0) (lN n)) v) (hf : f < n_f v) (hn : n_s v f = n) (h12 : n < 12) (hg : SgN W g) (e : ∀ q, rl q = if 606 + 11 * (12 * f + n) ≤ q ∧ q < 606 + 11 * (12 * f + n) + 9 then W (q - (606 + 11 * (12 * f + n))) else r q) : LA (updR (updR (updR rl (606 + 11 * (12 * f + n) + 9) (-5)) (606 + 11 * (12 * f + n) + 10) 0) (pl 19 f 0) (lN (n + 1))) (appU v f g) := by
  subst hn
  have hf8 : f < 8 := Nat.lt_of_lt_of_le hf h.1.1
  have nG : ¬ inG v 0 f (n_s v f) := fun q => by unfold inG at q; omega
  have c9 : ∀ k, 9 ≤ k → k ≤ 10 → cpR k f (n_s v f) := fun k q1 q2 => Or.inr (Or.inr (Or.inr (Or.inl ⟨q1, q2, hf8, h12⟩)))
  have p9 : pl 9 f (n_s v f) = 606 + 11 * (12 * f + n_s v f) + 9 := by simp [pl, pB_, pA_, pJ_]; omega
  have p10 : pl 10 f (n_s v f) = 606 + 11 * (12 * f + n_s v f) + 10 := by simp [pl, pB_, pA_, pJ_]; omega
  have p19 : pl 19 f 0 = 18 + 7 * f := by simp [pl, pB_, pA_, pJ_]
  have a2 := ((h.pokeG (v := g) 0 f (n_s v f) nG).w (v := 0) 9 f (n_s v f) (c9 9 (by decide) (by decide)) (by decide) (by decide)).w (v := 0) 10 f (n_s v f) (c9 10 (by decide) (by decide)) (by decide) (by decide)
  rw [show eb 9 0 = -5 by decide, show eb 10 0 = 0 by decide] at a2
  have a3 : LA (fun q => if 606 + 11 * (12 * f + n_s v f) ≤ q ∧ q < 606 + 11 * (12 * f + n_s v f) + 9 then W (q - (606 + 11 * (12 * f + n_s v f))) else updR (updR (updR r (pl 19 f 0) (lN (n_s v f))) (pl 9 f (n_s v f)) (-5)) (pl 10 f (n_s v f)) 0 q) (u_i (u_i (u_g v 0 f (n_s v f) g) 9 f (n_s v f) 0) 10 f (n_s v f) 0) := a2.eqs (fun k a j q => by
    refine if_neg (fun z => ?_)
    have q1 := q.cp a2.1
    have q2 : spN (n_f v) (n_p v) (n_e v) (n_d v) (n_s v a) k a j := q.1
    have hi : pl k a j - (606 + 11 * (12 * f + n_s v f)) < 9 := by omega
    have q3 := pl_ne (cX_24 (i := pl k a j - (606 + 11 * (12 * f + n_s v f))) hf8 h12 hi) q1 (fun w => by
      obtain ⟨rfl, rfl, w3⟩ := w
      unfold spN at q2
      omega)
    rw [pl24 hi] at q3
    omega)
  have a4 := a3.growS hf h12 (by show gSeg (q_g (u_g v 0 f (n_s v f) g) 0 f (n_s v f)); rw [q_gu, if_pos ⟨rfl, rfl, rfl⟩]; exact hg.1) (fun i hi => by
    show (if _ then _ else _) = wv (q_g (u_g v 0 f (n_s v f) g) 0 f (n_s v f)) i
    rw [show q_g (u_g v 0 f (n_s v f) g) 0 f (n_s v f) = g from if_pos ⟨rfl, rfl, rfl⟩, pl24 hi]
    show (if 606 + 11 * (12 * f + n_s v f) ≤ 606 + 11 * (12 * f + n_s v f) + i ∧ 606 + 11 * (12 * f + n_s v f) + i < 606 + 11 * (12 * f + n_s v f) + 9 then _ else _) = _
    rw [if_pos ⟨by omega, by omega⟩]
    refine Eq.trans (congrArg W ?_) ((SgN_iff.mp hg).2 i hi)
    show 606 + 11 * (12 * f + n_s v f) + i - (606 + 11 * (12 * f + n_s v f)) = i
    omega) (by
    show (if 606 + 11 * (12 * f + n_s v f) ≤ pl 9 f (n_s v f) ∧ pl 9 f (n_s v f) < 606 + 11 * (12 * f + n_s v f) + 9 then _ else updR (updR (updR r (pl 19 f 0) (lN (n_s v f))) (pl 9 f (n_s v f)) (-5)) (pl 10 f (n_s v f)) 0 (pl 9 f (n_s v f))) = eb 9 (q_i (u_i (u_i (u_g v 0 f (n_s v f) g) 9 f (n_s v f) 0) 10 f (n_s v f) 0) 9 f (n_s v f))
    rw [if_neg (by omega), updR_n (by omega), updR_e, q_ik (by decide), q_ie]; decide) (by
    show (if 606 + 11 * (12 * f + n_s v f) ≤ pl 10 f (n_s v f) ∧ pl 10 f (n_s v f) < 606 + 11 * (12 * f + n_s v f) + 9 then _ else updR (updR (updR r (pl 19 f 0) (lN (n_s v f))) (pl 9 f (n_s v f)) (-5)) (pl 10 f (n_s v f)) 0 (pl 10 f (n_s v f))) = eb 10 (q_i (u_i (u_i (u_g v 0 f (n_s v f) g) 9 f (n_s v f) 0) 10 f (n_s v f) 0) 10 f (n_s v f))
    rw [if_neg (by omega), updR_e, q_ie]; decide)
  have e2 : updR (updR (updR rl (606 + 11 * (12 * f + n_s v f) + 9) (-5)) (606 + 11 * (12 * f + n_s v f) + 10) 0) (pl 19 f 0) (lN (n_s v f + 1)) = updR (fun q => if 606 + 11 * (12 * f + n_s v f) ≤ q ∧ q < 606 + 11 * (12 * f + n_s v f) + 9 then W (q - (606 + 11 * (12 * f + n_s v f))) else updR (updR (updR r (pl 19 f 0) (lN (n_s v f))) (pl 9 f (n_s v f)) (-5)) (pl 10 f (n_s v f)) 0 q) (pl 19 f 0) (lN (n_s v f + 1)) := funext fun q => by
    by_cases w : q = pl 19 f 0
    · rw [w, updR_e, updR_e]
    · rw [updR_n w, updR_n w]
      show _ = if 606 + 11 * (12 * f + n_s v f) ≤ q ∧ q < 606 + 11 * (12 * f + n_s v f) + 9 then W (q - (606 + 11 * (12 * f + n_s v f))) else updR (updR (updR r (pl 19 f 0) (lN (n_s v f))) (pl 9 f (n_s v f)) (-5)) (pl 10 f (n_s v f)) 0 q
      rw [p9, p10]
      by_cases w1 : q = 606 + 11 * (12 * f + n_s v f) + 10
      · rw [w1, updR_e, if_neg (by omega), updR_e]
      · rw [updR_n w1]
        by_cases w2 : q = 606 + 11 * (12 * f + n_s v f) + 9
        · rw [w2, updR_e, if_neg (by omega), updR_n (by omega), updR_e]
        · rw [updR_n w2, e q]
          by_cases w3 : 606 + 11 * (12 * f + n_s v f) ≤ q ∧ q < 606 + 11 * (12 * f + n_s v f) + 9
          · rw [if_pos w3, if_pos w3]
          · rw [if_neg w3, if_neg w3, updR_n w1, updR_n w2, updR_n w]
  rw [e2]
  exact a4
theorem LPd.hi {r r2 : Nat → Int64} {u : Si} (h : LPd r u) (hn6 : n_p u ≤ 6) (e : ∀ q, 77 ≤ q → q < 116 → r2 q = r q) : LPd r2 u := fun p hp => by
  have z : ∀ k, 20 ≤ k → k ≤ 22 → r2 (pl k p 0) = r (pl k p 0) := fun k q1 q2 => by
    have e1 : pl k p 0 = 57 + k + 7 * p := by
      rcases (show k = 20 ∨ k = 21 ∨ k = 22 by omega) with rfl | rfl | rfl <;> simp [pl, pB_, pA_, pJ_]
    rw [e1, e _ (by omega) (by omega)]
  rw [z 20 (by decide) (by decide), z 21 (by decide) (by decide), z 22 (by decide) (by decide)]
  exact h p hp
theorem PdF.ap1 {u : Si} {f : Nat} {g : Sg} (h3 : ¬ q_i u 4 f 0 = 3) : PdF u (appU u f g) := ⟨rfl, fun a ha => by
  have e4 : ∀ k, k < 9 → q_i (appU u f g) k a 0 = q_i u k a 0 := fun k hk => (q_ik (show k ≠ 10 by omega)).trans (q_ik (show k ≠ 9 by omega))
  rw [e4 4 (by decide), e4 5 (by decide), e4 6 (by decide), e4 7 (by decide)]
  by_cases q : a = f
  · rw [q]; exact ⟨Iff.rfl, fun w => absurd w h3⟩
  · refine ⟨Iff.rfl, fun _ => ⟨rfl, rfl, rfl, ?_⟩⟩
    unfold w_f
    rw [show n_s (appU u f g) a = n_s u a from q_na q, show q_g (appU u f g) 0 a = q_g u 0 a from funext fun j => if_neg (fun z => q z.2.1)]⟩
theorem PdF.ap {f : Nat} : ∀ (gs : List Sg) {u : Si}, ¬ q_i u 4 f 0 = 3 → PdF u (apU u f gs)
  | [], u, h3 => PdF.rf
  | g :: gs, u, h3 => (PdF.ap1 (g := g) h3).tr (PdF.ap gs (by rw [show q_i (appU u f g) 4 f 0 = q_i u 4 f 0 from (q_ik (by decide)).trans (q_ik (by decide))]; exact h3))
theorem apU_p {f : Nat} : ∀ (gs : List Sg) {u : Si}, n_p (apU u f gs) = n_p u
  | [], _ => rfl
  | g :: gs, u => (apU_p gs (u := appU u f g)).trans rfl
theorem apU_t {u : Si} {f k : Nat} {gs : List Sg} (hk : k < gs.length) : apU u f (gs.take (k + 1)) = appU (apU u f (gs.take k)) f (gs.getD k []) := by
  rw [List.take_succ_eq_append_getElem hk, apU_a, List.getD_eq_getElem?_getD, List.getElem?_eq_getElem hk]
  rfl
theorem dr_2 {u : Si} {t f i : Nat} {tc : Nat → Int32} (c : capU u) (hf : f < n_f u) (h : fltF tc t = some i) : d_readSegments u t tc (nI f) = (-100 - nI i, none) := by
  have c1 := c.1
  rw [d_readSegments, inN_s hf]
  show (match fltF tc t with | some i => _ | none => _) = _
  rw [h]
theorem dr_3 {u : Si} {t f : Nat} {tc : Nat → Int32} (c : capU u) (hf : f < n_f u) (h : fltF tc t = none) : d_readSegments u t tc (nI f) = if ¬ q_i u 4 f 0 = 0 then (-4, none) else if 12 < n_s u f + (sgT tc t).length then (-3, none) else (nI (n_s u f + (sgT tc t).length), some (apU u f (sgT tc t))) := by
  have c1 := c.1
  rw [d_readSegments, inN_s hf]
  show (match fltF tc t with | some i => _ | none => _) = _
  rw [h]
set_option maxHeartbeats 4000000 in
set_option maxRecDepth 100000 in
theorem c_X11_readSegments {l : Launch} {G : Gd} {M : Me} {h : Nat} {x : Xs} {t : Nat} {tc : Nat → Int32} {y : Int32} (hW : Wt M) (hX : AR M h x) (hT : TA M h t tc) : CQ (Qi G (fun r M2 => r = (d_readSegments (x_u x) t tc y).1 ∧ AR M2 h (acX x (d_readSegments (x_u x) t tc y).2) ∧ On M M2 ∧ Wt M2 ∧ Ta M M2 h)) l G yX11_readSegments cX11_readSegments 6 ((some .int)) 4 89 0 0 [.ref h, .int y] M := by
  refine c_of ([some (.ref h), some (.int y), none, none, none, none] : Lo) RX11 "readSegments" (by decide) rfl rfl (Nat.le_of_ble_eq_true rfl) rfl (fun p e s m below meth c hC nw => ?_)
  have ht := hX.1
  have hA := hX.2.1.1
  have u1 := hA.1.1
  have u2 := hA.1.2.1
  have u3 := hA.1.2.2.1
  have u4 := hA.1.2.2.2.1
  have hwz := wz_31 hW (wf_276 hW ht)
  have loop : ∀ (Mb : Me) (f : Nat), f < n_f (x_u x) → y = nI f → AR Mb h (pushX x) → On M Mb → Wt Mb → Ta M Mb h → q_i (x_u x) 4 f 0 = 0 → n_s (x_u x) f + (sgT tc t).length ≤ 12 → fltF tc t = none → RdT Mb h (sgT tc t) → ∀ (j k : Nat) (M1 : Me), k + j = 32 → k ≤ (sgT tc t).length → Wr Mb M1 h → Tb Mb M1 h → LA (updR (rwM M1 h) (pl 19 f 0) (lN (n_s (x_u x) f + k))) (apU (x_u x) f ((sgT tc t).take k)) → LPd (rwM M1 h) (x_u x) → V p l e (rmk 4 89 0 0) s m ([.ref h, .int y] : List Value).toArray below meth c 6 G (MQ below (Qi G (fun r M2 => r = (d_readSegments (x_u x) t tc y).1 ∧ AR M2 h (acX x (d_readSegments (x_u x) t tc y).2) ∧ On M M2 ∧ Wt M2 ∧ Ta M M2 h)) ([.ref h, .int y] : List Value).toArray s 0 0 (fr_ G)) M1 0 0 62 ([some (.ref h), some (.int (nI f)), some (.int (-5)), some (.int (nI (n_s (x_u x) f))), some (.int (nI k)), none] : Lo) [] := by
    intro Mb f hf ey hX9 hOn9 hW9 hTa9 h44 h12 k1 hRT9 j
    subst ey
    have ht9 := hX9.1
    have hf8 : f < 8 := by omega
    have hl30 := hRT9.2.1
    induction j with
    | zero => intro k M1 w1 w2; omega
    | succ j ih =>
      intro k M1 w1 w2 hwr hTb1 hl hp
      have hW1 : Wt M1 := hwr.2.2.2.2.2.2 hW9
      have ht1 : m_t M1 h = 12 := (hwr.1.1.2.1 h).trans ht9
      have hwz1 := wz_31 hW1 (wf_276 hW1 ht1)
      have hRT1 := hRT9.tb hTb1
      refine v_iload hC dX11_readSegments_62 rfl ?_
      refine v_aload_n hC dX11_readSegments_64 rfl rfl ?_
      refine gf_11_8 hC ht1 mw_4_128 dX11_readSegments_65 ?_
      rw [(hRT1).1]
      refine v_icmp_ge hC dX11_readSegments_68 (tgt := 120) (by decide) (fun h68 => ?_) (fun h68 => ?_)
      · have hk := lp_ge h68
        refine v_aload_n hC dX11_readSegments_120 rfl rfl ?_
        refine gf_11_0 hC ht1 (wf_276 hW1 ht1) mw_4_120 dX11_readSegments_121 ?_
        refine v_aload_n hC dX11_readSegments_124 rfl rfl ?_
        refine v_iload_n hC dX11_readSegments_125 rfl rfl ?_
        refine cVi1 hC (c_X11_fileBy ht1) yv_X11_fileBy rfl ht1 mw_4_222 ⟨Nat.le_of_ble_eq_true rfl, Nat.le_of_ble_eq_true rfl⟩ ⟨Nat.le_of_ble_eq_true rfl, Nat.le_of_ble_eq_true rfl⟩ (Nat.le_of_ble_eq_true rfl) dX11_readSegments_126 (fun r126 M128 hq => ?_)
        obtain ⟨rfl, hm⟩ := hq
        have hm2 := hm.symm
        clear hm
        subst hm2
        refine v_iconst (v := 0) hC dX11_readSegments_129 (by decide) ?_
        refine v_iadd hC dX11_readSegments_130 ?_
        rw [show nI (18 + 7 * f) + 0 = nI (18 + 7 * f) from nI_add _ 0]
        refine v_iload_n hC dX11_readSegments_131 rfl rfl ?_
        refine v_aload_n hC dX11_readSegments_132 rfl rfl ?_
        refine gf_11_8 hC ht1 mw_4_128 dX11_readSegments_133 ?_
        rw [hRT1.1]
        refine v_iadd hC dX11_readSegments_136 ?_
        rw [nI_add]
        refine v_i2l hC dX11_readSegments_137 ?_
        rw [nI_l (by omega)]
        refine v_last 31 hC (wf_276 hW1 ht1) (by decide) (by decide) (ix_c hwz1 (by omega)) dX11_readSegments_138 ?_
        refine v_iload_n hC dX11_readSegments_139 rfl rfl ?_
        refine v_aload_n hC dX11_readSegments_140 rfl rfl ?_
        refine gf_11_8 hC ht1 mw_4_128 dX11_readSegments_141 ?_
        rw [show m_i (s_l M1 31 (m_r M1 276 h 0) (18 + 7 * f) (lN (n_s (x_u x) f + (sgT tc t).length))) 284 h 0 = nI (sgT tc t).length from hRT1.1]
        refine v_iadd hC dX11_readSegments_144 ?_
        rw [nI_add]
        refine v_iret hC dX11_readSegments_145 ?_
        have e9 : k = (sgT tc t).length := by omega
        subst e9
        rw [List.take_length] at hl
        rw [dr_3 hA.1 hf k1, if_neg (fun q => q h44), if_neg (by omega)]
        refine ⟨rfl, Wr.end hX9 hwr.sl hOn9 hW9 hTa9 ?_⟩
        rw [rwM_w, show 18 + 7 * f = pl 19 f 0 by simp [pl, pB_, pA_, pJ_]]
        exact ⟨hl, (hp.off 19 f 0 u2 (cX_19 hf8) (by decide)).same (PdF.ap _ (by rw [h44]; decide)) (apU_p _)⟩
      · have hk := lp_lt h68
        refine v_aload_n hC dX11_readSegments_71 rfl rfl ?_
        refine v_iload_n hC dX11_readSegments_72 rfl rfl ?_
        refine v_iload_n hC dX11_readSegments_73 rfl rfl ?_
        refine v_iload hC dX11_readSegments_74 rfl ?_
        refine v_iadd hC dX11_readSegments_76 ?_
        rw [nI_add]
        refine cVi2 hC (c_X11_segmentAt ht1) yv_X11_segmentAt rfl ht1 mw_5_19 ⟨Nat.le_of_ble_eq_true rfl, Nat.le_of_ble_eq_true rfl⟩ ⟨Nat.le_of_ble_eq_true rfl, Nat.le_of_ble_eq_true rfl⟩ (Nat.le_of_ble_eq_true rfl) dX11_readSegments_77 (fun r77 M79 hq => ?_)
        obtain ⟨rfl, hm⟩ := hq
        have hm2 := hm.symm
        clear hm
        subst hm2
        refine v_ist5 hC dX11_readSegments_80 (by decide) (kk := ?_)
        refine v_aload_n hC dX11_readSegments_82 rfl rfl ?_
        refine v_iload hC dX11_readSegments_83 rfl ?_
        refine v_iload hC dX11_readSegments_85 rfl ?_
        refine cVv2 hC (c_X11_lay hW1 ht1 (by omega) (by omega)) yv_X11_lay rfl ht1 mw_5_23 ⟨Nat.le_of_ble_eq_true rfl, Nat.le_of_ble_eq_true rfl⟩ ⟨Nat.le_of_ble_eq_true rfl, Nat.le_of_ble_eq_true rfl⟩ (Nat.le_of_ble_eq_true rfl) dX11_readSegments_87 (fun M89 hq => ?_)
        obtain ⟨hQ, hwr2, hrow⟩ := hq
        have hWm : Wt M89 := hwr2.2.2.2.2.2.2 hW1
        have htm : m_t M89 h = 12 := (hwr2.1.1.2.1 h).trans ht1
        have hwzm := wz_31 hWm (wf_276 hWm htm)
        have hTbm : Tb Mb M89 h := hTb1.tr (by obtain ⟨b9, rfl⟩ := hQ; exact Tb.sq)
        refine v_aload_n hC dX11_readSegments_90 rfl rfl ?_
        refine gf_11_0 hC htm (wf_276 hWm htm) mw_4_120 dX11_readSegments_91 ?_
        refine v_iload hC dX11_readSegments_94 rfl ?_
        refine v_bipush (v := 9) hC dX11_readSegments_96 (by decide) ?_
        refine v_iadd hC dX11_readSegments_98 ?_
        rw [show nI (606 + 11 * (12 * f + (n_s (x_u x) f + k))) + 9 = nI (606 + 11 * (12 * f + (n_s (x_u x) f + k)) + 9) from nI_add _ 9]
        refine v_ldc2 hC mw_4_189 dX11_readSegments_99 ?_
        refine v_last 31 hC (wf_276 hWm htm) (by decide) (by decide) (ix_c hwzm (by omega)) dX11_readSegments_102 ?_
        refine v_aload_n hC dX11_readSegments_103 rfl rfl ?_
        refine gf_11_0 hC htm (wf_276 hWm htm) mw_4_120 dX11_readSegments_104 ?_
        refine v_iload hC dX11_readSegments_107 rfl ?_
        refine v_bipush (v := 10) hC dX11_readSegments_109 (by decide) ?_
        refine v_iadd hC dX11_readSegments_111 ?_
        rw [show nI (606 + 11 * (12 * f + (n_s (x_u x) f + k))) + 10 = nI (606 + 11 * (12 * f + (n_s (x_u x) f + k)) + 10) from nI_add _ 10]
        refine v_lconst (v := 0) hC dX11_readSegments_112 (by decide) ?_
        refine v_last 31 hC (wf_276 hWm htm) (by decide) (by decide) (ix_c hwzm (by omega)) dX11_readSegments_113 ?_
        refine v_inc4 hC dX11_readSegments_114 ((nI_succ k).symm) (by decide) (kk := ?_)
        refine v_goto hC dX11_readSegments_117 (tgt := 62) (by decide) ?_
        refine v_drop 5 ?_
        exact ih (k + 1) _ (by omega) (by omega) (hwr.tr hwr2.sl.sl) (hTbm.tr ⟨fun _ _ q => q, rfl, funext fun q => (l_sk (by decide)).trans (l_sk (by decide))⟩) (by
          rw [rwM_w, rwM_w, apU_t hk]
          exact hl.app (g := (sgT tc t).getD k []) (W := fun b => rdM M1 h (11 * k + b)) (by rw [(apU_s _ _ _).2]; exact hf) (by rw [(apU_s _ _ _).1, List.length_take, Nat.min_eq_left (by omega)]) (by omega) (hRT1.2.2.2 k hk) hrow) (hp.hi u2 (fun q q1 q2 => by
          rw [rwM_w, rwM_w, updR_n (by omega), updR_n (by omega), hrow, if_neg (by omega)]))
  refine v_aload_n hC dX11_readSegments_0 rfl rfl ?_
  refine v_iload_n hC dX11_readSegments_1 rfl rfl ?_
  refine cVi1 hC (c_X11_noFile hW ht hA) yv_X11_noFile rfl ht mw_4_230 ⟨Nat.le_of_ble_eq_true rfl, Nat.le_of_ble_eq_true rfl⟩ ⟨Nat.le_of_ble_eq_true rfl, Nat.le_of_ble_eq_true rfl⟩ (Nat.le_of_ble_eq_true rfl) dX11_readSegments_2 (fun r2 M4 hq => ?_)
  obtain ⟨hm, hq2⟩ := hq
  have hm2 := hm.symm
  clear hm
  subst hm2
  obtain ⟨g2, rfl⟩ | ⟨g2, rfl⟩ := hq2
  · refine v_if_eq hC dX11_readSegments_5 (tgt := 10) (by decide) (fun _ => ?_) (fun hx => absurd hx (by decide))
    obtain ⟨f, hf, rfl⟩ := g2
    have h12f := hA.1.2.2.2.2 f hf
    refine v_aload_n hC dX11_readSegments_10 rfl rfl ?_
    refine cVi0 hC (c_X11_readsText hW ht hT) yv_X11_readsText rfl ht mw_4_234 ⟨Nat.le_of_ble_eq_true rfl, Nat.le_of_ble_eq_true rfl⟩ ⟨Nat.le_of_ble_eq_true rfl, Nat.le_of_ble_eq_true rfl⟩ (Nat.le_of_ble_eq_true rfl) dX11_readSegments_11 (fun r11 M13 hq => ?_)
    obtain ⟨hR2, hq2⟩ := hq
    have hX2 : AR M13 h x := hX.rd hR2
    have hW2 : Wt M13 := hR2.wt hW
    have ht2 : m_t M13 h = 12 := hX2.1
    have hOn2 : On M M13 := On.rd hR2
    have hTa2 : Ta M M13 h := fun t c q => q.rd hR2
    have hA2 := hX2.2.1.1
    have hwz2 := wz_31 hW2 (wf_276 hW2 ht2)
    refine v_ist2 hC dX11_readSegments_14 (by decide) (kk := ?_)
    rcases hq2 with ⟨i9, k1, rfl, k3⟩ | ⟨k1, rfl, hRT⟩
    · refine v_iload_n hC dX11_readSegments_15 rfl rfl ?_
      refine v_if_lt hC dX11_readSegments_16 (tgt := 24) (by decide) (fun h16 => absurd h16 (nI_n0 (by have := hT.1; omega))) (fun h16 => ?_)
      refine v_bipush (v := (-100)) hC dX11_readSegments_19 (by decide) ?_
      refine v_iload_n hC dX11_readSegments_21 rfl rfl ?_
      refine v_isub hC dX11_readSegments_22 ?_
      refine v_iret hC dX11_readSegments_23 ?_
      rw [dr_2 hA.1 hf k1]; exact ⟨rfl, hX2, hOn2, hW2, hTa2⟩
    · refine v_iload_n hC dX11_readSegments_15 rfl rfl ?_
      refine v_if_lt hC dX11_readSegments_16 (tgt := 24) (by decide) (fun _ => ?_) (fun hx => absurd hx (by decide))
      refine v_aload_n hC dX11_readSegments_24 rfl rfl ?_
      refine v_iload_n hC dX11_readSegments_25 rfl rfl ?_
      refine cVi1 hC (c_X11_state hW2 ht2 hA2 hf) yv_X11_state rfl ht2 mw_5_11 ⟨Nat.le_of_ble_eq_true rfl, Nat.le_of_ble_eq_true rfl⟩ ⟨Nat.le_of_ble_eq_true rfl, Nat.le_of_ble_eq_true rfl⟩ (Nat.le_of_ble_eq_true rfl) dX11_readSegments_26 (fun r26 M28 hq => ?_)
      obtain ⟨rfl, hm⟩ := hq
      have hm2 := hm.symm
      clear hm
      subst hm2
      refine v_if_eq hC dX11_readSegments_29 (tgt := 35) (by decide) (fun h29 => ?_) (fun h29 => ?_)
      · refine v_aload_n hC dX11_readSegments_35 rfl rfl ?_
        refine v_iload_n hC dX11_readSegments_36 rfl rfl ?_
        refine cVi1 hC (c_X11_many hW2 ht2 hA2 hf) yv_X11_many rfl ht2 mw_5_15 ⟨Nat.le_of_ble_eq_true rfl, Nat.le_of_ble_eq_true rfl⟩ ⟨Nat.le_of_ble_eq_true rfl, Nat.le_of_ble_eq_true rfl⟩ (Nat.le_of_ble_eq_true rfl) dX11_readSegments_37 (fun r37 M39 hq => ?_)
        obtain ⟨rfl, hm⟩ := hq
        have hm2 := hm.symm
        clear hm
        subst hm2
        refine v_ist3 hC dX11_readSegments_40 (by decide) (kk := ?_)
        refine v_iload_n hC dX11_readSegments_41 rfl rfl ?_
        refine v_aload_n hC dX11_readSegments_42 rfl rfl ?_
        refine gf_11_8 hC ht2 mw_4_128 dX11_readSegments_43 ?_
        rw [hRT.1]
        refine v_iadd hC dX11_readSegments_46 ?_
        rw [nI_add]
        refine v_bipush (v := 12) hC dX11_readSegments_47 (by decide) ?_
        refine v_icmp_le hC dX11_readSegments_49 (tgt := 55) (by decide) (fun h49 => ?_) (fun h49 => ?_)
        · have h49 := (nI_leI (by have := hRT.2.1; omega) (by decide)).mp h49
          refine v_aload_n hC dX11_readSegments_55 rfl rfl ?_
          refine cVv0 hC (c_X11_record2 hW2 hX2) yv_X11_record rfl ht2 mw_4_173 ⟨Nat.le_of_ble_eq_true rfl, Nat.le_of_ble_eq_true rfl⟩ ⟨Nat.le_of_ble_eq_true rfl, Nat.le_of_ble_eq_true rfl⟩ (Nat.le_of_ble_eq_true rfl) dX11_readSegments_56 (fun M58 hq => ?_)
          obtain ⟨hX9, hOn29, hW9, hTb9⟩ := hq
          have ht9 := hX9.1
          have hL9 := hX9.pu
          have hwz9 := wz_31 hW9 (wf_276 hW9 ht9)
          have hOn9 := hOn2.tr hOn29
          have hTa9 := hTa2.tr hTb9.1
          have hRT9 := hRT.tb hTb9
          refine v_iconst (v := 0) hC dX11_readSegments_59 (by decide) ?_
          refine v_ist4 hC dX11_readSegments_60 (by decide) (kk := ?_)
          exact loop M58 f hf rfl hX9 hOn9 hW9 hTa9 h29 h49 k1 hRT9 32 0 M58 (by omega) (Nat.zero_le _) Wr.rf Tb.rf (hL9.1.eqs (fun k a j q => by
            by_cases w : pl k a j = pl 19 f 0
            · rw [w, updR_e]; exact (hL9.1.2.2.2.1 f hf).symm
            · rw [updR_n w])) hL9.2
        · have h49 : ¬ n_s (x_u x) f + (sgT tc t).length ≤ 12 := fun q => h49 (nI_le q (by decide))
          refine v_bipush (v := (-3)) hC dX11_readSegments_52 (by decide) ?_
          refine v_iret hC dX11_readSegments_54 ?_
          rw [dr_3 hA.1 hf k1, if_neg (fun q => q h29), if_pos (by omega)]; exact ⟨rfl, hX2, hOn2, hW2, hTa2⟩
      · refine v_bipush (v := (-4)) hC dX11_readSegments_32 (by decide) ?_
        refine v_iret hC dX11_readSegments_34 ?_
        rw [dr_3 hA.1 hf k1, if_pos h29]; exact ⟨rfl, hX2, hOn2, hW2, hTa2⟩
  · refine v_if_eq hC dX11_readSegments_5 (tgt := 10) (by decide) (fun hx => absurd hx (by decide)) (fun _ => ?_)
    refine v_iconst (v := (-1)) hC dX11_readSegments_8 (by decide) ?_
    refine v_iret hC dX11_readSegments_9 ?_
    have hD : d_readSegments (x_u x) t tc y = (-1, none) := by rw [d_readSegments, inN_o g2]
    rw [hD]; exact ⟨rfl, hX, On.rf, hW, Ta.rf⟩
