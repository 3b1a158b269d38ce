theorem AR.pop {M : Me} {h : Nat} {x : Xs} {b : Nat → Nat → Nat → Int64} (a : AR M h x) (h0 : 0 < x_n x) (hs : asd (s_q (s_i M 279 h 0 (nI (x_n x - 1))) b) h = asd M h) (hp : pas (s_q (s_i M 279 h 0 (nI (x_n x - 1))) b) h = pas M h) (hr : ∀ p, p < 1662 → rwM (s_q (s_i M 279 h 0 (nI (x_n x - 1))) b) h p = pas M h (1662 * (x_n x - 1) + p)) : AR (s_q (s_i M 279 h 0 (nI (x_n x - 1))) b) h (popX x) := by
  obtain ⟨a1, a2, ⟨a3, a4, a5⟩, a6, a7, a8⟩ := a
  refine ⟨a1, (a5 (x_n x - 1) (by omega)).congr hr, ⟨by show x_n x - 1 ≤ 4; omega, i_se, fun j hj => ?_⟩, (i_sk (M := M) (k := 279) (a := h) (j := 0) (v := nI (x_n x - 1)) (by decide)).trans a6, a7, fun e => ?_⟩
  · have hj2 : j < x_n x - 1 := hj
    show LRw (fun p => pas _ h (1662 * j + p)) (x_h x j)
    rw [hp]; exact a5 j (by omega)
  · show LRw (asd _ h) (x_s x)
    rw [hs]; exact a8 e
theorem AR.keep {M : Me} {h : Nat} {x : Xs} {b : Nat → Nat → Nat → Int64} (a : AR M h x) (hr : rwM (s_q M b) h = rwM M h) (hp : pas (s_q M b) h = pas M h) (hs : ∀ p, p < 1662 → asd (s_q M b) h p = rwM M h p) : AR (s_i (s_q M b) 280 h 0 1) h (x.1, x.2.1, 1, x_u x) := by
  obtain ⟨a1, a2, ⟨a3, a4, a5⟩, a6, a7, a8⟩ := a
  refine ⟨a1, ?_, ⟨a3, (i_sk (by decide)).trans a4, fun j hj => ?_⟩, i_se, Or.inr rfl, fun _ => a2.congr hs⟩
  · show LRw (rwM (s_q M b) h) (x_u x)
    rw [hr]; exact a2
  · show LRw (fun p => pas (s_q M b) h (1662 * j + p)) (x_h x j)
    rw [hp]; exact a5 j hj
theorem LRw.c0 {r : Nat → Int64} {u : Si} (h : LRw r u) : (r 0).toInt32 = nI (n_f u) := by rw [show r 0 = lN (n_f u) from h.1.2.1.1, lN_i]
set_option maxHeartbeats 4000000 in
set_option maxRecDepth 100000 in
theorem c_X11_undo {l : Launch} {G : Gd} {M : Me} {h : Nat} {x : Xs} (hW : Wt M) (hX : AR M h x) : CQ (Qi G (fun r M2 => r = (if x_n x = 0 then -5 else nI (x_n x - 1)) ∧ AR M2 h (if x_n x = 0 then x else popX x) ∧ On M M2 ∧ Wt M2 ∧ Ta M M2 h)) l G yX11_undo cX11_undo 2 ((some .int)) 0 0 0 0 [.ref h] M := by
  refine c_of ([some (.ref h), none] : Lo) RX11 "undo" (by decide) rfl rfl (Nat.le_of_ble_eq_true rfl) rfl (fun p e s m below meth c hC nw => ?_)
  have ht := hX.1
  have hn4 := hX.2.2.1.1
  have hst := hX.2.2.1.2.1
  have loop : 0 < x_n x → ∀ (k i : Nat) (M1 : Me), i + k = 1663 → i ≤ 1662 → Qd (s_i M 279 h 0 (nI (x_n x - 1))) M1 → asd M1 h = asd M h → pas M1 h = pas M h → (∀ p, p < i → rwM M1 h p = pas M h (1662 * (x_n x - 1) + p)) → V p l e (rmk 0 0 0 0) s m ([.ref h] : List Value).toArray below meth c 2 G (MQ below (Qi G (fun r M2 => r = (if x_n x = 0 then -5 else nI (x_n x - 1)) ∧ AR M2 h (if x_n x = 0 then x else popX x) ∧ On M M2 ∧ Wt M2 ∧ Ta M M2 h)) ([.ref h] : List Value).toArray s 0 0 (fr_ G)) M1 0 0 22 ([some (.ref h), some (.int (nI i))] : Lo) [] := by
    intro h0
    have hWb : Wt (s_i M 279 h 0 (nI (x_n x - 1))) := hW
    have htb : m_t (s_i M 279 h 0 (nI (x_n x - 1))) h = 12 := ht
    intro k
    induction k with
    | zero => intro i M1 w1 w2; omega
    | succ k ih =>
      intro i M1 w1 w2 hB hs hp hr
      obtain ⟨b9, rfl⟩ := hB
      have hW : Wt (s_q (s_i M 279 h 0 (nI (x_n x - 1))) b9) := hWb
      have ht : m_t (s_q (s_i M 279 h 0 (nI (x_n x - 1))) b9) h = 12 := htb
      have hst9 : m_i (s_q (s_i M 279 h 0 (nI (x_n x - 1))) b9) 279 h 0 = nI (x_n x - 1) := i_se
      refine v_iload_n hC dX11_undo_22 rfl rfl ?_
      refine v_sipush (v := 1662) hC dX11_undo_23 (by decide) ?_
      refine v_icmp_ge hC dX11_undo_26 (tgt := 56) (by decide) (fun h26 => ?_) (fun h26 => ?_)
      · have hi := lp_ge (N := 1662) h26
        refine v_aload_n hC dX11_undo_56 rfl rfl ?_
        refine gf_11_3 hC ht mw_4_123 dX11_undo_57 ?_
        rw [hst9]
        refine v_iret hC dX11_undo_60 ?_
        have hie : i = 1662 := by omega
        subst hie
        have n0 : ¬ x_n x = 0 := by omega
        exact ⟨(if_neg n0).symm, by rw [if_neg n0]; exact hX.pop h0 hs hp hr, (On.rf.si (by decide)).tr (On.qd ⟨b9, rfl⟩), hW, Ta.tr (M2 := s_i M 279 h 0 (nI (x_n x - 1))) (Ta.si (by decide) (by decide)) (fun _ _ q => q)⟩
      · have hi := lp_lt (N := 1662) h26
        refine v_aload_n hC dX11_undo_29 rfl rfl ?_
        refine gf_11_0 hC ht (wf_276 hW ht) mw_4_120 dX11_undo_30 ?_
        refine v_iload_n hC dX11_undo_33 rfl rfl ?_
        refine v_aload_n hC dX11_undo_34 rfl rfl ?_
        refine gf_11_1 hC ht (wf_277 hW ht) mw_4_121 dX11_undo_35 ?_
        refine v_sipush (v := 1662) hC dX11_undo_38 (by decide) ?_
        refine v_aload_n hC dX11_undo_41 rfl rfl ?_
        refine gf_11_3 hC ht mw_4_123 dX11_undo_42 ?_
        rw [hst9]
        refine v_imul hC dX11_undo_45 ?_
        rw [show 1662 * nI (x_n x - 1) = nI (1662 * (x_n x - 1)) from nI_ml 1662 _]
        refine v_iload_n hC dX11_undo_46 rfl rfl ?_
        refine v_iadd hC dX11_undo_47 ?_
        rw [nI_add]
        refine v_lald 32 hC (wf_277 hW ht) (by decide) (by decide) (ix_c (wz_32 hW (wf_277 hW ht)) (by omega)) dX11_undo_48 ?_
        refine v_last 31 hC (wf_276 hW ht) (by decide) (by decide) (ix_c (wz_31 hW (wf_276 hW ht)) (by omega)) dX11_undo_49 ?_
        refine v_inc1 hC dX11_undo_50 ((nI_succ i).symm) (by decide) (kk := ?_)
        refine v_goto hC dX11_undo_53 (tgt := 22) (by decide) ?_
        exact ih (i + 1) _ (by omega) (by omega) (Qd.tr ⟨b9, rfl⟩ (Qd.sl (Or.inl rfl))) (funext fun q => (l_sk (by decide)).trans (congrFun hs q)) (funext fun q => (l_sk (by decide)).trans (congrFun hp q)) (fun p hp2 => by
          refine l_sw.trans ?_
          by_cases q : p = i
          · rw [if_pos q, q]; exact congrFun hp _
          · rw [if_neg q]; exact hr p (by omega))
  refine v_aload_n hC dX11_undo_0 rfl rfl ?_
  refine gf_11_3 hC ht mw_4_123 dX11_undo_1 ?_
  rw [hst]
  refine v_if_ne hC dX11_undo_4 (tgt := 10) (by decide) (fun h4 => ?_) (fun h4 => ?_)
  · have h0 : 0 < x_n x := by
      rcases Nat.eq_zero_or_pos (x_n x) with q | q
      · rw [q] at h4; exact absurd rfl h4
      · exact q
    refine v_aload_n hC dX11_undo_10 rfl rfl ?_
    refine v_dup hC dX11_undo_11 rfl ?_
    refine gf_11_3 hC ht mw_4_123 dX11_undo_12 ?_
    rw [hst]
    refine v_iconst (v := 1) hC dX11_undo_15 (by decide) ?_
    refine v_isub hC dX11_undo_16 ?_
    rw [nI_p1 h0]
    refine pf_11_3 hC ht mw_4_123 dX11_undo_17 ?_
    refine v_iconst (v := 0) hC dX11_undo_20 (by decide) ?_
    refine v_ist1 hC dX11_undo_21 (by decide) (kk := ?_)
    exact loop h0 1663 0 _ (by omega) (by omega) Qd.rf rfl rfl (fun p hp => absurd hp (Nat.not_lt_zero p))
  · have h0 : x_n x = 0 := (nI_eq (b := 0) (by omega) (by omega)).mp (Decidable.not_not.mp (fun q => q h4))
    refine v_bipush (v := (-5)) hC dX11_undo_7 (by decide) ?_
    refine v_iret hC dX11_undo_9 ?_
    exact ⟨(if_pos h0).symm, by rw [if_pos h0]; exact hX, On.rf, hW, Ta.rf⟩

set_option maxHeartbeats 4000000 in
set_option maxRecDepth 100000 in
theorem c_X11_keep {l : Launch} {G : Gd} {M : Me} {h : Nat} {x : Xs} (hW : Wt M) (hX : AR M h x) : CQ (Qi G (fun r M2 => r = nI (n_f (x_u x)) ∧ AR M2 h (x.1, x.2.1, 1, x_u x) ∧ On M M2 ∧ Wt M2 ∧ Ta M M2 h)) l G yX11_keep cX11_keep 2 ((some .int)) 1 21 0 0 [.ref h] M := by
  refine c_of ([some (.ref h), none] : Lo) RX11 "keep" (by decide) rfl rfl (Nat.le_of_ble_eq_true rfl) rfl (fun p e s m below meth c hC nw => ?_)
  have ht := hX.1
  have loop : ∀ (k i : Nat) (M1 : Me), i + k = 1663 → i ≤ 1662 → Qd M M1 → rwM M1 h = rwM M h → pas M1 h = pas M h → (∀ p, p < i → asd M1 h p = rwM M h p) → V p l e (rmk 1 21 0 0) s m ([.ref h] : List Value).toArray below meth c 2 G (MQ below (Qi G (fun r M2 => r = nI (n_f (x_u x)) ∧ AR M2 h (x.1, x.2.1, 1, x_u x) ∧ On M M2 ∧ Wt M2 ∧ Ta M M2 h)) ([.ref h] : List Value).toArray s 0 0 (fr_ G)) M1 0 0 2 ([some (.ref h), some (.int (nI i))] : Lo) [] := by
    intro k
    induction k with
    | zero => intro i M1 w1 w2; omega
    | succ k ih =>
      intro i M1 w1 w2 hB hr hp hs
      obtain ⟨b9, rfl⟩ := hB
      have hW : Wt (s_q M b9) := hW
      have ht : m_t (s_q M b9) h = 12 := ht
      refine v_iload_n hC dX11_keep_2 rfl rfl ?_
      refine v_sipush (v := 1662) hC dX11_keep_3 (by decide) ?_
      refine v_icmp_ge hC dX11_keep_6 (tgt := 27) (by decide) (fun h6 => ?_) (fun h6 => ?_)
      · have hi := lp_ge (N := 1662) h6
        refine v_aload_n hC dX11_keep_27 rfl rfl ?_
        refine v_iconst (v := 1) hC dX11_keep_28 (by decide) ?_
        refine pf_11_4 hC ht (Or.inr rfl) mw_4_124 dX11_keep_29 ?_
        refine v_aload_n hC dX11_keep_32 rfl rfl ?_
        refine v_iconst (v := 0) hC dX11_keep_33 (by decide) ?_
        have hW : Wt (s_i (s_q M b9) 280 h 0 1) := hW
        have ht : m_t (s_i (s_q M b9) 280 h 0 1) h = 12 := ht
        refine cVi1 hC (c_X11_number hW ht (q := 0) (by decide)) yv_X11_number rfl ht mw_4_165 ⟨Nat.le_of_ble_eq_true rfl, Nat.le_of_ble_eq_true rfl⟩ ⟨Nat.le_of_ble_eq_true rfl, Nat.le_of_ble_eq_true rfl⟩ (Nat.le_of_ble_eq_true rfl) dX11_keep_34 (fun r34 M36 hq => ?_)
        obtain ⟨rfl, hm⟩ := hq
        have hm2 := hm.symm
        clear hm
        subst hm2
        rw [show (rwM (s_i (s_q M b9) 280 h 0 1) h 0).toInt32 = nI (n_f (x_u x)) from by rw [show rwM (s_i (s_q M b9) 280 h 0 1) h 0 = rwM M h 0 from congrFun hr 0]; exact hX.2.1.c0]
        refine v_iret hC dX11_keep_37 ?_
        have hie : i = 1662 := by omega
        subst hie
        exact ⟨rfl, hX.keep hr hp hs, (On.qd ⟨b9, rfl⟩).si (by decide), hW, Ta.tr (M2 := s_q M b9) (fun _ _ q => q) (Ta.si (by decide) (by decide))⟩
      · have hi := lp_lt (N := 1662) h6
        refine v_aload_n hC dX11_keep_9 rfl rfl ?_
        refine gf_11_2 hC ht (wf_278 hW ht) mw_4_122 dX11_keep_10 ?_
        refine v_iload_n hC dX11_keep_13 rfl rfl ?_
        refine v_aload_n hC dX11_keep_14 rfl rfl ?_
        refine gf_11_0 hC ht (wf_276 hW ht) mw_4_120 dX11_keep_15 ?_
        refine v_iload_n hC dX11_keep_18 rfl rfl ?_
        refine v_lald 31 hC (wf_276 hW ht) (by decide) (by decide) (ix_c (wz_31 hW (wf_276 hW ht)) (by omega)) dX11_keep_19 ?_
        refine v_last 33 hC (wf_278 hW ht) (by decide) (by decide) (ix_c (wz_33 hW (wf_278 hW ht)) (by omega)) dX11_keep_20 ?_
        refine v_inc1 hC dX11_keep_21 ((nI_succ i).symm) (by decide) (kk := ?_)
        refine v_goto hC dX11_keep_24 (tgt := 2) (by decide) ?_
        exact ih (i + 1) _ (by omega) (by omega) (Qd.tr ⟨b9, rfl⟩ (Qd.sl (Or.inr (Or.inr rfl)))) (funext fun q => (l_sk (by decide)).trans (congrFun hr q)) (funext fun q => (l_sk (by decide)).trans (congrFun hp q)) (fun p hp2 => by
          refine l_sw.trans ?_
          by_cases q : p = i
          · rw [if_pos q, q]; exact congrFun hr i
          · rw [if_neg q]; exact hs p (by omega))
  refine v_iconst (v := 0) hC dX11_keep_0 (by decide) ?_
  refine v_ist1 hC dX11_keep_1 (by decide) (kk := ?_)
  exact loop 1663 0 _ (by omega) (by omega) Qd.rf rfl rfl (fun p hp => absurd hp (Nat.not_lt_zero p))

set_option maxHeartbeats 4000000 in
set_option maxRecDepth 100000 in
theorem c_X11_restore {l : Launch} {G : Gd} {M : Me} {h : Nat} {x : Xs} (hW : Wt M) (hX : AR M h x) : CQ (Qi G (fun r M2 => r = (if x_f x = 0 then -5 else nI (n_f (x_s x))) ∧ AR M2 h (if x_f x = 0 then x else acX x (some (x_s x))) ∧ On M M2 ∧ Wt M2 ∧ Ta M M2 h)) l G yX11_restore cX11_restore 2 ((some .int)) 1 21 0 0 [.ref h] M := by
  refine c_of ([some (.ref h), none] : Lo) RX11 "restore" (by decide) rfl rfl (Nat.le_of_ble_eq_true rfl) rfl (fun p e s m below meth c hC nw => ?_)
  have ht := hX.1
  have hia := hX.2.2.2.1
  have loop : ∀ (Mb : Me), x_f x = 1 → AR Mb h (pushX x) → Wt Mb → On M Mb → Ta M Mb h → ∀ (k i : Nat) (M1 : Me), i + k = 1663 → i ≤ 1662 → Qd Mb M1 → asd M1 h = asd Mb h → pas M1 h = pas Mb h → (∀ p, p < i → rwM M1 h p = asd Mb h p) → V p l e (rmk 1 21 0 0) s m ([.ref h] : List Value).toArray below meth c 2 G (MQ below (Qi G (fun r M2 => r = (if x_f x = 0 then -5 else nI (n_f (x_s x))) ∧ AR M2 h (if x_f x = 0 then x else acX x (some (x_s x))) ∧ On M M2 ∧ Wt M2 ∧ Ta M M2 h)) ([.ref h] : List Value).toArray s 0 0 (fr_ G)) M1 0 0 16 ([some (.ref h), some (.int (nI i))] : Lo) [] := by
    intro Mb hf1 hY hWb hOn hTa
    have htb := hY.1
    have hsn : LRw (asd Mb h) (x_s x) := by
      have := hY.2.2.2.2.2
      rw [show x_f (pushX x) = x_f x from congrArg Prod.fst (pushX_f x), show x_s (pushX x) = x_s x from congrArg Prod.snd (pushX_f x)] at this
      exact this hf1
    intro k
    induction k with
    | zero => intro i M1 w1 w2; omega
    | succ k ih =>
      intro i M1 w1 w2 hB hs hp hr
      obtain ⟨b9, rfl⟩ := hB
      have hW : Wt (s_q Mb b9) := hWb
      have ht : m_t (s_q Mb b9) h = 12 := htb
      refine v_iload_n hC dX11_restore_16 rfl rfl ?_
      refine v_sipush (v := 1662) hC dX11_restore_17 (by decide) ?_
      refine v_icmp_ge hC dX11_restore_20 (tgt := 41) (by decide) (fun h20 => ?_) (fun h20 => ?_)
      · have hi := lp_ge (N := 1662) h20
        have hie : i = 1662 := by omega
        subst hie
        have hfin : LRw (rwM (s_q Mb b9) h) (x_s x) := hsn.congr hr
        refine v_aload_n hC dX11_restore_41 rfl rfl ?_
        refine v_iconst (v := 0) hC dX11_restore_42 (by decide) ?_
        refine cVi1 hC (c_X11_number hW ht (q := 0) (by decide)) yv_X11_number rfl ht mw_4_165 ⟨Nat.le_of_ble_eq_true rfl, Nat.le_of_ble_eq_true rfl⟩ ⟨Nat.le_of_ble_eq_true rfl, Nat.le_of_ble_eq_true rfl⟩ (Nat.le_of_ble_eq_true rfl) dX11_restore_43 (fun r43 M45 hq => ?_)
        obtain ⟨rfl, hm⟩ := hq
        have hm2 := hm.symm
        clear hm
        subst hm2
        rw [show (rwM (s_q Mb b9) h 0).toInt32 = nI (n_f (x_s x)) from hfin.c0]
        refine v_iret hC dX11_restore_46 ?_
        have n0 : ¬ x_f x = 0 := by rw [hf1]; decide
        exact ⟨(if_neg n0).symm, by rw [if_neg n0]; exact AR.act hY rfl hs hp hfin, hOn.tr (On.qd ⟨b9, rfl⟩), hW, hTa.tr (fun _ _ q => q)⟩
      · have hi := lp_lt (N := 1662) h20
        refine v_aload_n hC dX11_restore_23 rfl rfl ?_
        refine gf_11_0 hC ht (wf_276 hW ht) mw_4_120 dX11_restore_24 ?_
        refine v_iload_n hC dX11_restore_27 rfl rfl ?_
        refine v_aload_n hC dX11_restore_28 rfl rfl ?_
        refine gf_11_2 hC ht (wf_278 hW ht) mw_4_122 dX11_restore_29 ?_
        refine v_iload_n hC dX11_restore_32 rfl rfl ?_
        refine v_lald 33 hC (wf_278 hW ht) (by decide) (by decide) (ix_c (wz_33 hW (wf_278 hW ht)) (by omega)) dX11_restore_33 ?_
        refine v_last 31 hC (wf_276 hW ht) (by decide) (by decide) (ix_c (wz_31 hW (wf_276 hW ht)) (by omega)) dX11_restore_34 ?_
        refine v_inc1 hC dX11_restore_35 ((nI_succ i).symm) (by decide) (kk := ?_)
        refine v_goto hC dX11_restore_38 (tgt := 16) (by decide) ?_
        exact ih (i + 1) _ (by omega) (by omega) (Qd.tr ⟨b9, rfl⟩ (Qd.sl (Or.inl rfl))) (funext fun q => (l_sk (by decide)).trans (congrFun hs q)) (funext fun q => (l_sk (by decide)).trans (congrFun hp q)) (fun p hp2 => by
          refine l_sw.trans ?_
          by_cases q : p = i
          · rw [if_pos q, q]; exact congrFun hs i
          · rw [if_neg q]; exact hr p (by omega))
  refine v_aload_n hC dX11_restore_0 rfl rfl ?_
  refine gf_11_4 hC ht mw_4_124 dX11_restore_1 ?_
  rw [hia]
  refine v_if_ne hC dX11_restore_4 (tgt := 10) (by decide) (fun h4 => ?_) (fun h4 => ?_)
  · have hf1 : x_f x = 1 := hX.2.2.2.2.1.resolve_left h4
    refine v_aload_n hC dX11_restore_10 rfl rfl ?_
    refine cVv0 hC (c_X11_record hW hX) yv_X11_record rfl ht mw_4_173 ⟨Nat.le_of_ble_eq_true rfl, Nat.le_of_ble_eq_true rfl⟩ ⟨Nat.le_of_ble_eq_true rfl, Nat.le_of_ble_eq_true rfl⟩ (Nat.le_of_ble_eq_true rfl) dX11_restore_11 (fun M13 hq => ?_)
    obtain ⟨hX9, hOn9, hW9, hTa9⟩ := hq
    refine v_iconst (v := 0) hC dX11_restore_14 (by decide) ?_
    refine v_ist1 hC dX11_restore_15 (by decide) (kk := ?_)
    exact loop _ hf1 hX9 hW9 hOn9 hTa9 1663 0 _ (by omega) (by omega) Qd.rf rfl rfl (fun p hp => absurd hp (Nat.not_lt_zero p))
  · have hf0 : x_f x = 0 := Decidable.not_not.mp (fun q => q h4)
    refine v_bipush (v := (-5)) hC dX11_restore_7 (by decide) ?_
    refine v_iret hC dX11_restore_9 ?_
    exact ⟨(if_pos hf0).symm, by rw [if_pos hf0]; exact hX, On.rf, hW, Ta.rf⟩
