def wh (f : Nat → Int32) : Nat → Int32
  | 0 => -5
  | k + 1 => if bm f k < f k then nI k else wh f k
theorem bm_ub {f : Nat → Int32} : ∀ n j : Nat, j < n → ¬ bm f n < f j
  | 0, j, h => absurd h (Nat.not_lt_zero j)
  | n + 1, j, h => by
    by_cases c : bm f n < f n
    · rw [show bm f (n + 1) = f n from if_pos c]
      by_cases q : j = n
      · rw [q]; exact fun z => i_ab z (Int32.le_refl _)
      · have := bm_ub (f := f) n j (by omega)
        exact fun z => this (Int32.lt_trans c z)
    · rw [show bm f (n + 1) = bm f n from if_neg c]
      by_cases q : j = n
      · rw [q]; exact c
      · exact bm_ub n j (by omega)
theorem bm_0 {f : Nat → Int32} : ∀ n : Nat, ¬ bm f n < 0
  | 0 => fun z => absurd (show (0 : Int32) < 0 from z) (by decide)
  | n + 1 => by
    by_cases c : bm f n < f n
    · rw [show bm f (n + 1) = f n from if_pos c]
      exact fun z => bm_0 n (Int32.lt_trans c z)
    · rw [show bm f (n + 1) = bm f n from if_neg c]; exact bm_0 n
/-- the first strictly greatest is the first that is the greatest -/
theorem wh_be {f : Nat → Int32} : ∀ n : Nat, (¬ 0 < bm f n ∧ wh f n = -5) ∨ (0 < bm f n ∧ ∃ e, e < n ∧ f e = bm f n ∧ (∀ j, j < e → ¬ f j = bm f n) ∧ wh f n = nI e)
  | 0 => Or.inl ⟨fun z => absurd (show (0 : Int32) < 0 from z) (by decide), rfl⟩
  | n + 1 => by
    by_cases c : bm f n < f n
    · refine Or.inr ⟨?_, n, Nat.lt_succ_self n, ?_, fun j hj q => ?_, if_pos c⟩
      · rw [show bm f (n + 1) = f n from if_pos c]
        have h0 := bm_0 (f := f) n
        rw [Int32.lt_iff_toInt_lt] at h0 c ⊢
        rw [show (0 : Int32).toInt = 0 from rfl] at h0 ⊢
        omega
      · rw [show bm f (n + 1) = f n from if_pos c]
      · rw [show bm f (n + 1) = f n from if_pos c] at q
        exact bm_ub (f := f) n j hj (by rw [q]; exact c)
    · rw [show bm f (n + 1) = bm f n from if_neg c, show wh f (n + 1) = wh f n from if_neg c]
      rcases wh_be n with h | ⟨h1, e, h2, h3, h4, h5⟩
      · exact Or.inl h
      · exact Or.inr ⟨h1, e, by omega, h3, h4, h5⟩
theorem wh_n {f : Nat → Int32} {n : Nat} : wh f n = beN f n := by
  unfold beN
  rcases wh_be (f := f) n with ⟨h1, h2⟩ | ⟨h1, e, h2, h3, h4, h5⟩
  · rw [if_neg h1]; exact h2
  · rw [if_pos h1, fsN_s h2 (decide_eq_true h3) (fun j hj q => h4 j hj (of_decide_eq_true q))]; exact h5
theorem rpv_sh {u : Si} {f t : Nat} (w : WfO u) (h8 : n_f u ≤ 8) (h12 : ∀ g, g < n_f u → n_s u g ≤ 12) (ht : t ≤ 12) : ∀ k, k ≤ n_f u → rpv u f t k = -5 ∨ ∃ m, m < 2000 ∧ rpv u f t k = nI m := by
  intro k
  induction k with
  | zero => intro _; exact Or.inl rfl
  | succ k ih =>
    intro hk
    obtain ⟨g, hg, eg⟩ := w.1 k (by omega)
    have ho : oN u k = g := by rw [oN, eg, nI_clamp (by omega)]
    show rpS (rpv u f t k) (oN u k) _ = -5 ∨ _
    rw [rpv, ho]
    have hlim : limN u f t g ≤ 12 := by
      unfold limN
      split
      · exact ht
      · exact h12 g hg
    rcases lsN_p (p := pB u (q_g u 0 f t) g) (limN u f t g) with ⟨s, h1, h2, -⟩ | ⟨h1, -⟩
    · rw [h1]
      refine Or.inr ⟨100 * g + s, by omega, ?_⟩
      show 100 * nI g + nI s = _
      rw [← nI_add, ← nI_ml]; rfl
    · rw [h1]; exact ih (by omega)
set_option maxHeartbeats 4000000 in
set_option maxRecDepth 100000 in
theorem c_X11_bestEntry {l : Launch} {G : Gd} {M : Me} {h a : Nat} {u : Si} {g : Sg} (hW : Wt M) (ht : m_t M h = 12) (hA : LA (rwM M h) u) (hg : SgN (fun i => rwM M h (a + i)) g) (ha : a + 9 ≤ 1662) : CQ (Qi G (fun r M2 => r = beN (fun e => mtc g (q_g u 1 e 0)) (n_e u) ∧ Bd M M2)) l G yX11_bestEntry cX11_bestEntry 6 ((some .int)) 3 75 0 0 [.ref h, .int (nI a)] M := by
  refine c_of ([some (.ref h), some (.int (nI a)), none, none, none, none] : Lo) RX11 "bestEntry" (by decide) rfl rfl (Nat.le_of_ble_eq_true rfl) rfl (fun p e s m below meth c hC nw => ?_)
  have u1 := hA.1.1
  have u2 := hA.1.2.1
  have u3 := hA.1.2.2.1
  have u4 := hA.1.2.2.2.1
  have hwz := wz_31 hW (wf_276 hW ht)
  have loop : ∀ (k i : Nat) (M1 : Me), i + k = 41 → i ≤ n_e u → Bd M M1 → V p l e (rmk 3 75 0 0) s m ([.ref h, .int (nI a)] : List Value).toArray below meth c 6 G (MQ below (Qi G (fun r M2 => r = beN (fun e => mtc g (q_g u 1 e 0)) (n_e u) ∧ Bd M M2)) ([.ref h, .int (nI a)] : List Value).toArray s 0 0 (fr_ G)) M1 0 0 8 ([some (.ref h), some (.int (nI a)), some (.int (bm (fun e => mtc g (q_g u 1 e 0)) i)), some (.int (wh (fun e => mtc g (q_g u 1 e 0)) i)), some (.int (nI i)), none] : Lo) [] := by
    intro k
    induction k with
    | zero => intro i M1 w1 w2; omega
    | succ k ih =>
      intro i M1 w1 w2 hB
      obtain ⟨b9, rfl⟩ := hB
      have hW : Wt (s_d M b9) := hW
      have ht : m_t (s_d M b9) h = 12 := ht
      have hA : LA (rwM (s_d M b9) h) u := hA
      have hg : SgN (fun i => rwM (s_d M b9) h (a + i)) g := hg
      have hwz : m_z (s_d M b9) (m_r (s_d M b9) 276 h 0) = 1662 := hwz
      refine v_iload hC dX11_bestEntry_8 rfl ?_
      refine v_i2l hC dX11_bestEntry_10 ?_
      rw [nI_l (by omega)]
      refine v_aload_n hC dX11_bestEntry_11 rfl rfl ?_
      refine gf_11_0 hC ht (wf_276 hW ht) mw_4_120 dX11_bestEntry_12 ?_
      refine v_iconst (v := 2) hC dX11_bestEntry_15 (by decide) ?_
      refine v_lald 31 hC (wf_276 hW ht) (by decide) (by decide) (ix_q (j := 2) hwz rfl) dX11_bestEntry_16 ?_
      rw [show m_l (s_d M b9) 31 (m_r (s_d M b9) 276 h 0) (2) = _ from hA.c2]
      refine v_lcmp hC dX11_bestEntry_17 ?_
      refine v_if_ge hC dX11_bestEntry_18 (tgt := 66) (by decide) (fun h18 => ?_) (fun h18 => ?_)
      · have hi := lc_ge h18
        refine v_iload_n hC dX11_bestEntry_66 rfl rfl ?_
        refine v_iret hC dX11_bestEntry_67 ?_
        have hie : i = n_e u := by omega
        subst hie
        exact ⟨wh_n, ⟨b9, rfl⟩⟩
      · have hi := lc_lt h18
        refine v_aload_n hC dX11_bestEntry_21 rfl rfl ?_
        refine v_iload_n hC dX11_bestEntry_22 rfl rfl ?_
        refine v_aload_n hC dX11_bestEntry_23 rfl rfl ?_
        refine v_iload hC dX11_bestEntry_24 rfl ?_
        refine cVi1 hC (c_X11_entryAt ht) yv_X11_entryAt rfl ht mw_5_35 ⟨Nat.le_of_ble_eq_true rfl, Nat.le_of_ble_eq_true rfl⟩ ⟨Nat.le_of_ble_eq_true rfl, Nat.le_of_ble_eq_true rfl⟩ (Nat.le_of_ble_eq_true rfl) dX11_bestEntry_26 (fun r26 M28 hq => ?_)
        obtain ⟨rfl, hm⟩ := hq
        have hm2 := hm.symm
        clear hm
        subst hm2
        refine cVi2 hC (c_X11_matchOf hW ht hg (hA.eg hi) ha (by omega)) yv_X11_matchOf rfl ht mw_5_100 ⟨Nat.le_of_ble_eq_true rfl, Nat.le_of_ble_eq_true rfl⟩ ⟨Nat.le_of_ble_eq_true rfl, Nat.le_of_ble_eq_true rfl⟩ (Nat.le_of_ble_eq_true rfl) dX11_bestEntry_29 (fun r29 M31 hq => ?_)
        obtain ⟨rfl, hB8⟩ := hq
        obtain ⟨b8, rfl⟩ := Bd.tr ⟨b9, rfl⟩ hB8
        refine v_ist5 hC dX11_bestEntry_32 (by decide) (kk := ?_)
        refine v_iload hC dX11_bestEntry_34 rfl ?_
        refine v_iload_n hC dX11_bestEntry_36 rfl rfl ?_
        refine v_icmp_le hC dX11_bestEntry_37 (tgt := 45) (by decide) (fun h37 => ?_) (fun h37 => ?_)
        · refine v_iload_n hC dX11_bestEntry_45 rfl rfl ?_
          refine v_ist3 hC dX11_bestEntry_46 (by decide) (kk := ?_)
          refine v_iload hC dX11_bestEntry_47 rfl ?_
          refine v_iload_n hC dX11_bestEntry_49 rfl rfl ?_
          refine v_icmp_le hC dX11_bestEntry_50 (tgt := 58) (by decide) (fun h50 => ?_) (fun h50 => ?_)
          · refine v_iload_n hC dX11_bestEntry_58 rfl rfl ?_
            refine v_ist2 hC dX11_bestEntry_59 (by decide) (kk := ?_)
            refine v_inc4 hC dX11_bestEntry_60 ((nI_succ i).symm) (by decide) (kk := ?_)
            refine v_goto hC dX11_bestEntry_63 (tgt := 8) (by decide) ?_
            refine v_drop 5 ?_
            first
              | exact absurd h37 h50
              | exact absurd h50 h37
              | (have e1 : bm (fun e => mtc g (q_g u 1 e 0)) (i + 1) = bm (fun e => mtc g (q_g u 1 e 0)) i := if_neg (fun q => i_ab q h37)
                 have e2 : wh (fun e => mtc g (q_g u 1 e 0)) (i + 1) = wh (fun e => mtc g (q_g u 1 e 0)) i := if_neg (fun q => i_ab q h37)
                 rw [← e1, ← e2]; exact ih (i + 1) _ (by omega) (by omega) ⟨b8, rfl⟩)
              | (have e1 : bm (fun e => mtc g (q_g u 1 e 0)) (i + 1) = mtc g (q_g u 1 i 0) := if_pos (i_nle h37)
                 have e2 : wh (fun e => mtc g (q_g u 1 e 0)) (i + 1) = nI i := if_pos (i_nle h37)
                 have z := ih (i + 1) _ (by omega) (by omega) ⟨b8, rfl⟩
                 rw [e1, e2] at z
                 exact z)
          · refine v_iload hC dX11_bestEntry_53 rfl ?_
            refine v_goto hC dX11_bestEntry_55 (tgt := 59) (by decide) ?_
            refine v_ist2 hC dX11_bestEntry_59 (by decide) (kk := ?_)
            refine v_inc4 hC dX11_bestEntry_60 ((nI_succ i).symm) (by decide) (kk := ?_)
            refine v_goto hC dX11_bestEntry_63 (tgt := 8) (by decide) ?_
            refine v_drop 5 ?_
            first
              | exact absurd h37 h50
              | exact absurd h50 h37
              | (have e1 : bm (fun e => mtc g (q_g u 1 e 0)) (i + 1) = bm (fun e => mtc g (q_g u 1 e 0)) i := if_neg (fun q => i_ab q h37)
                 have e2 : wh (fun e => mtc g (q_g u 1 e 0)) (i + 1) = wh (fun e => mtc g (q_g u 1 e 0)) i := if_neg (fun q => i_ab q h37)
                 rw [← e1, ← e2]; exact ih (i + 1) _ (by omega) (by omega) ⟨b8, rfl⟩)
              | (have e1 : bm (fun e => mtc g (q_g u 1 e 0)) (i + 1) = mtc g (q_g u 1 i 0) := if_pos (i_nle h37)
                 have e2 : wh (fun e => mtc g (q_g u 1 e 0)) (i + 1) = nI i := if_pos (i_nle h37)
                 have z := ih (i + 1) _ (by omega) (by omega) ⟨b8, rfl⟩
                 rw [e1, e2] at z
                 exact z)
        · refine v_iload hC dX11_bestEntry_40 rfl ?_
          refine v_goto hC dX11_bestEntry_42 (tgt := 46) (by decide) ?_
          refine v_ist3 hC dX11_bestEntry_46 (by decide) (kk := ?_)
          refine v_iload hC dX11_bestEntry_47 rfl ?_
          refine v_iload_n hC dX11_bestEntry_49 rfl rfl ?_
          refine v_icmp_le hC dX11_bestEntry_50 (tgt := 58) (by decide) (fun h50 => ?_) (fun h50 => ?_)
          · refine v_iload_n hC dX11_bestEntry_58 rfl rfl ?_
            refine v_ist2 hC dX11_bestEntry_59 (by decide) (kk := ?_)
            refine v_inc4 hC dX11_bestEntry_60 ((nI_succ i).symm) (by decide) (kk := ?_)
            refine v_goto hC dX11_bestEntry_63 (tgt := 8) (by decide) ?_
            refine v_drop 5 ?_
            first
              | exact absurd h37 h50
              | exact absurd h50 h37
              | (have e1 : bm (fun e => mtc g (q_g u 1 e 0)) (i + 1) = bm (fun e => mtc g (q_g u 1 e 0)) i := if_neg (fun q => i_ab q h37)
                 have e2 : wh (fun e => mtc g (q_g u 1 e 0)) (i + 1) = wh (fun e => mtc g (q_g u 1 e 0)) i := if_neg (fun q => i_ab q h37)
                 rw [← e1, ← e2]; exact ih (i + 1) _ (by omega) (by omega) ⟨b8, rfl⟩)
              | (have e1 : bm (fun e => mtc g (q_g u 1 e 0)) (i + 1) = mtc g (q_g u 1 i 0) := if_pos (i_nle h37)
                 have e2 : wh (fun e => mtc g (q_g u 1 e 0)) (i + 1) = nI i := if_pos (i_nle h37)
                 have z := ih (i + 1) _ (by omega) (by omega) ⟨b8, rfl⟩
                 rw [e1, e2] at z
                 exact z)
          · refine v_iload hC dX11_bestEntry_53 rfl ?_
            refine v_goto hC dX11_bestEntry_55 (tgt := 59) (by decide) ?_
            refine v_ist2 hC dX11_bestEntry_59 (by decide) (kk := ?_)
            refine v_inc4 hC dX11_bestEntry_60 ((nI_succ i).symm) (by decide) (kk := ?_)
            refine v_goto hC dX11_bestEntry_63 (tgt := 8) (by decide) ?_
            refine v_drop 5 ?_
            first
              | exact absurd h37 h50
              | exact absurd h50 h37
              | (have e1 : bm (fun e => mtc g (q_g u 1 e 0)) (i + 1) = bm (fun e => mtc g (q_g u 1 e 0)) i := if_neg (fun q => i_ab q h37)
                 have e2 : wh (fun e => mtc g (q_g u 1 e 0)) (i + 1) = wh (fun e => mtc g (q_g u 1 e 0)) i := if_neg (fun q => i_ab q h37)
                 rw [← e1, ← e2]; exact ih (i + 1) _ (by omega) (by omega) ⟨b8, rfl⟩)
              | (have e1 : bm (fun e => mtc g (q_g u 1 e 0)) (i + 1) = mtc g (q_g u 1 i 0) := if_pos (i_nle h37)
                 have e2 : wh (fun e => mtc g (q_g u 1 e 0)) (i + 1) = nI i := if_pos (i_nle h37)
                 have z := ih (i + 1) _ (by omega) (by omega) ⟨b8, rfl⟩
                 rw [e1, e2] at z
                 exact z)
  refine v_iconst (v := 0) hC dX11_bestEntry_0 (by decide) ?_
  refine v_ist2 hC dX11_bestEntry_1 (by decide) (kk := ?_)
  refine v_bipush (v := (-5)) hC dX11_bestEntry_2 (by decide) ?_
  refine v_ist3 hC dX11_bestEntry_4 (by decide) (kk := ?_)
  refine v_iconst (v := 0) hC dX11_bestEntry_5 (by decide) ?_
  refine v_ist4 hC dX11_bestEntry_6 (by decide) (kk := ?_)
  exact loop 41 0 M (by omega) (by omega) Bd.rf

set_option maxHeartbeats 4000000 in
set_option maxRecDepth 100000 in
theorem c_X11_placeOf {l : Launch} {G : Gd} {M : Me} {h f : Nat} {u : Si} (hW : Wt M) (ht : m_t M h = 12) (hA : LA (rwM M h) u) (hO : WfO u) (hf : f < n_f u) : CQ (Qi G (fun r M2 => r = nI (plN u f) ∧ M2 = M)) l G yX11_placeOf cX11_placeOf 3 ((some .int)) 2 42 0 0 [.ref h, .int (nI f)] M := by
  refine c_of ([some (.ref h), some (.int (nI f)), none] : Lo) RX11 "placeOf" (by decide) rfl rfl (Nat.le_of_ble_eq_true rfl) rfl (fun p e s m below meth c hC nw => ?_)
  have u1 := hA.1.1
  have u2 := hA.1.2.1
  have u3 := hA.1.2.2.1
  have u4 := hA.1.2.2.2.1
  obtain ⟨p1, p2, p3, p4⟩ := plN_p hO hf
  have loop : ∀ (k i : Nat), i + k = plN u f + 1 → i ≤ plN u f → V p l e (rmk 2 42 0 0) s m ([.ref h, .int (nI f)] : List Value).toArray below meth c 3 G (MQ below (Qi G (fun r M2 => r = nI (plN u f) ∧ M2 = M)) ([.ref h, .int (nI f)] : List Value).toArray s 0 0 (fr_ G)) M 0 0 2 ([some (.ref h), some (.int (nI f)), some (.int (nI i))] : Lo) [] := by
    intro k
    induction k with
    | zero => intro i w1 w2; omega
    | succ k ih =>
      intro i w1 w2
      refine v_aload_n hC dX11_placeOf_2 rfl rfl ?_
      refine v_iload_n hC dX11_placeOf_3 rfl rfl ?_
      refine cVi1 hC (c_X11_fileIn hW ht hA (by omega)) yv_X11_fileIn rfl ht mw_5_51 ⟨Nat.le_of_ble_eq_true rfl, Nat.le_of_ble_eq_true rfl⟩ ⟨Nat.le_of_ble_eq_true rfl, Nat.le_of_ble_eq_true rfl⟩ (Nat.le_of_ble_eq_true rfl) dX11_placeOf_4 (fun r4 M6 hq => ?_)
      obtain ⟨rfl, hm⟩ := hq
      have hm2 := hm.symm
      clear hm
      subst hm2
      refine v_iload_n hC dX11_placeOf_7 rfl rfl ?_
      refine v_icmp_eq hC dX11_placeOf_8 (tgt := 17) (by decide) (fun h8 => ?_) (fun h8 => ?_)
      · refine v_iload_n hC dX11_placeOf_17 rfl rfl ?_
        refine v_iret hC dX11_placeOf_18 ?_
        exact ⟨by
          by_cases q : i < plN u f
          · exact absurd h8 (p4 i q)
          · rw [show i = plN u f by omega], rfl⟩
      · refine v_inc2 hC dX11_placeOf_11 ((nI_succ i).symm) (by decide) (kk := ?_)
        refine v_goto hC dX11_placeOf_14 (tgt := 2) (by decide) ?_
        have hne : i ≠ plN u f := fun q => h8 (by rw [q]; exact p3)
        exact ih (i + 1) (by omega) (by omega)
  refine v_iconst (v := 0) hC dX11_placeOf_0 (by decide) ?_
  refine v_ist2 hC dX11_placeOf_1 (by decide) (kk := ?_)
  exact loop (plN u f + 1) 0 (by omega) (Nat.zero_le _)

set_option maxHeartbeats 4000000 in
set_option maxRecDepth 100000 in
theorem c_X11_nearest {l : Launch} {G : Gd} {M : Me} {h f t : Nat} {u : Si} (hW : Wt M) (ht : m_t M h = 12) (hA : LA (rwM M h) u) (hO : WfO u) (hS : WfS u) (hf : f < n_f u) (hs : t < n_s u f) : CQ (Qi G (fun r M2 => r = rpv u f t (plN u f + 1) ∧ M2 = M)) l G yX11_nearest cX11_nearest 9 ((some .int)) 3 64 0 0 [.ref h, .int (nI f), .int (nI t)] M := by
  refine c_of ([some (.ref h), some (.int (nI f)), some (.int (nI t)), none, none, none, none, none, none] : Lo) RX11 "nearest" (by decide) rfl rfl (Nat.le_of_ble_eq_true rfl) rfl (fun p e s m below meth c hC nw => ?_)
  have u1 := hA.1.1
  have u2 := hA.1.2.1
  have u3 := hA.1.2.2.1
  have u4 := hA.1.2.2.2.1
  obtain ⟨p1, p2, p3, p4⟩ := plN_p hO hf
  have h12f := hA.1.2.2.2.2 f hf
  have loopB : ∀ (i g n9 : Nat), i ≤ plN u f → g < n_f u → oN u i = g → n9 ≤ 12 → n9 ≤ n_s u g → n9 = limN u f t g → V p l e (rmk 3 64 0 0) s m ([.ref h, .int (nI f), .int (nI t)] : List Value).toArray below meth c 9 G (MQ below (Qi G (fun r M2 => r = rpv u f t (plN u f + 1) ∧ M2 = M)) ([.ref h, .int (nI f), .int (nI t)] : List Value).toArray s 0 0 (fr_ G)) M 0 0 105 ([some (.ref h), some (.int (nI f)), some (.int (nI t)), some (.int (rpv u f t (i + 1))), some (.int (nI (plN u f))), some (.int (nI i)), none, none, none] : Lo) [] → ∀ (k j : Nat), j + k = 13 → j ≤ n9 → V p l e (rmk 3 64 0 0) s m ([.ref h, .int (nI f), .int (nI t)] : List Value).toArray below meth c 9 G (MQ below (Qi G (fun r M2 => r = rpv u f t (plN u f + 1) ∧ M2 = M)) ([.ref h, .int (nI f), .int (nI t)] : List Value).toArray s 0 0 (fr_ G)) M 0 0 49 ([some (.ref h), some (.int (nI f)), some (.int (nI t)), some (.int (rpS (rpv u f t i) g (lsN (pB u (q_g u 0 f t) g) j))), some (.int (nI (plN u f))), some (.int (nI i)), some (.int (nI g)), some (.int (nI n9)), some (.int (nI j))] : Lo) [] := by
    intro i g n9 hi hg ho k1 k2 k3 cont k
    induction k with
    | zero => intro j w1 w2; omega
    | succ k ih =>
      intro j w1 w2
      have h12g := hA.1.2.2.2.2 g hg
      refine v_iload hC dX11_nearest_49 rfl ?_
      refine v_iload hC dX11_nearest_51 rfl ?_
      refine v_icmp_ge hC dX11_nearest_53 (tgt := 105) (by decide) (fun h53 => ?_) (fun h53 => ?_)
      · have hj := lp_ge h53
        refine v_drop 6 (v_drop 7 (v_drop 8 ?_))
        have e9 : rpv u f t (i + 1) = rpS (rpv u f t i) g (lsN (pB u (q_g u 0 f t) g) j) := by
          rw [rpv, ho, ← k3]
          first
            | (have q9 : j = n9 := by omega
               rw [q9])
            | rw [lsN_o (p := (pB u (q_g u 0 f t) g)) (n := n9) (fun s9 _ q => g59 (of_decide_eq_true q).1), lsN_o (p := (pB u (q_g u 0 f t) g)) (n := j) (fun s9 _ q => g59 (of_decide_eq_true q).1)]
        rw [← e9]; exact cont
      · have hj := lp_lt h53
        refine v_aload_n hC dX11_nearest_56 rfl rfl ?_
        refine v_iload hC dX11_nearest_57 rfl ?_
        refine cVi1 hC (c_X11_isInHand hW ht hA hS hg) yv_X11_isInHand rfl ht mw_5_59 ⟨Nat.le_of_ble_eq_true rfl, Nat.le_of_ble_eq_true rfl⟩ ⟨Nat.le_of_ble_eq_true rfl, Nat.le_of_ble_eq_true rfl⟩ (Nat.le_of_ble_eq_true rfl) dX11_nearest_59 (fun r59 M61 hq => ?_)
        obtain ⟨hm, hq2⟩ := hq
        have hm2 := hm.symm
        clear hm
        subst hm2
        obtain ⟨g59, rfl⟩ | ⟨g59, rfl⟩ := hq2
        · refine v_if_eq hC dX11_nearest_62 (tgt := 105) (by decide) (fun hx => absurd hx (by decide)) (fun _ => ?_)
          refine v_aload_n hC dX11_nearest_65 rfl rfl ?_
          refine v_aload_n hC dX11_nearest_66 rfl rfl ?_
          refine v_iload hC dX11_nearest_67 rfl ?_
          refine v_iload hC dX11_nearest_69 rfl ?_
          refine cVi2 hC (c_X11_segmentAt ht) yv_X11_segmentAt rfl ht mw_5_19 ⟨Nat.le_of_ble_eq_true rfl, Nat.le_of_ble_eq_true rfl⟩ ⟨Nat.le_of_ble_eq_true rfl, Nat.le_of_ble_eq_true rfl⟩ (Nat.le_of_ble_eq_true rfl) dX11_nearest_71 (fun r71 M73 hq => ?_)
          obtain ⟨rfl, hm⟩ := hq
          have hm2 := hm.symm
          clear hm
          subst hm2
          refine v_aload_n hC dX11_nearest_74 rfl rfl ?_
          refine v_iload_n hC dX11_nearest_75 rfl rfl ?_
          refine v_iload_n hC dX11_nearest_76 rfl rfl ?_
          refine cVi2 hC (c_X11_segmentAt ht) yv_X11_segmentAt rfl ht mw_5_19 ⟨Nat.le_of_ble_eq_true rfl, Nat.le_of_ble_eq_true rfl⟩ ⟨Nat.le_of_ble_eq_true rfl, Nat.le_of_ble_eq_true rfl⟩ (Nat.le_of_ble_eq_true rfl) dX11_nearest_77 (fun r77 M79 hq => ?_)
          obtain ⟨rfl, hm⟩ := hq
          have hm2 := hm.symm
          clear hm
          subst hm2
          refine cVi2 hC (c_X11_areAlike hW ht (hA.sg hg (by omega)) (hA.sg hf hs) (by omega) (by omega)) yv_X11_areAlike rfl ht mw_5_92 ⟨Nat.le_of_ble_eq_true rfl, Nat.le_of_ble_eq_true rfl⟩ ⟨Nat.le_of_ble_eq_true rfl, Nat.le_of_ble_eq_true rfl⟩ (Nat.le_of_ble_eq_true rfl) dX11_nearest_80 (fun r80 M82 hq => ?_)
          obtain ⟨hm, hq2⟩ := hq
          have hm2 := hm.symm
          clear hm
          subst hm2
          obtain ⟨g80, rfl⟩ | ⟨g80, rfl⟩ := hq2
          · refine v_if_eq hC dX11_nearest_83 (tgt := 97) (by decide) (fun hx => absurd hx (by decide)) (fun _ => ?_)
            refine v_bipush (v := 100) hC dX11_nearest_86 (by decide) ?_
            refine v_iload hC dX11_nearest_88 rfl ?_
            refine v_imul hC dX11_nearest_90 ?_
            refine v_iload hC dX11_nearest_91 rfl ?_
            refine v_iadd hC dX11_nearest_93 ?_
            refine v_goto hC dX11_nearest_94 (tgt := 98) (by decide) ?_
            refine v_ist3 hC dX11_nearest_98 (by decide) (kk := ?_)
            refine v_inc8 hC dX11_nearest_99 ((nI_succ j).symm) (by decide) (kk := ?_)
            refine v_goto hC dX11_nearest_102 (tgt := 49) (by decide) ?_
            first
              | (have zz : (pB u (q_g u 0 f t) g) j = true := decide_eq_true ⟨g59, g80⟩
                 have z := ih (j + 1) (by omega) (by omega)
                 rw [lsN, if_pos zz] at z
                 exact z)
              | (have zz : ¬ (pB u (q_g u 0 f t) g) j = true := fun q => g80 (of_decide_eq_true q).2
                 have z := ih (j + 1) (by omega) (by omega)
                 rw [lsN, if_neg zz] at z
                 exact z)
          · refine v_if_eq hC dX11_nearest_83 (tgt := 97) (by decide) (fun _ => ?_) (fun hx => absurd hx (by decide))
            refine v_iload_n hC dX11_nearest_97 rfl rfl ?_
            refine v_ist3 hC dX11_nearest_98 (by decide) (kk := ?_)
            refine v_inc8 hC dX11_nearest_99 ((nI_succ j).symm) (by decide) (kk := ?_)
            refine v_goto hC dX11_nearest_102 (tgt := 49) (by decide) ?_
            first
              | (have zz : (pB u (q_g u 0 f t) g) j = true := decide_eq_true ⟨g59, g80⟩
                 have z := ih (j + 1) (by omega) (by omega)
                 rw [lsN, if_pos zz] at z
                 exact z)
              | (have zz : ¬ (pB u (q_g u 0 f t) g) j = true := fun q => g80 (of_decide_eq_true q).2
                 have z := ih (j + 1) (by omega) (by omega)
                 rw [lsN, if_neg zz] at z
                 exact z)
        · refine v_if_eq hC dX11_nearest_62 (tgt := 105) (by decide) (fun _ => ?_) (fun hx => absurd hx (by decide))
          refine v_drop 6 (v_drop 7 (v_drop 8 ?_))
          have e9 : rpv u f t (i + 1) = rpS (rpv u f t i) g (lsN (pB u (q_g u 0 f t) g) j) := by
            rw [rpv, ho, ← k3]
            first
              | (have q9 : j = n9 := by omega
                 rw [q9])
              | rw [lsN_o (p := (pB u (q_g u 0 f t) g)) (n := n9) (fun s9 _ q => g59 (of_decide_eq_true q).1), lsN_o (p := (pB u (q_g u 0 f t) g)) (n := j) (fun s9 _ q => g59 (of_decide_eq_true q).1)]
          rw [← e9]; exact cont
  have loopA : ∀ (k i : Nat), i + k = plN u f + 2 → i ≤ plN u f + 1 → V p l e (rmk 3 64 0 0) s m ([.ref h, .int (nI f), .int (nI t)] : List Value).toArray below meth c 9 G (MQ below (Qi G (fun r M2 => r = rpv u f t (plN u f + 1) ∧ M2 = M)) ([.ref h, .int (nI f), .int (nI t)] : List Value).toArray s 0 0 (fr_ G)) M 0 0 13 ([some (.ref h), some (.int (nI f)), some (.int (nI t)), some (.int (rpv u f t i)), some (.int (nI (plN u f))), some (.int (nI i)), none, none, none] : Lo) [] := by
    intro k
    induction k with
    | zero => intro i w1 w2; omega
    | succ k ih =>
      intro i w1 w2
      refine v_iload hC dX11_nearest_13 rfl ?_
      refine v_iload hC dX11_nearest_15 rfl ?_
      refine v_icmp_gt hC dX11_nearest_17 (tgt := 111) (by decide) (fun h17 => ?_) (fun h17 => ?_)
      · have hi := lp_gt h17
        refine v_iload_n hC dX11_nearest_111 rfl rfl ?_
        refine v_iret hC dX11_nearest_112 ?_
        have hie : i = plN u f + 1 := by omega
        subst hie
        exact ⟨rfl, rfl⟩
      · have hi := lp_ng h17
        obtain ⟨g, hg, eg⟩ := hO.1 i (by omega)
        have ho : oN u i = g := by rw [oN, eg, nI_clamp (by omega)]
        refine v_aload_n hC dX11_nearest_20 rfl rfl ?_
        refine v_iload hC dX11_nearest_21 rfl ?_
        refine cVi1 hC (c_X11_fileIn hW ht hA (by omega)) yv_X11_fileIn rfl ht mw_5_51 ⟨Nat.le_of_ble_eq_true rfl, Nat.le_of_ble_eq_true rfl⟩ ⟨Nat.le_of_ble_eq_true rfl, Nat.le_of_ble_eq_true rfl⟩ (Nat.le_of_ble_eq_true rfl) dX11_nearest_23 (fun r23 M25 hq => ?_)
        obtain ⟨rfl, hm⟩ := hq
        have hm2 := hm.symm
        clear hm
        subst hm2
        rw [eg]
        refine v_ist6 hC dX11_nearest_26 (by decide) (kk := ?_)
        refine v_iload hC dX11_nearest_28 rfl ?_
        refine v_iload_n hC dX11_nearest_30 rfl rfl ?_
        refine v_icmp_ne hC dX11_nearest_31 (tgt := 38) (by decide) (fun h31 => ?_) (fun h31 => ?_)
        · have hgf : ¬ g = f := fun q => h31 (by rw [q])
          refine v_aload_n hC dX11_nearest_38 rfl rfl ?_
          refine v_iload hC dX11_nearest_39 rfl ?_
          refine cVi1 hC (c_X11_many hW ht hA hg) yv_X11_many rfl ht mw_5_15 ⟨Nat.le_of_ble_eq_true rfl, Nat.le_of_ble_eq_true rfl⟩ ⟨Nat.le_of_ble_eq_true rfl, Nat.le_of_ble_eq_true rfl⟩ (Nat.le_of_ble_eq_true rfl) dX11_nearest_41 (fun r41 M43 hq => ?_)
          obtain ⟨rfl, hm⟩ := hq
          have hm2 := hm.symm
          clear hm
          subst hm2
          refine v_ist7 hC dX11_nearest_44 (by decide) (kk := ?_)
          refine v_iconst (v := 0) hC dX11_nearest_46 (by decide) ?_
          refine v_ist8 hC dX11_nearest_47 (by decide) (kk := ?_)
          refine loopB i g _ hi hg ho ?_ ?_ ?_ ?_ 13 0 (by omega) (Nat.zero_le _)
          · first | exact (hA.1.2.2.2.2 g hg) | omega
          · first | exact Nat.le_refl _ | (rw [hgf]; omega)
          · first | (rw [limN, if_pos hgf]) | (rw [limN, if_neg hgf])
          · refine v_inc5 hC dX11_nearest_105 ((nI_succ i).symm) (by decide) (kk := ?_)
            refine v_goto hC dX11_nearest_108 (tgt := 13) (by decide) ?_
            exact ih (i + 1) (by omega) (by omega)
        · have hgf : g = f := (nI_eq (by omega) (by omega)).mp h31
          refine v_iload_n hC dX11_nearest_34 rfl rfl ?_
          refine v_goto hC dX11_nearest_35 (tgt := 44) (by decide) ?_
          refine v_ist7 hC dX11_nearest_44 (by decide) (kk := ?_)
          refine v_iconst (v := 0) hC dX11_nearest_46 (by decide) ?_
          refine v_ist8 hC dX11_nearest_47 (by decide) (kk := ?_)
          refine loopB i g _ hi hg ho ?_ ?_ ?_ ?_ 13 0 (by omega) (Nat.zero_le _)
          · first | exact (hA.1.2.2.2.2 g hg) | omega
          · first | exact Nat.le_refl _ | (rw [hgf]; omega)
          · first | (rw [limN, if_pos hgf]) | (rw [limN, if_neg hgf])
          · refine v_inc5 hC dX11_nearest_105 ((nI_succ i).symm) (by decide) (kk := ?_)
            refine v_goto hC dX11_nearest_108 (tgt := 13) (by decide) ?_
            exact ih (i + 1) (by omega) (by omega)
  refine v_bipush (v := (-5)) hC dX11_nearest_0 (by decide) ?_
  refine v_ist3 hC dX11_nearest_2 (by decide) (kk := ?_)
  refine v_aload_n hC dX11_nearest_3 rfl rfl ?_
  refine v_iload_n hC dX11_nearest_4 rfl rfl ?_
  refine cVi1 hC (c_X11_placeOf hW ht hA hO hf) yv_X11_placeOf rfl ht mw_5_47 ⟨Nat.le_of_ble_eq_true rfl, Nat.le_of_ble_eq_true rfl⟩ ⟨Nat.le_of_ble_eq_true rfl, Nat.le_of_ble_eq_true rfl⟩ (Nat.le_of_ble_eq_true rfl) dX11_nearest_5 (fun r5 M7 hq => ?_)
  obtain ⟨rfl, hm⟩ := hq
  have hm2 := hm.symm
  clear hm
  subst hm2
  refine v_ist4 hC dX11_nearest_8 (by decide) (kk := ?_)
  refine v_iconst (v := 0) hC dX11_nearest_10 (by decide) ?_
  refine v_ist5 hC dX11_nearest_11 (by decide) (kk := ?_)
  exact loopA (plN u f + 2) 0 (by omega) (by omega)
