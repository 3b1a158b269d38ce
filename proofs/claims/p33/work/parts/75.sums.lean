/-- a segment has a way where it has a target, and a positive one -/
def WfT (u : Si) : Prop := ∀ f t, f < n_f u → t < n_s u f → (q_i u 9 f t = 0 ∧ q_i u 10 f t = 0) ∨ (0 < q_i u 9 f t ∧ ¬ q_i u 10 f t = 0)
theorem i64_i {x y : Int32} : x.toInt64 = y.toInt64 ↔ x = y := ⟨fun q => by have := congrArg Int64.toInt32 q; rwa [Int32.toInt32_toInt64, Int32.toInt32_toInt64] at this, fun q => by rw [q]⟩
theorem i64_0 {x : Int32} : (0 : Int64) < x.toInt64 ↔ 0 < x := by
  rw [Int64.lt_iff_toInt_lt, Int32.lt_iff_toInt_lt, Int32.toInt_toInt64]
  rfl
theorem hasT {u : Si} {f t : Nat} (w : WfT u) (hf : f < n_f u) (ht : t < n_s u f) : (0 : Int64) < eb 9 (q_i u 9 f t) ↔ ¬ q_i u 9 f t = 0 := by
  unfold eb
  rcases w f t hf ht with ⟨h, -⟩ | ⟨h, -⟩
  · rw [h, if_pos ⟨Or.inl rfl, rfl⟩]; decide
  · have h0 : ¬ q_i u 9 f t = 0 := fun q => by rw [q] at h; exact absurd h (by decide)
    rw [if_neg (fun q => h0 q.2)]
    exact ⟨fun _ => h0, fun _ => i64_0.mpr h⟩
def T9 (u : Si) (f t : Nat) : Int32 := if ¬ q_i u 9 f t = 0 then 1 else 0
theorem T9_y {u : Si} {f : Nat} (w : WfT u) (hf : f < n_f u) : sm (T9 u f) (n_s u f) = nI (n_s u f) - y_f u 0 f := by
  have h : ∀ k, k ≤ n_s u f → sm (T9 u f) k = nI k - sm (fun i => if q_i u 10 f i = 0 then 1 else 0) k := by
    intro k
    induction k with
    | zero => intro _; show (0 : Int32) = nI 0 - 0; decide
    | succ k ih =>
      intro hk
      rw [sm_s, sm_s, ih (by omega), nI_succ]
      unfold T9
      rcases w f k hf (by omega) with ⟨h1, h2⟩ | ⟨h1, h2⟩
      · rw [if_neg (fun q => q h1), if_pos h2]
        rw [Int32.add_zero, ← Int32.sub_sub, Int32.sub_eq_add_neg (nI k + 1), Int32.add_assoc, Int32.add_comm 1, ← Int32.add_assoc, ← Int32.sub_eq_add_neg, Int32.add_sub_cancel]
      · have h0 : ¬ q_i u 9 f k = 0 := fun q => by rw [q] at h1; exact absurd h1 (by decide)
        rw [if_pos h0, if_neg h2, Int32.add_zero, Int32.sub_eq_add_neg, Int32.sub_eq_add_neg, Int32.add_assoc, Int32.add_comm _ 1, ← Int32.add_assoc]
  exact h _ (Nat.le_refl _)
set_option maxHeartbeats 4000000 in
set_option maxRecDepth 100000 in
theorem c_X11_bandOf {l : Launch} {G : Gd} {M : Me} {h f t : Nat} {u : Si} (hW : Wt M) (ht : m_t M h = 12) (hA : LA (rwM M h) u) (hO : WfO u) (hS : WfS u) (hf : f < n_f u) (hs : t < n_s u f) (hI : iH u f) : CQ (Qi G (fun r M2 => r = bnd u f t ∧ Bd M M2)) l G yX11_bandOf cX11_bandOf 4 ((some .int)) 4 99 0 0 [.ref h, .int (nI f), .int (nI t)] M := by
  refine c_of ([some (.ref h), some (.int (nI f)), some (.int (nI t)), none] : Lo) RX11 "bandOf" (by decide) rfl rfl (Nat.le_of_ble_eq_true rfl) rfl (fun p e s m below meth c hC nw => ?_)
  have u1 := hA.1.1
  have u2 := hA.1.2.1
  have u3 := hA.1.2.2.1
  have u4 := hA.1.2.2.2.1
  have h12f := hA.1.2.2.2.2 f hf
  obtain ⟨p1, p2, p3, p4⟩ := plN_p hO hf
  have en : nrv u f t = rpv u f t (plN u f + 1) := if_pos hI
  have hsh := rpv_sh (f := f) (t := t) hO u1 hA.1.2.2.2.2 (show t ≤ 12 by omega) (plN u f + 1) (by omega)
  refine v_aload_n hC dX11_bandOf_0 rfl rfl ?_
  refine v_iload_n hC dX11_bandOf_1 rfl rfl ?_
  refine v_iload_n hC dX11_bandOf_2 rfl rfl ?_
  refine cVi2 hC (c_X11_nearest hW ht hA hO hS hf hs) yv_X11_nearest rfl ht mw_5_88 ⟨Nat.le_of_ble_eq_true rfl, Nat.le_of_ble_eq_true rfl⟩ ⟨Nat.le_of_ble_eq_true rfl, Nat.le_of_ble_eq_true rfl⟩ (Nat.le_of_ble_eq_true rfl) dX11_bandOf_3 (fun r3 M5 hq => ?_)
  obtain ⟨rfl, hm⟩ := hq
  have hm2 := hm.symm
  clear hm
  subst hm2
  refine v_if_lt hC dX11_bandOf_6 (tgt := 11) (by decide) (fun h6 => ?_) (fun h6 => ?_)
  · have k6 : nrv u f t = -5 := by
      rcases hsh with z | ⟨m9, z1, z⟩
      · rw [en]; exact z
      · rw [z] at h6; exact (i_ab h6 (nI_le (a := 0) (Nat.zero_le m9) (by omega))).elim
    refine v_aload_n hC dX11_bandOf_11 rfl rfl ?_
    refine v_aload_n hC dX11_bandOf_12 rfl rfl ?_
    refine v_iload_n hC dX11_bandOf_13 rfl rfl ?_
    refine v_iload_n hC dX11_bandOf_14 rfl rfl ?_
    refine cVi2 hC (c_X11_segmentAt ht) yv_X11_segmentAt rfl ht mw_5_19 ⟨Nat.le_of_ble_eq_true rfl, Nat.le_of_ble_eq_true rfl⟩ ⟨Nat.le_of_ble_eq_true rfl, Nat.le_of_ble_eq_true rfl⟩ (Nat.le_of_ble_eq_true rfl) dX11_bandOf_15 (fun r15 M17 hq => ?_)
    obtain ⟨rfl, hm⟩ := hq
    have hm2 := hm.symm
    clear hm
    subst hm2
    refine cVi1 hC (c_X11_match hW ht hA (hA.sg hf hs) (by omega)) yv_X11_match rfl ht mw_5_96 ⟨Nat.le_of_ble_eq_true rfl, Nat.le_of_ble_eq_true rfl⟩ ⟨Nat.le_of_ble_eq_true rfl, Nat.le_of_ble_eq_true rfl⟩ (Nat.le_of_ble_eq_true rfl) dX11_bandOf_18 (fun r18 M20 hq => ?_)
    obtain ⟨hr18, hB9⟩ := hq
    have hr2 : r18 = mtv u f t := hr18
    clear hr18
    subst hr2
    refine v_ist3 hC dX11_bandOf_21 (by decide) (kk := ?_)
    refine v_iload_n hC dX11_bandOf_22 rfl rfl ?_
    refine v_bipush (v := 100) hC dX11_bandOf_23 (by decide) ?_
    refine v_icmp_ne hC dX11_bandOf_25 (tgt := 32) (by decide) (fun h25 => ?_) (fun h25 => ?_)
    · refine v_iload_n hC dX11_bandOf_32 rfl rfl ?_
      refine v_bipush (v := 85) hC dX11_bandOf_33 (by decide) ?_
      refine v_icmp_lt hC dX11_bandOf_35 (tgt := 42) (by decide) (fun h35 => ?_) (fun h35 => ?_)
      · refine v_iload_n hC dX11_bandOf_42 rfl rfl ?_
        refine v_bipush (v := 75) hC dX11_bandOf_43 (by decide) ?_
        refine v_icmp_lt hC dX11_bandOf_45 (tgt := 52) (by decide) (fun h45 => ?_) (fun h45 => ?_)
        · refine v_iload_n hC dX11_bandOf_52 rfl rfl ?_
          refine v_bipush (v := 50) hC dX11_bandOf_53 (by decide) ?_
          refine v_icmp_lt hC dX11_bandOf_55 (tgt := 62) (by decide) (fun h55 => ?_) (fun h55 => ?_)
          · refine v_iconst (v := 5) hC dX11_bandOf_62 (by decide) ?_
            refine v_iret hC dX11_bandOf_63 ?_
            exact ⟨by rw [bnd, if_neg (fun q => q k6), bdm, if_neg h25, if_neg (fun q => q h35), if_neg (fun q => q h45), if_neg (fun q => q h55)], hB9⟩
          · refine v_iconst (v := 4) hC dX11_bandOf_58 (by decide) ?_
            refine v_goto hC dX11_bandOf_59 (tgt := 63) (by decide) ?_
            refine v_iret hC dX11_bandOf_63 ?_
            exact ⟨by rw [bnd, if_neg (fun q => q k6), bdm, if_neg h25, if_neg (fun q => q h35), if_neg (fun q => q h45), if_pos h55], hB9⟩
        · refine v_iconst (v := 3) hC dX11_bandOf_48 (by decide) ?_
          refine v_goto hC dX11_bandOf_49 (tgt := 63) (by decide) ?_
          refine v_iret hC dX11_bandOf_63 ?_
          exact ⟨by rw [bnd, if_neg (fun q => q k6), bdm, if_neg h25, if_neg (fun q => q h35), if_pos h45], hB9⟩
      · refine v_iconst (v := 2) hC dX11_bandOf_38 (by decide) ?_
        refine v_goto hC dX11_bandOf_39 (tgt := 63) (by decide) ?_
        refine v_iret hC dX11_bandOf_63 ?_
        exact ⟨by rw [bnd, if_neg (fun q => q k6), bdm, if_neg h25, if_pos h35], hB9⟩
    · refine v_iconst (v := 1) hC dX11_bandOf_28 (by decide) ?_
      refine v_goto hC dX11_bandOf_29 (tgt := 63) (by decide) ?_
      refine v_iret hC dX11_bandOf_63 ?_
      exact ⟨by rw [bnd, if_neg (fun q => q k6), bdm, if_pos h25], hB9⟩
  · have k6 : ¬ nrv u f t = -5 := by
      rw [en]
      exact fun q => h6 (by rw [q]; decide)
    refine v_iconst (v := 0) hC dX11_bandOf_9 (by decide) ?_
    refine v_iret hC dX11_bandOf_10 ?_
    exact ⟨(if_pos k6).symm, Bd.rf⟩

set_option maxHeartbeats 4000000 in
set_option maxRecDepth 100000 in
theorem c_X11_wordsBy {l : Launch} {G : Gd} {M : Me} {h f b : Nat} {u : Si} (hW : Wt M) (ht : m_t M h = 12) (hA : LA (rwM M h) u) (hO : WfO u) (hS : WfS u) (hf : f < n_f u) (hI : iH u f) (hb : b < 6) : CQ (Qi G (fun r M2 => r = wbn u f b ∧ Bd M M2)) l G yX11_wordsBy cX11_wordsBy 5 ((some .int)) 5 122 0 0 [.ref h, .int (nI f), .int (nI b)] M := by
  refine c_of ([some (.ref h), some (.int (nI f)), some (.int (nI b)), none, none] : Lo) RX11 "wordsBy" (by decide) rfl rfl (Nat.le_of_ble_eq_true rfl) rfl (fun p e s m below meth c hC nw => ?_)
  have u1 := hA.1.1
  have u2 := hA.1.2.1
  have u3 := hA.1.2.2.1
  have u4 := hA.1.2.2.2.1
  have h12f := hA.1.2.2.2.2 f hf
  have loop : ∀ (k i : Nat) (M1 : Me), i + k = 13 → i ≤ n_s u f → Bd M M1 → V p l e (rmk 5 122 0 0) s m ([.ref h, .int (nI f), .int (nI b)] : List Value).toArray below meth c 5 G (MQ below (Qi G (fun r M2 => r = wbn u f b ∧ Bd M M2)) ([.ref h, .int (nI f), .int (nI b)] : List Value).toArray s 0 0 (fr_ G)) M1 0 0 5 ([some (.ref h), some (.int (nI f)), some (.int (nI b)), some (.int (sm (wbF u f b) i)), some (.int (nI i))] : Lo) [] := by
    intro k
    induction k with
    | zero => intro i M1 w1 w2; omega
    | succ k ih =>
      intro i M1 w1 w2 hB
      obtain ⟨b9, rfl⟩ := hB
      have hW : Wt (s_d M b9) := hW
      have ht : m_t (s_d M b9) h = 12 := ht
      have hA : LA (rwM (s_d M b9) h) u := hA
      refine v_iload hC dX11_wordsBy_5 rfl ?_
      refine v_aload_n hC dX11_wordsBy_7 rfl rfl ?_
      refine v_iload_n hC dX11_wordsBy_8 rfl rfl ?_
      refine cVi1 hC (c_X11_many hW ht hA hf) yv_X11_many rfl ht mw_5_15 ⟨Nat.le_of_ble_eq_true rfl, Nat.le_of_ble_eq_true rfl⟩ ⟨Nat.le_of_ble_eq_true rfl, Nat.le_of_ble_eq_true rfl⟩ (Nat.le_of_ble_eq_true rfl) dX11_wordsBy_9 (fun r9 M11 hq => ?_)
      obtain ⟨rfl, hm⟩ := hq
      have hm2 := hm.symm
      clear hm
      subst hm2
      refine v_icmp_ge hC dX11_wordsBy_12 (tgt := 52) (by decide) (fun h12 => ?_) (fun h12 => ?_)
      · have hi := lp_ge h12
        refine v_iload_n hC dX11_wordsBy_52 rfl rfl ?_
        refine v_iret hC dX11_wordsBy_53 ?_
        have hie : i = n_s u f := by omega
        subst hie
        exact ⟨rfl, ⟨b9, rfl⟩⟩
      · have hi := lp_lt h12
        refine v_iload_n hC dX11_wordsBy_15 rfl rfl ?_
        refine v_aload_n hC dX11_wordsBy_16 rfl rfl ?_
        refine v_iload_n hC dX11_wordsBy_17 rfl rfl ?_
        refine v_iload hC dX11_wordsBy_18 rfl ?_
        refine cVi2 hC (c_X11_bandOf hW ht hA hO hS hf hi hI) yv_X11_bandOf rfl ht mw_5_84 ⟨Nat.le_of_ble_eq_true rfl, Nat.le_of_ble_eq_true rfl⟩ ⟨Nat.le_of_ble_eq_true rfl, Nat.le_of_ble_eq_true rfl⟩ (Nat.le_of_ble_eq_true rfl) dX11_wordsBy_20 (fun r20 M22 hq => ?_)
        obtain ⟨rfl, hB8⟩ := hq
        obtain ⟨b8, rfl⟩ := Bd.tr ⟨b9, rfl⟩ hB8
        have hW : Wt (s_d M b8) := hW
        have ht : m_t (s_d M b8) h = 12 := ht
        have hA : LA (rwM (s_d M b8) h) u := hA
        refine v_iload_n hC dX11_wordsBy_23 rfl rfl ?_
        refine v_icmp_ne hC dX11_wordsBy_24 (tgt := 43) (by decide) (fun h24 => ?_) (fun h24 => ?_)
        · refine v_iconst (v := 0) hC dX11_wordsBy_43 (by decide) ?_
          refine v_iadd hC dX11_wordsBy_44 ?_
          first
            | rw [show sm (wbF u f b) i + nI (q_g u 0 f i).length = sm (wbF u f b) (i + 1) from by rw [sm_s, wbF, if_pos h24]]
            | rw [show sm (wbF u f b) i + 0 = sm (wbF u f b) (i + 1) from by rw [sm_s, wbF, if_neg h24]]
          refine v_ist3 hC dX11_wordsBy_45 (by decide) (kk := ?_)
          refine v_inc4 hC dX11_wordsBy_46 ((nI_succ i).symm) (by decide) (kk := ?_)
          refine v_goto hC dX11_wordsBy_49 (tgt := 5) (by decide) ?_
          exact ih (i + 1) _ (by omega) (by omega) ⟨b8, rfl⟩
        · refine v_aload_n hC dX11_wordsBy_27 rfl rfl ?_
          refine v_aload_n hC dX11_wordsBy_28 rfl rfl ?_
          refine v_iload_n hC dX11_wordsBy_29 rfl rfl ?_
          refine v_iload hC dX11_wordsBy_30 rfl ?_
          refine cVi2 hC (c_X11_segmentAt ht) yv_X11_segmentAt rfl ht mw_5_19 ⟨Nat.le_of_ble_eq_true rfl, Nat.le_of_ble_eq_true rfl⟩ ⟨Nat.le_of_ble_eq_true rfl, Nat.le_of_ble_eq_true rfl⟩ (Nat.le_of_ble_eq_true rfl) dX11_wordsBy_32 (fun r32 M34 hq => ?_)
          obtain ⟨rfl, hm⟩ := hq
          have hm2 := hm.symm
          clear hm
          subst hm2
          refine v_iconst (v := 0) hC dX11_wordsBy_35 (by decide) ?_
          refine v_iadd hC dX11_wordsBy_36 ?_
          rw [show nI (606 + 11 * (12 * f + i)) + 0 = nI (606 + 11 * (12 * f + i)) from nI_add _ 0]
          refine cVi1 hC (c_X11_number hW ht (by omega)) yv_X11_number rfl ht mw_4_165 ⟨Nat.le_of_ble_eq_true rfl, Nat.le_of_ble_eq_true rfl⟩ ⟨Nat.le_of_ble_eq_true rfl, Nat.le_of_ble_eq_true rfl⟩ (Nat.le_of_ble_eq_true rfl) dX11_wordsBy_37 (fun r37 M39 hq => ?_)
          obtain ⟨rfl, hm⟩ := hq
          have hm2 := hm.symm
          clear hm
          subst hm2
          rw [show rwM (s_d M b8) h (606 + 11 * (12 * f + i)) = lN (q_g u 0 f i).length from (hA.sg hf hi).n0, lN_i]
          refine v_goto hC dX11_wordsBy_40 (tgt := 44) (by decide) ?_
          refine v_iadd hC dX11_wordsBy_44 ?_
          first
            | rw [show sm (wbF u f b) i + nI (q_g u 0 f i).length = sm (wbF u f b) (i + 1) from by rw [sm_s, wbF, if_pos h24]]
            | rw [show sm (wbF u f b) i + 0 = sm (wbF u f b) (i + 1) from by rw [sm_s, wbF, if_neg h24]]
          refine v_ist3 hC dX11_wordsBy_45 (by decide) (kk := ?_)
          refine v_inc4 hC dX11_wordsBy_46 ((nI_succ i).symm) (by decide) (kk := ?_)
          refine v_goto hC dX11_wordsBy_49 (tgt := 5) (by decide) ?_
          exact ih (i + 1) _ (by omega) (by omega) ⟨b8, rfl⟩
  refine v_iconst (v := 0) hC dX11_wordsBy_0 (by decide) ?_
  refine v_ist3 hC dX11_wordsBy_1 (by decide) (kk := ?_)
  refine v_iconst (v := 0) hC dX11_wordsBy_2 (by decide) ?_
  refine v_ist4 hC dX11_wordsBy_3 (by decide) (kk := ?_)
  exact loop 13 0 M (by omega) (by omega) Bd.rf

set_option maxHeartbeats 4000000 in
set_option maxRecDepth 100000 in
theorem c_X11_words {l : Launch} {G : Gd} {M : Me} {h f : Nat} {u : Si} (hW : Wt M) (ht : m_t M h = 12) (hA : LA (rwM M h) u) (hf : f < n_f u) : CQ (Qi G (fun r M2 => r = w_f u f ∧ M2 = M)) l G yX11_words cX11_words 4 ((some .int)) 2 42 0 0 [.ref h, .int (nI f)] M := by
  refine c_of ([some (.ref h), some (.int (nI f)), none, none] : Lo) RX11 "words" (by decide) rfl rfl (Nat.le_of_ble_eq_true rfl) rfl (fun p e s m below meth c hC nw => ?_)
  have u1 := hA.1.1
  have u2 := hA.1.2.1
  have u3 := hA.1.2.2.1
  have u4 := hA.1.2.2.2.1
  have h12f := hA.1.2.2.2.2 f hf
  have hwz := wz_31 hW (wf_276 hW ht)
  have loop : ∀ (k i : Nat), i + k = 13 → i ≤ n_s u f → V p l e (rmk 2 42 0 0) s m ([.ref h, .int (nI f)] : List Value).toArray below meth c 4 G (MQ below (Qi G (fun r M2 => r = w_f u f ∧ M2 = M)) ([.ref h, .int (nI f)] : List Value).toArray s 0 0 (fr_ G)) M 0 0 4 ([some (.ref h), some (.int (nI f)), some (.int (sm (f_wc (q_g u 0 f)) i)), some (.int (nI i))] : Lo) [] := by
    intro k
    induction k with
    | zero => intro i w1 w2; omega
    | succ k ih =>
      intro i w1 w2
      refine v_iload_n hC dX11_words_4 rfl rfl ?_
      refine v_aload_n hC dX11_words_5 rfl rfl ?_
      refine v_iload_n hC dX11_words_6 rfl rfl ?_
      refine cVi1 hC (c_X11_many hW ht hA hf) yv_X11_many rfl ht mw_5_15 ⟨Nat.le_of_ble_eq_true rfl, Nat.le_of_ble_eq_true rfl⟩ ⟨Nat.le_of_ble_eq_true rfl, Nat.le_of_ble_eq_true rfl⟩ (Nat.le_of_ble_eq_true rfl) dX11_words_7 (fun r7 M9 hq => ?_)
      obtain ⟨rfl, hm⟩ := hq
      have hm2 := hm.symm
      clear hm
      subst hm2
      refine v_icmp_ge hC dX11_words_10 (tgt := 34) (by decide) (fun h10 => ?_) (fun h10 => ?_)
      · have hi := lp_ge h10
        refine v_iload_n hC dX11_words_34 rfl rfl ?_
        refine v_iret hC dX11_words_35 ?_
        have hie : i = n_s u f := by omega
        subst hie
        exact ⟨rfl, rfl⟩
      · have hi := lp_lt h10
        refine v_iload_n hC dX11_words_13 rfl rfl ?_
        refine v_aload_n hC dX11_words_14 rfl rfl ?_
        refine v_aload_n hC dX11_words_15 rfl rfl ?_
        refine v_iload_n hC dX11_words_16 rfl rfl ?_
        refine v_iload_n hC dX11_words_17 rfl rfl ?_
        refine cVi2 hC (c_X11_segmentAt ht) yv_X11_segmentAt rfl ht mw_5_19 ⟨Nat.le_of_ble_eq_true rfl, Nat.le_of_ble_eq_true rfl⟩ ⟨Nat.le_of_ble_eq_true rfl, Nat.le_of_ble_eq_true rfl⟩ (Nat.le_of_ble_eq_true rfl) dX11_words_18 (fun r18 M20 hq => ?_)
        obtain ⟨rfl, hm⟩ := hq
        have hm2 := hm.symm
        clear hm
        subst hm2
        refine v_iconst (v := 0) hC dX11_words_21 (by decide) ?_
        refine v_iadd hC dX11_words_22 ?_
        rw [show nI (606 + 11 * (12 * f + i)) + 0 = nI (606 + 11 * (12 * f + i)) from nI_add _ 0]
        refine cVi1 hC (c_X11_number hW ht (by omega)) yv_X11_number rfl ht mw_4_165 ⟨Nat.le_of_ble_eq_true rfl, Nat.le_of_ble_eq_true rfl⟩ ⟨Nat.le_of_ble_eq_true rfl, Nat.le_of_ble_eq_true rfl⟩ (Nat.le_of_ble_eq_true rfl) dX11_words_23 (fun r23 M25 hq => ?_)
        obtain ⟨rfl, hm⟩ := hq
        have hm2 := hm.symm
        clear hm
        subst hm2
        rw [show rwM M h (606 + 11 * (12 * f + i)) = lN (q_g u 0 f i).length from (hA.sg hf hi).n0, lN_i]
        refine v_iadd hC dX11_words_26 ?_
        refine v_ist2 hC dX11_words_27 (by decide) (kk := ?_)
        refine v_inc3 hC dX11_words_28 ((nI_succ i).symm) (by decide) (kk := ?_)
        refine v_goto hC dX11_words_31 (tgt := 4) (by decide) ?_
        exact ih (i + 1) (by omega) (by omega)
  refine v_iconst (v := 0) hC dX11_words_0 (by decide) ?_
  refine v_ist2 hC dX11_words_1 (by decide) (kk := ?_)
  refine v_iconst (v := 0) hC dX11_words_2 (by decide) ?_
  refine v_ist3 hC dX11_words_3 (by decide) (kk := ?_)
  exact loop 13 0 (by omega) (by omega)

set_option maxHeartbeats 4000000 in
set_option maxRecDepth 100000 in
theorem c_X11_priceOf {l : Launch} {G : Gd} {M : Me} {h f p1 : Nat} {u : Si} (hW : Wt M) (ht : m_t M h = 12) (hA : LA (rwM M h) u) (hO : WfO u) (hS : WfS u) (hf : f < n_f u) (hI : iH u f) (hp : p1 < n_p u) : CQ (Qi G (fun r M2 => r = prc u f (q_i u 1 p1 0) ∧ Bd M M2)) l G yX11_priceOf cX11_priceOf 5 ((some .int)) 6 146 0 0 [.ref h, .int (nI f), .int (nI p1)] M := by
  refine c_of ([some (.ref h), some (.int (nI f)), some (.int (nI p1)), none, none] : Lo) RX11 "priceOf" (by decide) rfl rfl (Nat.le_of_ble_eq_true rfl) rfl (fun p e s m below meth c hC nw => ?_)
  have u1 := hA.1.1
  have u2 := hA.1.2.1
  have u3 := hA.1.2.2.1
  have u4 := hA.1.2.2.2.1
  have loop : ∀ (k i : Nat) (M1 : Me), i + k = 7 → i ≤ 6 → Bd M M1 → V p l e (rmk 6 146 0 0) s m ([.ref h, .int (nI f), .int (nI p1)] : List Value).toArray below meth c 5 G (MQ below (Qi G (fun r M2 => r = prc u f (q_i u 1 p1 0) ∧ Bd M M2)) ([.ref h, .int (nI f), .int (nI p1)] : List Value).toArray s 0 0 (fr_ G)) M1 0 0 5 ([some (.ref h), some (.int (nI f)), some (.int (nI p1)), some (.int (sm (fun b => wbn u f b * q_i u 1 p1 0 * q_i u 0 0 b / 100) i)), some (.int (nI i))] : Lo) [] := by
    intro k
    induction k with
    | zero => intro i M1 w1 w2; omega
    | succ k ih =>
      intro i M1 w1 w2 hB
      obtain ⟨b9, rfl⟩ := hB
      have hW : Wt (s_d M b9) := hW
      have ht : m_t (s_d M b9) h = 12 := ht
      have hA : LA (rwM (s_d M b9) h) u := hA
      refine v_iload hC dX11_priceOf_5 rfl ?_
      refine v_bipush (v := 6) hC dX11_priceOf_7 (by decide) ?_
      refine v_icmp_ge hC dX11_priceOf_9 (tgt := 52) (by decide) (fun h9 => ?_) (fun h9 => ?_)
      · refine v_iload_n hC dX11_priceOf_52 rfl rfl ?_
        refine v_iret hC dX11_priceOf_53 ?_
        have hie : i = 6 := by have := lp_ge (N := 6) h9; omega
        subst hie
        exact ⟨rfl, ⟨b9, rfl⟩⟩
      · have hi := lp_lt (N := 6) h9
        refine v_iload_n hC dX11_priceOf_12 rfl rfl ?_
        refine v_aload_n hC dX11_priceOf_13 rfl rfl ?_
        refine v_iload_n hC dX11_priceOf_14 rfl rfl ?_
        refine v_iload hC dX11_priceOf_15 rfl ?_
        refine cVi2 hC (c_X11_wordsBy hW ht hA hO hS hf hI hi) yv_X11_wordsBy rfl ht mw_5_80 ⟨Nat.le_of_ble_eq_true rfl, Nat.le_of_ble_eq_true rfl⟩ ⟨Nat.le_of_ble_eq_true rfl, Nat.le_of_ble_eq_true rfl⟩ (Nat.le_of_ble_eq_true rfl) dX11_priceOf_17 (fun r17 M19 hq => ?_)
        obtain ⟨rfl, hB8⟩ := hq
        obtain ⟨b8, rfl⟩ := Bd.tr ⟨b9, rfl⟩ hB8
        have hW : Wt (s_d M b8) := hW
        have ht : m_t (s_d M b8) h = 12 := ht
        have hA : LA (rwM (s_d M b8) h) u := hA
        refine v_aload_n hC dX11_priceOf_20 rfl rfl ?_
        refine v_aload_n hC dX11_priceOf_21 rfl rfl ?_
        refine v_iload_n hC dX11_priceOf_22 rfl rfl ?_
        refine cVi1 hC (c_X11_personBy ht) yv_X11_personBy rfl ht mw_4_185 ⟨Nat.le_of_ble_eq_true rfl, Nat.le_of_ble_eq_true rfl⟩ ⟨Nat.le_of_ble_eq_true rfl, Nat.le_of_ble_eq_true rfl⟩ (Nat.le_of_ble_eq_true rfl) dX11_priceOf_23 (fun r23 M25 hq => ?_)
        obtain ⟨rfl, hm⟩ := hq
        have hm2 := hm.symm
        clear hm
        subst hm2
        refine v_iconst (v := 0) hC dX11_priceOf_26 (by decide) ?_
        refine v_iadd hC dX11_priceOf_27 ?_
        rw [show nI (74 + 7 * p1) + 0 = nI (74 + 7 * p1) from nI_add _ 0]
        refine cVi1 hC (c_X11_number hW ht (by omega)) yv_X11_number rfl ht mw_4_165 ⟨Nat.le_of_ble_eq_true rfl, Nat.le_of_ble_eq_true rfl⟩ ⟨Nat.le_of_ble_eq_true rfl, Nat.le_of_ble_eq_true rfl⟩ (Nat.le_of_ble_eq_true rfl) dX11_priceOf_28 (fun r28 M30 hq => ?_)
        obtain ⟨rfl, hm⟩ := hq
        have hm2 := hm.symm
        clear hm
        subst hm2
        rw [show rwM (s_d M b8) h (74 + 7 * p1) = _ from (hA.p3 hp).1, Int32.toInt32_toInt64]
        refine v_imul hC dX11_priceOf_31 ?_
        refine v_aload_n hC dX11_priceOf_32 rfl rfl ?_
        refine v_iconst (v := 4) hC dX11_priceOf_33 (by decide) ?_
        refine v_iload hC dX11_priceOf_34 rfl ?_
        refine v_iadd hC dX11_priceOf_36 ?_
        rw [show 4 + nI i = nI (4 + i) from nI_add 4 i]
        refine cVi1 hC (c_X11_number hW ht (by omega)) yv_X11_number rfl ht mw_4_165 ⟨Nat.le_of_ble_eq_true rfl, Nat.le_of_ble_eq_true rfl⟩ ⟨Nat.le_of_ble_eq_true rfl, Nat.le_of_ble_eq_true rfl⟩ (Nat.le_of_ble_eq_true rfl) dX11_priceOf_37 (fun r37 M39 hq => ?_)
        obtain ⟨rfl, hm⟩ := hq
        have hm2 := hm.symm
        clear hm
        subst hm2
        rw [show rwM (s_d M b8) h (4 + i) = _ from hA.h0 hi, Int32.toInt32_toInt64]
        refine v_imul hC dX11_priceOf_40 ?_
        refine v_bipush (v := 100) hC dX11_priceOf_41 (by decide) ?_
        refine v_idiv hC dX11_priceOf_43 (by decide) ?_
        refine v_iadd hC dX11_priceOf_44 ?_
        refine v_ist3 hC dX11_priceOf_45 (by decide) (kk := ?_)
        refine v_inc4 hC dX11_priceOf_46 ((nI_succ i).symm) (by decide) (kk := ?_)
        refine v_goto hC dX11_priceOf_49 (tgt := 5) (by decide) ?_
        exact ih (i + 1) _ (by omega) (by omega) ⟨b8, rfl⟩
  refine v_iconst (v := 0) hC dX11_priceOf_0 (by decide) ?_
  refine v_ist3 hC dX11_priceOf_1 (by decide) (kk := ?_)
  refine v_iconst (v := 0) hC dX11_priceOf_2 (by decide) ?_
  refine v_ist4 hC dX11_priceOf_3 (by decide) (kk := ?_)
  exact loop 7 0 M (by omega) (by omega) Bd.rf

set_option maxHeartbeats 4000000 in
set_option maxRecDepth 100000 in
theorem c_X11_hasTarget {l : Launch} {G : Gd} {M : Me} {h f t : Nat} {u : Si} (hW : Wt M) (ht : m_t M h = 12) (hA : LA (rwM M h) u) (hT : WfT u) (hf : f < n_f u) (hs : t < n_s u f) : CQ (Qi G (fun r M2 => M2 = M ∧ (¬ q_i u 9 f t = 0 ∧ r = 1 ∨ ¬ ¬ q_i u 9 f t = 0 ∧ r = 0))) l G yX11_hasTarget cX11_hasTarget 2 ((some .boolean)) 0 0 0 0 [.ref h, .int (nI (606 + 11 * (12 * f + t)))] M := by
  refine c_of ([some (.ref h), some (.int (nI (606 + 11 * (12 * f + t))))] : Lo) RX11 "hasTarget" (by decide) rfl rfl (Nat.le_of_ble_eq_true rfl) rfl (fun p e s m below meth c hC nw => ?_)
  have u1 := hA.1.1
  have u2 := hA.1.2.1
  have u3 := hA.1.2.2.1
  have u4 := hA.1.2.2.2.1
  have h12f := hA.1.2.2.2.2 f hf
  have hwz := wz_31 hW (wf_276 hW ht)
  refine v_aload_n hC dX11_hasTarget_0 rfl rfl ?_
  refine gf_11_0 hC ht (wf_276 hW ht) mw_4_120 dX11_hasTarget_1 ?_
  refine v_iload_n hC dX11_hasTarget_4 rfl rfl ?_
  refine v_bipush (v := 9) hC dX11_hasTarget_5 (by decide) ?_
  refine v_iadd hC dX11_hasTarget_7 ?_
  rw [show nI (606 + 11 * (12 * f + t)) + 9 = nI (606 + 11 * (12 * f + t) + 9) from nI_add _ 9]
  refine v_lald 31 hC (wf_276 hW ht) (by decide) (by decide) (ix_c hwz (by omega)) dX11_hasTarget_8 ?_
  rw [show m_l M 31 (m_r M 276 h 0) (606 + 11 * (12 * f + t) + 9) = _ from (hA.s2 hf hs).1]
  refine v_lconst (v := 0) hC dX11_hasTarget_9 (by decide) ?_
  refine v_lcmp hC dX11_hasTarget_10 ?_
  refine v_if_le hC dX11_hasTarget_11 (tgt := 18) (by decide) (fun h11 => ?_) (fun h11 => ?_)
  · refine v_iconst (v := 0) hC dX11_hasTarget_18 (by decide) ?_
    refine v_zret hC (Or.inl rfl) dX11_hasTarget_19 ?_
    exact ⟨rfl, Or.inr ⟨fun q => i_ab ((lg_cmp_gt _ _).mpr ((hasT hT hf hs).mpr q)) h11, rfl⟩⟩
  · refine v_iconst (v := 1) hC dX11_hasTarget_14 (by decide) ?_
    refine v_goto hC dX11_hasTarget_15 (tgt := 19) (by decide) ?_
    refine v_zret hC (Or.inr rfl) dX11_hasTarget_19 ?_
    exact ⟨rfl, Or.inl ⟨(hasT hT hf hs).mp ((lg_cmp_gt _ _).mp (i_nle h11)), rfl⟩⟩

set_option maxHeartbeats 4000000 in
set_option maxRecDepth 100000 in
theorem c_X11_withTarget {l : Launch} {G : Gd} {M : Me} {h f : Nat} {u : Si} (hW : Wt M) (ht : m_t M h = 12) (hA : LA (rwM M h) u) (hT : WfT u) (hf : f < n_f u) : CQ (Qi G (fun r M2 => r = nI (n_s u f) - y_f u 0 f ∧ M2 = M)) l G yX11_withTarget cX11_withTarget 4 ((some .int)) 2 42 0 0 [.ref h, .int (nI f)] M := by
  refine c_of ([some (.ref h), some (.int (nI f)), none, none] : Lo) RX11 "withTarget" (by decide) rfl rfl (Nat.le_of_ble_eq_true rfl) rfl (fun p e s m below meth c hC nw => ?_)
  have u1 := hA.1.1
  have u2 := hA.1.2.1
  have u3 := hA.1.2.2.1
  have u4 := hA.1.2.2.2.1
  have h12f := hA.1.2.2.2.2 f hf
  have hwz := wz_31 hW (wf_276 hW ht)
  have loop : ∀ (k i : Nat), i + k = 13 → i ≤ n_s u f → V p l e (rmk 2 42 0 0) s m ([.ref h, .int (nI f)] : List Value).toArray below meth c 4 G (MQ below (Qi G (fun r M2 => r = nI (n_s u f) - y_f u 0 f ∧ M2 = M)) ([.ref h, .int (nI f)] : List Value).toArray s 0 0 (fr_ G)) M 0 0 4 ([some (.ref h), some (.int (nI f)), some (.int (sm (T9 u f) i)), some (.int (nI i))] : Lo) [] := by
    intro k
    induction k with
    | zero => intro i w1 w2; omega
    | succ k ih =>
      intro i w1 w2
      refine v_iload_n hC dX11_withTarget_4 rfl rfl ?_
      refine v_aload_n hC dX11_withTarget_5 rfl rfl ?_
      refine v_iload_n hC dX11_withTarget_6 rfl rfl ?_
      refine cVi1 hC (c_X11_many hW ht hA hf) yv_X11_many rfl ht mw_5_15 ⟨Nat.le_of_ble_eq_true rfl, Nat.le_of_ble_eq_true rfl⟩ ⟨Nat.le_of_ble_eq_true rfl, Nat.le_of_ble_eq_true rfl⟩ (Nat.le_of_ble_eq_true rfl) dX11_withTarget_7 (fun r7 M9 hq => ?_)
      obtain ⟨rfl, hm⟩ := hq
      have hm2 := hm.symm
      clear hm
      subst hm2
      refine v_icmp_ge hC dX11_withTarget_10 (tgt := 40) (by decide) (fun h10 => ?_) (fun h10 => ?_)
      · have hi := lp_ge h10
        refine v_iload_n hC dX11_withTarget_40 rfl rfl ?_
        refine v_iret hC dX11_withTarget_41 ?_
        have hie : i = n_s u f := by omega
        subst hie
        exact ⟨T9_y hT hf, rfl⟩
      · have hi := lp_lt h10
        refine v_iload_n hC dX11_withTarget_13 rfl rfl ?_
        refine v_aload_n hC dX11_withTarget_14 rfl rfl ?_
        refine v_aload_n hC dX11_withTarget_15 rfl rfl ?_
        refine v_iload_n hC dX11_withTarget_16 rfl rfl ?_
        refine v_iload_n hC dX11_withTarget_17 rfl rfl ?_
        refine cVi2 hC (c_X11_segmentAt ht) yv_X11_segmentAt rfl ht mw_5_19 ⟨Nat.le_of_ble_eq_true rfl, Nat.le_of_ble_eq_true rfl⟩ ⟨Nat.le_of_ble_eq_true rfl, Nat.le_of_ble_eq_true rfl⟩ (Nat.le_of_ble_eq_true rfl) dX11_withTarget_18 (fun r18 M20 hq => ?_)
        obtain ⟨rfl, hm⟩ := hq
        have hm2 := hm.symm
        clear hm
        subst hm2
        refine cVi1 hC (c_X11_hasTarget hW ht hA hT hf hi) yv_X11_hasTarget rfl ht mw_5_68 ⟨Nat.le_of_ble_eq_true rfl, Nat.le_of_ble_eq_true rfl⟩ ⟨Nat.le_of_ble_eq_true rfl, Nat.le_of_ble_eq_true rfl⟩ (Nat.le_of_ble_eq_true rfl) dX11_withTarget_21 (fun r21 M23 hq => ?_)
        obtain ⟨hm, hq2⟩ := hq
        have hm2 := hm.symm
        clear hm
        subst hm2
        obtain ⟨g21, rfl⟩ | ⟨g21, rfl⟩ := hq2
        · refine v_if_eq hC dX11_withTarget_24 (tgt := 31) (by decide) (fun hx => absurd hx (by decide)) (fun _ => ?_)
          refine v_iconst (v := 1) hC dX11_withTarget_27 (by decide) ?_
          refine v_goto hC dX11_withTarget_28 (tgt := 32) (by decide) ?_
          refine v_iadd hC dX11_withTarget_32 ?_
          first
            | rw [show sm (T9 u f) i + 1 = sm (T9 u f) (i + 1) from by rw [sm_s, T9, if_pos g21]]
            | rw [show sm (T9 u f) i + 0 = sm (T9 u f) (i + 1) from by rw [sm_s, T9, if_neg g21]]
          refine v_ist2 hC dX11_withTarget_33 (by decide) (kk := ?_)
          refine v_inc3 hC dX11_withTarget_34 ((nI_succ i).symm) (by decide) (kk := ?_)
          refine v_goto hC dX11_withTarget_37 (tgt := 4) (by decide) ?_
          exact ih (i + 1) (by omega) (by omega)
        · refine v_if_eq hC dX11_withTarget_24 (tgt := 31) (by decide) (fun _ => ?_) (fun hx => absurd hx (by decide))
          refine v_iconst (v := 0) hC dX11_withTarget_31 (by decide) ?_
          refine v_iadd hC dX11_withTarget_32 ?_
          first
            | rw [show sm (T9 u f) i + 1 = sm (T9 u f) (i + 1) from by rw [sm_s, T9, if_pos g21]]
            | rw [show sm (T9 u f) i + 0 = sm (T9 u f) (i + 1) from by rw [sm_s, T9, if_neg g21]]
          refine v_ist2 hC dX11_withTarget_33 (by decide) (kk := ?_)
          refine v_inc3 hC dX11_withTarget_34 ((nI_succ i).symm) (by decide) (kk := ?_)
          refine v_goto hC dX11_withTarget_37 (tgt := 4) (by decide) ?_
          exact ih (i + 1) (by omega) (by omega)
  refine v_iconst (v := 0) hC dX11_withTarget_0 (by decide) ?_
  refine v_ist2 hC dX11_withTarget_1 (by decide) (kk := ?_)
  refine v_iconst (v := 0) hC dX11_withTarget_2 (by decide) ?_
  refine v_ist3 hC dX11_withTarget_3 (by decide) (kk := ?_)
  exact loop 13 0 (by omega) (by omega)

set_option maxHeartbeats 4000000 in
set_option maxRecDepth 100000 in
theorem c_X11_openDispute {l : Launch} {G : Gd} {M : Me} {h : Nat} {u : Si} {x : Int32} (hW : Wt M) (ht : m_t M h = 12) (hA : LA (rwM M h) u) : CQ (Qi G (fun r M2 => r = eN (opN u x) ∧ M2 = M)) l G yX11_openDispute cX11_openDispute 3 ((some .int)) 1 21 0 0 [.ref h, .int x] M := by
  refine c_of ([some (.ref h), some (.int x), none] : Lo) RX11 "openDispute" (by decide) rfl rfl (Nat.le_of_ble_eq_true rfl) rfl (fun p e s m below meth c hC nw => ?_)
  have u1 := hA.1.1
  have u2 := hA.1.2.1
  have u3 := hA.1.2.2.1
  have u4 := hA.1.2.2.2.1
  have hwz := wz_31 hW (wf_276 hW ht)
  have loop : ∀ (k i : Nat), i + k = 11 → i ≤ n_d u → (∀ j, j < i → ¬ opB u x j = true) → V p l e (rmk 1 21 0 0) s m ([.ref h, .int x] : List Value).toArray below meth c 3 G (MQ below (Qi G (fun r M2 => r = eN (opN u x) ∧ M2 = M)) ([.ref h, .int x] : List Value).toArray s 0 0 (fr_ G)) M 0 0 2 ([some (.ref h), some (.int x), some (.int (nI i))] : Lo) [] := by
    intro k
    induction k with
    | zero => intro i w1 w2; omega
    | succ k ih =>
      intro i w1 w2 hI
      refine v_iload_n hC dX11_openDispute_2 rfl rfl ?_
      refine v_i2l hC dX11_openDispute_3 ?_
      rw [nI_l (by omega)]
      refine v_aload_n hC dX11_openDispute_4 rfl rfl ?_
      refine gf_11_0 hC ht (wf_276 hW ht) mw_4_120 dX11_openDispute_5 ?_
      refine v_iconst (v := 3) hC dX11_openDispute_8 (by decide) ?_
      refine v_lald 31 hC (wf_276 hW ht) (by decide) (by decide) (ix_q (j := 3) hwz rfl) dX11_openDispute_9 ?_
      rw [show m_l M 31 (m_r M 276 h 0) (3) = _ from hA.c3]
      refine v_lcmp hC dX11_openDispute_10 ?_
      refine v_if_ge hC dX11_openDispute_11 (tgt := 57) (by decide) (fun h11 => ?_) (fun h11 => ?_)
      · have hi := lc_ge h11
        refine v_bipush (v := (-5)) hC dX11_openDispute_57 (by decide) ?_
        refine v_iret hC dX11_openDispute_59 ?_
        exact ⟨by rw [opN, fsN_o (fun j hj => hI j (by omega))]; rfl, rfl⟩
      · have hi := lc_lt h11
        refine v_aload_n hC dX11_openDispute_14 rfl rfl ?_
        refine gf_11_0 hC ht (wf_276 hW ht) mw_4_120 dX11_openDispute_15 ?_
        refine v_aload_n hC dX11_openDispute_18 rfl rfl ?_
        refine v_iload_n hC dX11_openDispute_19 rfl rfl ?_
        refine cVi1 hC (c_X11_disputeAt ht) yv_X11_disputeAt rfl ht mw_5_135 ⟨Nat.le_of_ble_eq_true rfl, Nat.le_of_ble_eq_true rfl⟩ ⟨Nat.le_of_ble_eq_true rfl, Nat.le_of_ble_eq_true rfl⟩ (Nat.le_of_ble_eq_true rfl) dX11_openDispute_20 (fun r20 M22 hq => ?_)
        obtain ⟨rfl, hm⟩ := hq
        have hm2 := hm.symm
        clear hm
        subst hm2
        refine v_iconst (v := 0) hC dX11_openDispute_23 (by decide) ?_
        refine v_iadd hC dX11_openDispute_24 ?_
        rw [show nI (116 + 5 * i) + 0 = nI (116 + 5 * i) from nI_add _ 0]
        refine v_lald 31 hC (wf_276 hW ht) (by decide) (by decide) (ix_c hwz (by omega)) dX11_openDispute_25 ?_
        rw [show m_l M 31 (m_r M 276 h 0) (116 + 5 * i) = _ from (hA.d5 hi).1]
        refine v_iload_n hC dX11_openDispute_26 rfl rfl ?_
        refine v_i2l hC dX11_openDispute_27 ?_
        refine v_lcmp hC dX11_openDispute_28 ?_
        refine v_if_ne hC dX11_openDispute_29 (tgt := 51) (by decide) (fun h29 => ?_) (fun h29 => ?_)
        · refine v_inc2 hC dX11_openDispute_51 ((nI_succ i).symm) (by decide) (kk := ?_)
          refine v_goto hC dX11_openDispute_54 (tgt := 2) (by decide) ?_
          exact ih (i + 1) (by omega) (by omega) (fun j hj => by
            by_cases q : j = i
            · rw [q]
              first
                | exact fun z => h29 ((lg_cmp_eq _ _).mpr (i64_i.mpr (of_decide_eq_true z).1))
                | exact fun z => h46 ((lg_cmp_eq _ _).mpr (if_pos (of_decide_eq_true z).2))
            · exact hI j (by omega))
        · refine v_aload_n hC dX11_openDispute_32 rfl rfl ?_
          refine gf_11_0 hC ht (wf_276 hW ht) mw_4_120 dX11_openDispute_33 ?_
          refine v_aload_n hC dX11_openDispute_36 rfl rfl ?_
          refine v_iload_n hC dX11_openDispute_37 rfl rfl ?_
          refine cVi1 hC (c_X11_disputeAt ht) yv_X11_disputeAt rfl ht mw_5_135 ⟨Nat.le_of_ble_eq_true rfl, Nat.le_of_ble_eq_true rfl⟩ ⟨Nat.le_of_ble_eq_true rfl, Nat.le_of_ble_eq_true rfl⟩ (Nat.le_of_ble_eq_true rfl) dX11_openDispute_38 (fun r38 M40 hq => ?_)
          obtain ⟨rfl, hm⟩ := hq
          have hm2 := hm.symm
          clear hm
          subst hm2
          refine v_iconst (v := 3) hC dX11_openDispute_41 (by decide) ?_
          refine v_iadd hC dX11_openDispute_42 ?_
          rw [show nI (116 + 5 * i) + 3 = nI (116 + 5 * i + 3) from nI_add _ 3]
          refine v_lald 31 hC (wf_276 hW ht) (by decide) (by decide) (ix_c hwz (by omega)) dX11_openDispute_43 ?_
          rw [show m_l M 31 (m_r M 276 h 0) (116 + 5 * i + 3) = _ from (hA.d5 hi).2.2.2.1]
          refine v_lconst (v := 0) hC dX11_openDispute_44 (by decide) ?_
          refine v_lcmp hC dX11_openDispute_45 ?_
          refine v_if_ne hC dX11_openDispute_46 (tgt := 51) (by decide) (fun h46 => ?_) (fun h46 => ?_)
          · refine v_inc2 hC dX11_openDispute_51 ((nI_succ i).symm) (by decide) (kk := ?_)
            refine v_goto hC dX11_openDispute_54 (tgt := 2) (by decide) ?_
            exact ih (i + 1) (by omega) (by omega) (fun j hj => by
              by_cases q : j = i
              · rw [q]
                first
                  | exact fun z => h29 ((lg_cmp_eq _ _).mpr (i64_i.mpr (of_decide_eq_true z).1))
                  | exact fun z => h46 ((lg_cmp_eq _ _).mpr (if_pos (of_decide_eq_true z).2))
              · exact hI j (by omega))
          · refine v_iload_n hC dX11_openDispute_49 rfl rfl ?_
            refine v_iret hC dX11_openDispute_50 ?_
            have zz : opB u x i = true := decide_eq_true ⟨i64_i.mp ((lg_cmp_eq _ _).mp h29), by
              have z := (lg_cmp_eq _ _).mp h46
              by_cases q : q_i u 16 i 0 = 0
              · exact q
              · rw [if_neg q] at z; exact absurd z (by decide)⟩
            exact ⟨by rw [opN, fsN_s hi zz hI]; rfl, rfl⟩
  refine v_iconst (v := 0) hC dX11_openDispute_0 (by decide) ?_
  refine v_ist2 hC dX11_openDispute_1 (by decide) (kk := ?_)
  exact loop 11 0 (by omega) (by omega) (fun j hj => absurd hj (Nat.not_lt_zero j))

set_option maxHeartbeats 4000000 in
set_option maxRecDepth 100000 in
theorem c_X11_isSettled {l : Launch} {G : Gd} {M : Me} {h e1 : Nat} {u : Si} (hW : Wt M) (ht : m_t M h = 12) (hA : LA (rwM M h) u) (hz : hzU u) (he : e1 < n_e u) : CQ (Qi G (fun r M2 => M2 = M ∧ (¬ q_i u 12 e1 0 = 0 ∧ r = 1 ∨ ¬ ¬ q_i u 12 e1 0 = 0 ∧ r = 0))) l G yX11_isSettled cX11_isSettled 2 ((some .boolean)) 1 21 0 0 [.ref h, .int (nI e1)] M := by
  refine c_of ([some (.ref h), some (.int (nI e1))] : Lo) RX11 "isSettled" (by decide) rfl rfl (Nat.le_of_ble_eq_true rfl) rfl (fun p e s m below meth c hC nw => ?_)
  have u1 := hA.1.1
  have u2 := hA.1.2.1
  have u3 := hA.1.2.2.1
  have u4 := hA.1.2.2.2.1
  have hwz := wz_31 hW (wf_276 hW ht)
  refine v_aload_n hC dX11_isSettled_0 rfl rfl ?_
  refine gf_11_0 hC ht (wf_276 hW ht) mw_4_120 dX11_isSettled_1 ?_
  refine v_aload_n hC dX11_isSettled_4 rfl rfl ?_
  refine v_iload_n hC dX11_isSettled_5 rfl rfl ?_
  refine cVi1 hC (c_X11_entryAt ht) yv_X11_entryAt rfl ht mw_5_35 ⟨Nat.le_of_ble_eq_true rfl, Nat.le_of_ble_eq_true rfl⟩ ⟨Nat.le_of_ble_eq_true rfl, Nat.le_of_ble_eq_true rfl⟩ (Nat.le_of_ble_eq_true rfl) dX11_isSettled_6 (fun r6 M8 hq => ?_)
  obtain ⟨rfl, hm⟩ := hq
  have hm2 := hm.symm
  clear hm
  subst hm2
  refine v_bipush (v := 10) hC dX11_isSettled_9 (by decide) ?_
  refine v_iadd hC dX11_isSettled_11 ?_
  rw [show nI (166 + 11 * e1) + 10 = nI (166 + 11 * e1 + 10) from nI_add _ 10]
  refine v_lald 31 hC (wf_276 hW ht) (by decide) (by decide) (ix_c hwz (by omega)) dX11_isSettled_12 ?_
  rw [show m_l M 31 (m_r M 276 h 0) (166 + 11 * e1 + 10) = _ from (hA.e2 he).2]
  refine v_lconst (v := 1) hC dX11_isSettled_13 (by decide) ?_
  refine v_lcmp hC dX11_isSettled_14 ?_
  refine v_if_ne hC dX11_isSettled_15 (tgt := 22) (by decide) (fun h15 => ?_) (fun h15 => ?_)
  · refine v_iconst (v := 0) hC dX11_isSettled_22 (by decide) ?_
    refine v_zret hC (Or.inl rfl) dX11_isSettled_23 ?_
    exact ⟨rfl, Or.inr ⟨fun q => h15 ((lg_cmp_eq _ _).mpr (by rw [(hz e1 he).resolve_left q]; rfl)), rfl⟩⟩
  · refine v_iconst (v := 1) hC dX11_isSettled_18 (by decide) ?_
    refine v_goto hC dX11_isSettled_19 (tgt := 23) (by decide) ?_
    refine v_zret hC (Or.inr rfl) dX11_isSettled_23 ?_
    exact ⟨rfl, Or.inl ⟨fun q => by have z := (lg_cmp_eq _ _).mp h15; rw [q] at z; exact absurd z (by decide), rfl⟩⟩

set_option maxHeartbeats 4000000 in
set_option maxRecDepth 100000 in
theorem c_X11_inWay {l : Launch} {G : Gd} {M : Me} {h f : Nat} {u : Si} {x : Int32} (hW : Wt M) (ht : m_t M h = 12) (hA : LA (rwM M h) u) (hf : f < n_f u) : CQ (Qi G (fun r M2 => r = y_f u x f ∧ M2 = M)) l G yX11_inWay cX11_inWay 5 ((some .int)) 2 42 0 0 [.ref h, .int (nI f), .int x] M := by
  refine c_of ([some (.ref h), some (.int (nI f)), some (.int x), none, none] : Lo) RX11 "inWay" (by decide) rfl rfl (Nat.le_of_ble_eq_true rfl) rfl (fun p e s m below meth c hC nw => ?_)
  have u1 := hA.1.1
  have u2 := hA.1.2.1
  have u3 := hA.1.2.2.1
  have u4 := hA.1.2.2.2.1
  have h12f := hA.1.2.2.2.2 f hf
  have hwz := wz_31 hW (wf_276 hW ht)
  have loop : ∀ (k i : Nat), i + k = 13 → i ≤ n_s u f → V p l e (rmk 2 42 0 0) s m ([.ref h, .int (nI f), .int x] : List Value).toArray below meth c 5 G (MQ below (Qi G (fun r M2 => r = y_f u x f ∧ M2 = M)) ([.ref h, .int (nI f), .int x] : List Value).toArray s 0 0 (fr_ G)) M 0 0 5 ([some (.ref h), some (.int (nI f)), some (.int x), some (.int (sm (fun i => if q_i u 10 f i = x then 1 else 0) i)), some (.int (nI i))] : Lo) [] := by
    intro k
    induction k with
    | zero => intro i w1 w2; omega
    | succ k ih =>
      intro i w1 w2
      refine v_iload hC dX11_inWay_5 rfl ?_
      refine v_aload_n hC dX11_inWay_7 rfl rfl ?_
      refine v_iload_n hC dX11_inWay_8 rfl rfl ?_
      refine cVi1 hC (c_X11_many hW ht hA hf) yv_X11_many rfl ht mw_5_15 ⟨Nat.le_of_ble_eq_true rfl, Nat.le_of_ble_eq_true rfl⟩ ⟨Nat.le_of_ble_eq_true rfl, Nat.le_of_ble_eq_true rfl⟩ (Nat.le_of_ble_eq_true rfl) dX11_inWay_9 (fun r9 M11 hq => ?_)
      obtain ⟨rfl, hm⟩ := hq
      have hm2 := hm.symm
      clear hm
      subst hm2
      refine v_icmp_ge hC dX11_inWay_12 (tgt := 50) (by decide) (fun h12 => ?_) (fun h12 => ?_)
      · have hi := lp_ge h12
        refine v_iload_n hC dX11_inWay_50 rfl rfl ?_
        refine v_iret hC dX11_inWay_51 ?_
        have hie : i = n_s u f := by omega
        subst hie
        exact ⟨rfl, rfl⟩
      · have hi := lp_lt h12
        refine v_iload_n hC dX11_inWay_15 rfl rfl ?_
        refine v_aload_n hC dX11_inWay_16 rfl rfl ?_
        refine gf_11_0 hC ht (wf_276 hW ht) mw_4_120 dX11_inWay_17 ?_
        refine v_aload_n hC dX11_inWay_20 rfl rfl ?_
        refine v_iload_n hC dX11_inWay_21 rfl rfl ?_
        refine v_iload hC dX11_inWay_22 rfl ?_
        refine cVi2 hC (c_X11_segmentAt ht) yv_X11_segmentAt rfl ht mw_5_19 ⟨Nat.le_of_ble_eq_true rfl, Nat.le_of_ble_eq_true rfl⟩ ⟨Nat.le_of_ble_eq_true rfl, Nat.le_of_ble_eq_true rfl⟩ (Nat.le_of_ble_eq_true rfl) dX11_inWay_24 (fun r24 M26 hq => ?_)
        obtain ⟨rfl, hm⟩ := hq
        have hm2 := hm.symm
        clear hm
        subst hm2
        refine v_bipush (v := 10) hC dX11_inWay_27 (by decide) ?_
        refine v_iadd hC dX11_inWay_29 ?_
        rw [show nI (606 + 11 * (12 * f + i)) + 10 = nI (606 + 11 * (12 * f + i) + 10) from nI_add _ 10]
        refine v_lald 31 hC (wf_276 hW ht) (by decide) (by decide) (ix_c hwz (by omega)) dX11_inWay_30 ?_
        rw [show m_l M 31 (m_r M 276 h 0) (606 + 11 * (12 * f + i) + 10) = _ from (hA.s2 hf hi).2]
        refine v_iload_n hC dX11_inWay_31 rfl rfl ?_
        refine v_i2l hC dX11_inWay_32 ?_
        refine v_lcmp hC dX11_inWay_33 ?_
        refine v_if_ne hC dX11_inWay_34 (tgt := 41) (by decide) (fun h34 => ?_) (fun h34 => ?_)
        · refine v_iconst (v := 0) hC dX11_inWay_41 (by decide) ?_
          refine v_iadd hC dX11_inWay_42 ?_
          first
            | rw [show sm (fun i => if q_i u 10 f i = x then (1 : Int32) else 0) i + 1 = sm (fun i => if q_i u 10 f i = x then 1 else 0) (i + 1) from by rw [sm_s, if_pos (i64_i.mp ((lg_cmp_eq _ _).mp h34))]]
            | rw [show sm (fun i => if q_i u 10 f i = x then (1 : Int32) else 0) i + 0 = sm (fun i => if q_i u 10 f i = x then 1 else 0) (i + 1) from by rw [sm_s, if_neg (fun q => h34 ((lg_cmp_eq _ _).mpr (i64_i.mpr q)))]]
          refine v_ist3 hC dX11_inWay_43 (by decide) (kk := ?_)
          refine v_inc4 hC dX11_inWay_44 ((nI_succ i).symm) (by decide) (kk := ?_)
          refine v_goto hC dX11_inWay_47 (tgt := 5) (by decide) ?_
          exact ih (i + 1) (by omega) (by omega)
        · refine v_iconst (v := 1) hC dX11_inWay_37 (by decide) ?_
          refine v_goto hC dX11_inWay_38 (tgt := 42) (by decide) ?_
          refine v_iadd hC dX11_inWay_42 ?_
          first
            | rw [show sm (fun i => if q_i u 10 f i = x then (1 : Int32) else 0) i + 1 = sm (fun i => if q_i u 10 f i = x then 1 else 0) (i + 1) from by rw [sm_s, if_pos (i64_i.mp ((lg_cmp_eq _ _).mp h34))]]
            | rw [show sm (fun i => if q_i u 10 f i = x then (1 : Int32) else 0) i + 0 = sm (fun i => if q_i u 10 f i = x then 1 else 0) (i + 1) from by rw [sm_s, if_neg (fun q => h34 ((lg_cmp_eq _ _).mpr (i64_i.mpr q)))]]
          refine v_ist3 hC dX11_inWay_43 (by decide) (kk := ?_)
          refine v_inc4 hC dX11_inWay_44 ((nI_succ i).symm) (by decide) (kk := ?_)
          refine v_goto hC dX11_inWay_47 (tgt := 5) (by decide) ?_
          exact ih (i + 1) (by omega) (by omega)
  refine v_iconst (v := 0) hC dX11_inWay_0 (by decide) ?_
  refine v_ist3 hC dX11_inWay_1 (by decide) (kk := ?_)
  refine v_iconst (v := 0) hC dX11_inWay_2 (by decide) ?_
  refine v_ist4 hC dX11_inWay_3 (by decide) (kk := ?_)
  exact loop 13 0 (by omega) (by omega)

theorem k_fx {u : Si} {f : Nat} {r : Int32} (h9 : q_i u 4 f 0 = 0 ∨ q_i u 4 f 0 = 1 ∨ q_i u 4 f 0 = 2 ∨ q_i u 4 f 0 = 3 ∨ q_i u 4 f 0 = 4) (h : (q_i u 4 f 0 = 3 ∧ ¬ q_i u 4 f 0 = 0 ∧ ¬ q_i u 4 f 0 = 4 ∧ r = q_i u 7 f 0 + 2 * w_f u f) ∨ (¬ q_i u 4 f 0 = 3 ∧ ¬ q_i u 4 f 0 = 0 ∧ ¬ q_i u 4 f 0 = 4 ∧ r = q_i u 7 f 0) ∨ (¬ q_i u 4 f 0 = 3 ∧ (q_i u 4 f 0 = 0 ∨ q_i u 4 f 0 = 4) ∧ r = 0)) : r = k_f u f := by
  unfold k_f
  rcases h with ⟨a, b, c, d⟩ | ⟨a, b, c, d⟩ | ⟨a, b, c⟩
  · rw [if_pos a]; exact d
  · rw [if_neg a, if_pos]
    · exact d
    · rcases h9 with z | z | z | z | z
      · exact absurd z b
      · exact Or.inl z
      · exact Or.inr z
      · exact absurd z a
      · exact absurd z c
  · rw [if_neg a, if_neg]
    · exact c
    · rcases b with z | z <;> rw [z] <;> decide
set_option maxHeartbeats 4000000 in
set_option maxRecDepth 100000 in
theorem c_X11_cost {l : Launch} {G : Gd} {M : Me} {h f : Nat} {u : Si} (hW : Wt M) (ht : m_t M h = 12) (hA : LA (rwM M h) u) (hS : WfS u) (hf : f < n_f u) : CQ (Qi G (fun r M2 => r = k_f u f ∧ M2 = M)) l G yX11_cost cX11_cost 3 ((some .int)) 3 65 0 0 [.ref h, .int (nI f)] M := by
  refine c_of ([some (.ref h), some (.int (nI f)), none] : Lo) RX11 "cost" (by decide) rfl rfl (Nat.le_of_ble_eq_true rfl) rfl (fun p e s m below meth c hC nw => ?_)
  have u1 := hA.1.1
  have u2 := hA.1.2.1
  have u3 := hA.1.2.2.1
  have u4 := hA.1.2.2.2.1
  have h12f := hA.1.2.2.2.2 f hf
  have hwz := wz_31 hW (wf_276 hW ht)
  obtain ⟨k9, hk9, ek9⟩ := hS f hf
  refine v_aload_n hC dX11_cost_0 rfl rfl ?_
  refine v_iload_n hC dX11_cost_1 rfl rfl ?_
  refine cVi1 hC (c_X11_state hW ht hA hf) yv_X11_state rfl ht mw_5_11 ⟨Nat.le_of_ble_eq_true rfl, Nat.le_of_ble_eq_true rfl⟩ ⟨Nat.le_of_ble_eq_true rfl, Nat.le_of_ble_eq_true rfl⟩ (Nat.le_of_ble_eq_true rfl) dX11_cost_2 (fun r2 M4 hq => ?_)
  obtain ⟨rfl, hm⟩ := hq
  have hm2 := hm.symm
  clear hm
  subst hm2
  refine v_if_eq hC dX11_cost_5 (tgt := 17) (by decide) (fun h5 => ?_) (fun h5 => ?_)
  · refine v_iconst (v := 0) hC dX11_cost_17 (by decide) ?_
    refine v_goto hC dX11_cost_18 (tgt := 32) (by decide) ?_
    refine v_ist2 hC dX11_cost_32 (by decide) (kk := ?_)
    refine v_aload_n hC dX11_cost_33 rfl rfl ?_
    refine v_iload_n hC dX11_cost_34 rfl rfl ?_
    refine cVi1 hC (c_X11_state hW ht hA hf) yv_X11_state rfl ht mw_5_11 ⟨Nat.le_of_ble_eq_true rfl, Nat.le_of_ble_eq_true rfl⟩ ⟨Nat.le_of_ble_eq_true rfl, Nat.le_of_ble_eq_true rfl⟩ (Nat.le_of_ble_eq_true rfl) dX11_cost_35 (fun r35 M37 hq => ?_)
    obtain ⟨rfl, hm⟩ := hq
    have hm2 := hm.symm
    clear hm
    subst hm2
    refine v_iconst (v := 3) hC dX11_cost_38 (by decide) ?_
    refine v_icmp_ne hC dX11_cost_39 (tgt := 54) (by decide) (fun h39 => ?_) (fun h39 => ?_)
    · refine v_iload_n hC dX11_cost_54 rfl rfl ?_
      refine v_iret hC dX11_cost_55 ?_
      exact ⟨k_fx (by rw [ek9]; rcases (show k9 = 0 ∨ k9 = 1 ∨ k9 = 2 ∨ k9 = 3 ∨ k9 = 4 by omega) with rfl | rfl | rfl | rfl | rfl <;> decide) (by first | exact Or.inl ⟨by assumption, h5, by assumption, rfl⟩ | exact Or.inr (Or.inl ⟨by assumption, h5, by assumption, rfl⟩) | exact Or.inr (Or.inr ⟨by assumption, (by first | exact Or.inl h5 | exact Or.inr h14), rfl⟩) | exact absurd (h5.symm.trans (by assumption : q_i u 4 f 0 = 3)) (by decide) | exact absurd ((by assumption : q_i u 4 f 0 = 4).symm.trans (by assumption : q_i u 4 f 0 = 3)) (by decide)), rfl⟩
    · refine v_iload_n hC dX11_cost_42 rfl rfl ?_
      refine v_iconst (v := 2) hC dX11_cost_43 (by decide) ?_
      refine v_aload_n hC dX11_cost_44 rfl rfl ?_
      refine v_iload_n hC dX11_cost_45 rfl rfl ?_
      refine cVi1 hC (c_X11_words hW ht hA hf) yv_X11_words rfl ht mw_5_173 ⟨Nat.le_of_ble_eq_true rfl, Nat.le_of_ble_eq_true rfl⟩ ⟨Nat.le_of_ble_eq_true rfl, Nat.le_of_ble_eq_true rfl⟩ (Nat.le_of_ble_eq_true rfl) dX11_cost_46 (fun r46 M48 hq => ?_)
      obtain ⟨rfl, hm⟩ := hq
      have hm2 := hm.symm
      clear hm
      subst hm2
      refine v_imul hC dX11_cost_49 ?_
      refine v_iadd hC dX11_cost_50 ?_
      refine v_goto hC dX11_cost_51 (tgt := 55) (by decide) ?_
      refine v_iret hC dX11_cost_55 ?_
      exact ⟨k_fx (by rw [ek9]; rcases (show k9 = 0 ∨ k9 = 1 ∨ k9 = 2 ∨ k9 = 3 ∨ k9 = 4 by omega) with rfl | rfl | rfl | rfl | rfl <;> decide) (by first | exact Or.inl ⟨by assumption, h5, by assumption, rfl⟩ | exact Or.inr (Or.inl ⟨by assumption, h5, by assumption, rfl⟩) | exact Or.inr (Or.inr ⟨by assumption, (by first | exact Or.inl h5 | exact Or.inr h14), rfl⟩) | exact absurd (h5.symm.trans (by assumption : q_i u 4 f 0 = 3)) (by decide) | exact absurd ((by assumption : q_i u 4 f 0 = 4).symm.trans (by assumption : q_i u 4 f 0 = 3)) (by decide)), rfl⟩
  · refine v_aload_n hC dX11_cost_8 rfl rfl ?_
    refine v_iload_n hC dX11_cost_9 rfl rfl ?_
    refine cVi1 hC (c_X11_state hW ht hA hf) yv_X11_state rfl ht mw_5_11 ⟨Nat.le_of_ble_eq_true rfl, Nat.le_of_ble_eq_true rfl⟩ ⟨Nat.le_of_ble_eq_true rfl, Nat.le_of_ble_eq_true rfl⟩ (Nat.le_of_ble_eq_true rfl) dX11_cost_10 (fun r10 M12 hq => ?_)
    obtain ⟨rfl, hm⟩ := hq
    have hm2 := hm.symm
    clear hm
    subst hm2
    refine v_iconst (v := 4) hC dX11_cost_13 (by decide) ?_
    refine v_icmp_ne hC dX11_cost_14 (tgt := 21) (by decide) (fun h14 => ?_) (fun h14 => ?_)
    · refine v_aload_n hC dX11_cost_21 rfl rfl ?_
      refine v_aload_n hC dX11_cost_22 rfl rfl ?_
      refine v_iload_n hC dX11_cost_23 rfl rfl ?_
      refine cVi1 hC (c_X11_fileBy ht) yv_X11_fileBy rfl ht mw_4_222 ⟨Nat.le_of_ble_eq_true rfl, Nat.le_of_ble_eq_true rfl⟩ ⟨Nat.le_of_ble_eq_true rfl, Nat.le_of_ble_eq_true rfl⟩ (Nat.le_of_ble_eq_true rfl) dX11_cost_24 (fun r24 M26 hq => ?_)
      obtain ⟨rfl, hm⟩ := hq
      have hm2 := hm.symm
      clear hm
      subst hm2
      refine v_iconst (v := 4) hC dX11_cost_27 (by decide) ?_
      refine v_iadd hC dX11_cost_28 ?_
      rw [show nI (18 + 7 * f) + 4 = nI (18 + 7 * f + 4) from nI_add _ 4]
      refine cVi1 hC (c_X11_number hW ht (by omega)) yv_X11_number rfl ht mw_4_165 ⟨Nat.le_of_ble_eq_true rfl, Nat.le_of_ble_eq_true rfl⟩ ⟨Nat.le_of_ble_eq_true rfl, Nat.le_of_ble_eq_true rfl⟩ (Nat.le_of_ble_eq_true rfl) dX11_cost_29 (fun r29 M31 hq => ?_)
      obtain ⟨rfl, hm⟩ := hq
      have hm2 := hm.symm
      clear hm
      subst hm2
      rw [show rwM M h (18 + 7 * f + 4) = _ from (hA.f4 hf).2.2.1, Int32.toInt32_toInt64]
      refine v_ist2 hC dX11_cost_32 (by decide) (kk := ?_)
      refine v_aload_n hC dX11_cost_33 rfl rfl ?_
      refine v_iload_n hC dX11_cost_34 rfl rfl ?_
      refine cVi1 hC (c_X11_state hW ht hA hf) yv_X11_state rfl ht mw_5_11 ⟨Nat.le_of_ble_eq_true rfl, Nat.le_of_ble_eq_true rfl⟩ ⟨Nat.le_of_ble_eq_true rfl, Nat.le_of_ble_eq_true rfl⟩ (Nat.le_of_ble_eq_true rfl) dX11_cost_35 (fun r35 M37 hq => ?_)
      obtain ⟨rfl, hm⟩ := hq
      have hm2 := hm.symm
      clear hm
      subst hm2
      refine v_iconst (v := 3) hC dX11_cost_38 (by decide) ?_
      refine v_icmp_ne hC dX11_cost_39 (tgt := 54) (by decide) (fun h39 => ?_) (fun h39 => ?_)
      · refine v_iload_n hC dX11_cost_54 rfl rfl ?_
        refine v_iret hC dX11_cost_55 ?_
        exact ⟨k_fx (by rw [ek9]; rcases (show k9 = 0 ∨ k9 = 1 ∨ k9 = 2 ∨ k9 = 3 ∨ k9 = 4 by omega) with rfl | rfl | rfl | rfl | rfl <;> decide) (by first | exact Or.inl ⟨by assumption, h5, by assumption, rfl⟩ | exact Or.inr (Or.inl ⟨by assumption, h5, by assumption, rfl⟩) | exact Or.inr (Or.inr ⟨by assumption, (by first | exact Or.inl h5 | exact Or.inr h14), rfl⟩) | exact absurd (h5.symm.trans (by assumption : q_i u 4 f 0 = 3)) (by decide) | exact absurd ((by assumption : q_i u 4 f 0 = 4).symm.trans (by assumption : q_i u 4 f 0 = 3)) (by decide)), rfl⟩
      · refine v_iload_n hC dX11_cost_42 rfl rfl ?_
        refine v_iconst (v := 2) hC dX11_cost_43 (by decide) ?_
        refine v_aload_n hC dX11_cost_44 rfl rfl ?_
        refine v_iload_n hC dX11_cost_45 rfl rfl ?_
        refine cVi1 hC (c_X11_words hW ht hA hf) yv_X11_words rfl ht mw_5_173 ⟨Nat.le_of_ble_eq_true rfl, Nat.le_of_ble_eq_true rfl⟩ ⟨Nat.le_of_ble_eq_true rfl, Nat.le_of_ble_eq_true rfl⟩ (Nat.le_of_ble_eq_true rfl) dX11_cost_46 (fun r46 M48 hq => ?_)
        obtain ⟨rfl, hm⟩ := hq
        have hm2 := hm.symm
        clear hm
        subst hm2
        refine v_imul hC dX11_cost_49 ?_
        refine v_iadd hC dX11_cost_50 ?_
        refine v_goto hC dX11_cost_51 (tgt := 55) (by decide) ?_
        refine v_iret hC dX11_cost_55 ?_
        exact ⟨k_fx (by rw [ek9]; rcases (show k9 = 0 ∨ k9 = 1 ∨ k9 = 2 ∨ k9 = 3 ∨ k9 = 4 by omega) with rfl | rfl | rfl | rfl | rfl <;> decide) (by first | exact Or.inl ⟨by assumption, h5, by assumption, rfl⟩ | exact Or.inr (Or.inl ⟨by assumption, h5, by assumption, rfl⟩) | exact Or.inr (Or.inr ⟨by assumption, (by first | exact Or.inl h5 | exact Or.inr h14), rfl⟩) | exact absurd (h5.symm.trans (by assumption : q_i u 4 f 0 = 3)) (by decide) | exact absurd ((by assumption : q_i u 4 f 0 = 4).symm.trans (by assumption : q_i u 4 f 0 = 3)) (by decide)), rfl⟩
    · refine v_iconst (v := 0) hC dX11_cost_17 (by decide) ?_
      refine v_goto hC dX11_cost_18 (tgt := 32) (by decide) ?_
      refine v_ist2 hC dX11_cost_32 (by decide) (kk := ?_)
      refine v_aload_n hC dX11_cost_33 rfl rfl ?_
      refine v_iload_n hC dX11_cost_34 rfl rfl ?_
      refine cVi1 hC (c_X11_state hW ht hA hf) yv_X11_state rfl ht mw_5_11 ⟨Nat.le_of_ble_eq_true rfl, Nat.le_of_ble_eq_true rfl⟩ ⟨Nat.le_of_ble_eq_true rfl, Nat.le_of_ble_eq_true rfl⟩ (Nat.le_of_ble_eq_true rfl) dX11_cost_35 (fun r35 M37 hq => ?_)
      obtain ⟨rfl, hm⟩ := hq
      have hm2 := hm.symm
      clear hm
      subst hm2
      refine v_iconst (v := 3) hC dX11_cost_38 (by decide) ?_
      refine v_icmp_ne hC dX11_cost_39 (tgt := 54) (by decide) (fun h39 => ?_) (fun h39 => ?_)
      · refine v_iload_n hC dX11_cost_54 rfl rfl ?_
        refine v_iret hC dX11_cost_55 ?_
        exact ⟨k_fx (by rw [ek9]; rcases (show k9 = 0 ∨ k9 = 1 ∨ k9 = 2 ∨ k9 = 3 ∨ k9 = 4 by omega) with rfl | rfl | rfl | rfl | rfl <;> decide) (by first | exact Or.inl ⟨by assumption, h5, by assumption, rfl⟩ | exact Or.inr (Or.inl ⟨by assumption, h5, by assumption, rfl⟩) | exact Or.inr (Or.inr ⟨by assumption, (by first | exact Or.inl h5 | exact Or.inr h14), rfl⟩) | exact absurd (h5.symm.trans (by assumption : q_i u 4 f 0 = 3)) (by decide) | exact absurd ((by assumption : q_i u 4 f 0 = 4).symm.trans (by assumption : q_i u 4 f 0 = 3)) (by decide)), rfl⟩
      · refine v_iload_n hC dX11_cost_42 rfl rfl ?_
        refine v_iconst (v := 2) hC dX11_cost_43 (by decide) ?_
        refine v_aload_n hC dX11_cost_44 rfl rfl ?_
        refine v_iload_n hC dX11_cost_45 rfl rfl ?_
        refine cVi1 hC (c_X11_words hW ht hA hf) yv_X11_words rfl ht mw_5_173 ⟨Nat.le_of_ble_eq_true rfl, Nat.le_of_ble_eq_true rfl⟩ ⟨Nat.le_of_ble_eq_true rfl, Nat.le_of_ble_eq_true rfl⟩ (Nat.le_of_ble_eq_true rfl) dX11_cost_46 (fun r46 M48 hq => ?_)
        obtain ⟨rfl, hm⟩ := hq
        have hm2 := hm.symm
        clear hm
        subst hm2
        refine v_imul hC dX11_cost_49 ?_
        refine v_iadd hC dX11_cost_50 ?_
        refine v_goto hC dX11_cost_51 (tgt := 55) (by decide) ?_
        refine v_iret hC dX11_cost_55 ?_
        exact ⟨k_fx (by rw [ek9]; rcases (show k9 = 0 ∨ k9 = 1 ∨ k9 = 2 ∨ k9 = 3 ∨ k9 = 4 by omega) with rfl | rfl | rfl | rfl | rfl <;> decide) (by first | exact Or.inl ⟨by assumption, h5, by assumption, rfl⟩ | exact Or.inr (Or.inl ⟨by assumption, h5, by assumption, rfl⟩) | exact Or.inr (Or.inr ⟨by assumption, (by first | exact Or.inl h5 | exact Or.inr h14), rfl⟩) | exact absurd (h5.symm.trans (by assumption : q_i u 4 f 0 = 3)) (by decide) | exact absurd ((by assumption : q_i u 4 f 0 = 4).symm.trans (by assumption : q_i u 4 f 0 = 3)) (by decide)), rfl⟩
