theorem mn_nI {a b : Nat} (ha : a < 2 ^ 31) (hb : b < 2 ^ 31) : (if nI b < nI a then nI b else nI a) = nI (min a b) := by
  by_cases q : b < a
  · rw [if_pos (nI_lt q ha), Nat.min_eq_right (by omega)]
  · rw [if_neg (fun w => q ((nI_ltI hb ha).mp w)), Nat.min_eq_left (by omega)]
theorem dn_ge {i : Nat} (h : ¬ nI i - 1 < 0) : ∃ j, i = j + 1 ∧ nI i - 1 = nI j := by
  cases i with
  | zero => exact absurd (show nI 0 - 1 < 0 by decide) h
  | succ j => exact ⟨j, rfl, by rw [nI_succ, Int32.add_sub_cancel]⟩
theorem dn_lt {i : Nat} (h : nI i - 1 < 0) (hi : i < 2 ^ 31) : i = 0 := by
  cases i with
  | zero => rfl
  | succ j =>
    rw [nI_succ, Int32.add_sub_cancel] at h
    exact (i_ab h (nI_le (a := 0) (Nat.zero_le j) (by omega))).elim
theorem dn_inc (t : Nat) : nI t + Int32.ofInt (-1) = nI t - 1 := by rw [Int32.sub_eq_add_neg]; rfl
set_option maxHeartbeats 4000000 in
set_option maxRecDepth 100000 in
theorem c_X9_lastAlike {l : Launch} {G : Gd} {M : Me} {h n e0 g0 : Nat} {g : Sg} {gs : Nat → Sg} (hW : Wt M) (ht : m_t M h = 10) (hS : FS M h n gs) (hg : SgR M g0 g) (he : e0 ≤ 12) : CQ (Qi G (fun r M2 => Lst (fun t => gs t = g) (min e0 n) r ∧ M2 = M)) l G yX9_lastAlike cX9_lastAlike 4 ((some .int)) 1 24 0 0 [.ref h, .ref g0, .int (nI e0)] M := by
  refine c_of ([some (.ref h), some (.ref g0), some (.int (nI e0)), none] : Lo) RX9 "lastAlike" (by decide) rfl rfl (Nat.le_of_ble_eq_true rfl) rfl (fun p e s m below meth c hC nw => ?_)
  obtain ⟨hb, hn, hS⟩ := hS
  have hm1 : min e0 n ≤ n := Nat.min_le_right _ _
  have loop : ∀ (k i : Nat), i < k → i ≤ min e0 n → (∀ j, i ≤ j → j < min e0 n → ¬ gs j = g) → V p l e (rmk 1 24 0 0) s m ([.ref h, .ref g0, .int (nI e0)] : List Value).toArray below meth c 4 G (MQ below (Qi G (fun r M2 => Lst (fun t => gs t = g) (min e0 n) r ∧ M2 = M)) ([.ref h, .ref g0, .int (nI e0)] : List Value).toArray s 0 0 (fr_ G)) M 0 0 11 ([some (.ref h), some (.ref g0), some (.int (nI e0)), some (.int (nI i - 1))] : Lo) [] := by
    intro k
    induction k with
    | zero => intro i e1 e2; omega
    | succ k ih =>
      intro i e1 e2 hI
      refine v_iload_n hC dX9_lastAlike_11 rfl rfl ?_
      refine v_if_lt hC dX9_lastAlike_12 (tgt := 36) (by decide) (fun h12 => ?_) (fun h12 => ?_)
      · have hz := dn_lt h12 (by omega)
        subst hz
        refine v_bipush (v := (-5)) hC dX9_lastAlike_36 (by decide) ?_
        refine v_iret hC dX9_lastAlike_38 ?_
        exact ⟨Or.inr ⟨fun j hj => hI j (Nat.zero_le j) hj, rfl⟩, rfl⟩
      · obtain ⟨t, rfl, et⟩ := dn_ge h12
        rw [et]
        have hi : t < n := by omega
        refine v_aload_n hC dX9_lastAlike_15 rfl rfl ?_
        refine gf_9_6 hC ht (wf_250 hW ht) mw_1_148 dX9_lastAlike_16 ?_
        refine v_iload_n hC dX9_lastAlike_19 rfl rfl ?_
        refine v_aald 52 _ hC (wf_250 hW ht) (by decide) rfl (ix_c (wz_52 hW (wf_250 hW ht)) (by omega)) (hS t hi).1 dX9_lastAlike_20 ?_
        refine v_aload_n hC dX9_lastAlike_21 rfl rfl ?_
        refine cVi1 hC (c_X6_isAlike hW (hS t hi) hg) yv_X6_isAlike rfl (hS t hi).1 mw_3_62 ⟨Nat.le_of_ble_eq_true rfl, Nat.le_of_ble_eq_true rfl⟩ ⟨Nat.le_of_ble_eq_true rfl, Nat.le_of_ble_eq_true rfl⟩ (Nat.le_of_ble_eq_true rfl) dX9_lastAlike_22 (fun r22 M24 hq => ?_)
        obtain ⟨hm, hq2⟩ := hq
        have hm2 := hm.symm
        clear hm
        subst hm2
        obtain ⟨g22, rfl⟩ | ⟨g22, rfl⟩ := hq2
        · refine v_if_eq hC dX9_lastAlike_25 (tgt := 30) (by decide) (fun hx => absurd hx (by decide)) (fun _ => ?_)
          refine v_iload_n hC dX9_lastAlike_28 rfl rfl ?_
          refine v_iret hC dX9_lastAlike_29 ?_
          exact ⟨Or.inl ⟨t, by omega, g22, fun j q1 q2 => hI j (by omega) q1, rfl⟩, rfl⟩
        · refine v_if_eq hC dX9_lastAlike_25 (tgt := 30) (by decide) (fun _ => ?_) (fun hx => absurd hx (by decide))
          refine v_inc3 hC dX9_lastAlike_30 (dn_inc t) (by decide) (kk := ?_)
          refine v_goto hC dX9_lastAlike_33 (tgt := 11) (by decide) ?_
          exact ih t (by omega) (by omega) (fun j q1 q2 => by
            by_cases q : j = t
            · subst q; exact g22
            · exact hI j (by omega) q2)
  refine v_iload_n hC dX9_lastAlike_0 rfl rfl ?_
  refine v_aload_n hC dX9_lastAlike_1 rfl rfl ?_
  refine gf_9_5 hC ht mw_1_144 dX9_lastAlike_2 ?_
  rw [hn]
  refine v_mmin hC mw_3_59 (Nat.le_of_ble_eq_true rfl) (Nat.le_of_ble_eq_true rfl) ⟨Nat.le_of_ble_eq_true rfl, Nat.le_of_ble_eq_true rfl⟩ dX9_lastAlike_5 ?_
  rw [mn_nI (by omega) (by omega)]
  refine v_iconst (v := 1) hC dX9_lastAlike_8 (by decide) ?_
  refine v_isub hC dX9_lastAlike_9 ?_
  refine v_ist3 hC dX9_lastAlike_10 (by decide) (kk := ?_)
  exact loop 13 (min e0 n) (by omega) (Nat.le_refl _) (fun j q1 q2 => absurd q1 (by omega))
