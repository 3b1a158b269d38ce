/-- who translated and reviewed a delivered file is known -/
def WfK (u : Si) : Prop := ∀ f, f < n_f u → q_i u 4 f 0 = 3 → (∃ a, a < n_p u ∧ q_i u 5 f 0 = nI a) ∧ ∃ b, b < n_p u ∧ q_i u 6 f 0 = nI b
theorem i_ac4 (a b c d : Int32) : (a + b) + (c + d) = (a + c) + (b + d) := by
  rw [Int32.add_assoc, ← Int32.add_assoc b, Int32.add_comm b, Int32.add_assoc c, ← Int32.add_assoc]
theorem sm_add (f g : Nat → Int32) (n : Nat) : sm (fun i => f i + g i) n = sm f n + sm g n := by
  induction n with
  | zero => rfl
  | succ n ih => rw [sm_s, sm_s, sm_s, ih, i_ac4]
theorem sm_mul (c : Int32) (f : Nat → Int32) (n : Nat) : sm (fun i => c * f i) n = c * sm f n := by
  induction n with
  | zero => exact (Int32.mul_zero).symm
  | succ n ih => rw [sm_s, sm_s, ih, Int32.mul_add]
theorem sm_zero (n : Nat) : sm (fun _ => 0) n = 0 := by
  induction n with
  | zero => rfl
  | succ n ih => rw [sm_s, ih]; rfl
theorem sm_swap (g : Nat → Nat → Int32) (n k : Nat) : sm (fun i => sm (g i) k) n = sm (fun j => sm (fun i => g i j) n) k := by
  induction n with
  | zero => exact (sm_zero k).symm
  | succ n ih => rw [sm_s, ih, ← sm_add]; rfl
theorem sm_one {n k : Nat} (hk : k < n) (hn : n < 2 ^ 31) (c : Int32) : sm (fun i => if nI k = nI i then c else 0) n = c := by
  have h : ∀ m, m ≤ n → sm (fun i => if nI k = nI i then c else 0) m = if k < m then c else 0 := by
    intro m
    induction m with
    | zero => intro _; exact (if_neg (Nat.not_lt_zero k)).symm
    | succ m ih =>
      intro hm
      rw [sm_s, ih (by omega)]
      by_cases q : k = m
      · rw [q, if_neg (Nat.lt_irrefl m), if_pos rfl, if_pos (Nat.lt_succ_self m), Int32.zero_add]
      · rw [if_neg (fun z => q ((nI_eq (by omega) (by omega)).mp z)), Int32.add_zero]
        by_cases q2 : k < m
        · rw [if_pos q2, if_pos (by omega)]
        · rw [if_neg q2, if_neg (by omega)]
  rw [h n (Nat.le_refl n), if_pos hk]
theorem paid_all {u : Si} (w : WfK u) (hn : n_p u < 2 ^ 31) : sm (paid u) (n_p u) = sm (T_pd u) (n_f u) := by
  have e1 : sm (paid u) (n_p u) = sm (fun p => 2 * sm (T_wr u (nI p)) (n_f u) + sm (T_pt u (nI p)) (n_f u)) (n_p u) := rfl
  rw [e1, sm_add (fun p => 2 * sm (T_wr u (nI p)) (n_f u)) (fun p => sm (T_pt u (nI p)) (n_f u)), sm_mul 2 (fun p => sm (T_wr u (nI p)) (n_f u)), sm_swap (fun p => T_wr u (nI p)), sm_swap (fun p => T_pt u (nI p)), ← sm_mul, ← sm_add]
  refine sm_congr fun f hf => ?_
  show 2 * sm (fun p => T_wr u (nI p) f) (n_p u) + sm (fun p => T_pt u (nI p) f) (n_p u) = T_pd u f
  by_cases h3 : q_i u 4 f 0 = 3
  · obtain ⟨⟨a, ha, ea⟩, b, hb, eb⟩ := w f hf h3
    have z1 : sm (fun p => T_wr u (nI p) f) (n_p u) = w_f u f := by
      rw [← sm_one hb hn (w_f u f)]
      refine sm_congr fun p _ => ?_
      unfold T_wr
      rw [eb]
      by_cases q : nI b = nI p
      · rw [if_pos ⟨h3, q⟩, if_pos q]
      · rw [if_neg (fun z => q z.2), if_neg q]
    have z2 : sm (fun p => T_pt u (nI p) f) (n_p u) = q_i u 7 f 0 := by
      rw [← sm_one ha hn (q_i u 7 f 0)]
      refine sm_congr fun p _ => ?_
      unfold T_pt
      rw [ea]
      by_cases q : nI a = nI p
      · rw [if_pos ⟨h3, q⟩, if_pos q]
      · rw [if_neg (fun z => q z.2), if_neg q]
    rw [z1, z2, T_pd, if_pos h3, k_f, if_pos h3, Int32.add_comm]
  · have z1 : sm (fun p => T_wr u (nI p) f) (n_p u) = 0 := by
      rw [← sm_zero (n_p u)]
      exact sm_congr fun p _ => if_neg (fun z => h3 z.1)
    have z2 : sm (fun p => T_pt u (nI p) f) (n_p u) = 0 := by
      rw [← sm_zero (n_p u)]
      exact sm_congr fun p _ => if_neg (fun z => h3 z.1)
    rw [z1, z2, T_pd, if_neg h3]; rfl
theorem lc_i {x y : Int32} : lg_cmp x.toInt64 y.toInt64 = 0 ↔ x = y := (lg_cmp_eq _ _).trans i64_i
set_option maxHeartbeats 4000000 in
set_option maxRecDepth 100000 in
theorem c_X11_mayReview {l : Launch} {G : Gd} {M : Me} {h f p1 q1 : Nat} {u : Si} (hW : Wt M) (ht : m_t M h = 12) (hA : LA (rwM M h) u) (hB : WfB u) (hf : f < n_f u) (h4 : ¬ q_i u 4 f 0 = 4) (h5 : q_i u 5 f 0 = nI p1) (hp : p1 < n_p u) (hq : q1 < 6) : CQ (Qi G (fun r M2 => M2 = M ∧ ((¬ nI q1 = nI p1 ∧ ¬ brd (q_i u 2 p1 0) (nI q1) ∧ ¬ q_i u 3 p1 0 = nI q1) ∧ r = 1 ∨ ¬ (¬ nI q1 = nI p1 ∧ ¬ brd (q_i u 2 p1 0) (nI q1) ∧ ¬ q_i u 3 p1 0 = nI q1) ∧ r = 0))) l G yX11_mayReview cX11_mayReview 4 ((some .boolean)) 2 43 0 0 [.ref h, .int (nI f), .int (nI q1)] M := by
  refine c_of ([some (.ref h), some (.int (nI f)), some (.int (nI q1)), none] : Lo) RX11 "mayReview" (by decide) rfl rfl (Nat.le_of_ble_eq_true rfl) rfl (fun p e s m below meth c hC nw => ?_)
  have u1 := hA.1.1
  have u2 := hA.1.2.1
  have u3 := hA.1.2.2.1
  have u4 := hA.1.2.2.2.1
  have hwz := wz_31 hW (wf_276 hW ht)
  refine v_aload_n hC dX11_mayReview_0 rfl rfl ?_
  refine v_aload_n hC dX11_mayReview_1 rfl rfl ?_
  refine v_iload_n hC dX11_mayReview_2 rfl rfl ?_
  refine cVi1 hC (c_X11_fileBy ht) yv_X11_fileBy rfl ht mw_4_222 ⟨Nat.le_of_ble_eq_true rfl, Nat.le_of_ble_eq_true rfl⟩ ⟨Nat.le_of_ble_eq_true rfl, Nat.le_of_ble_eq_true rfl⟩ (Nat.le_of_ble_eq_true rfl) dX11_mayReview_3 (fun r3 M5 hq => ?_)
  obtain ⟨rfl, hm⟩ := hq
  have hm2 := hm.symm
  clear hm
  subst hm2
  refine v_iconst (v := 2) hC dX11_mayReview_6 (by decide) ?_
  refine v_iadd hC dX11_mayReview_7 ?_
  rw [show nI (18 + 7 * f) + 2 = nI (18 + 7 * f + 2) from nI_add _ 2]
  refine cVi1 hC (c_X11_number hW ht (by omega)) yv_X11_number rfl ht mw_4_165 ⟨Nat.le_of_ble_eq_true rfl, Nat.le_of_ble_eq_true rfl⟩ ⟨Nat.le_of_ble_eq_true rfl, Nat.le_of_ble_eq_true rfl⟩ (Nat.le_of_ble_eq_true rfl) dX11_mayReview_8 (fun r8 M10 hq => ?_)
  obtain ⟨rfl, hm⟩ := hq
  have hm2 := hm.symm
  clear hm
  subst hm2
  rw [show rwM M h (18 + 7 * f + 2) = _ from ((hA.f4 hf).2.1 h4).1, Int32.toInt32_toInt64, h5]
  refine v_ist3 hC dX11_mayReview_11 (by decide) (kk := ?_)
  refine v_iload_n hC dX11_mayReview_12 rfl rfl ?_
  refine v_iload_n hC dX11_mayReview_13 rfl rfl ?_
  refine v_icmp_eq hC dX11_mayReview_14 (tgt := 48) (by decide) (fun h14 => ?_) (fun h14 => ?_)
  · refine v_iconst (v := 0) hC dX11_mayReview_48 (by decide) ?_
    refine v_zret hC (Or.inl rfl) dX11_mayReview_49 ?_
    exact ⟨rfl, Or.inr ⟨fun q => by first | exact q.1 h14.symm | exact q.2.1 g20 | exact q.2.2 (lc_i.mp h41), rfl⟩⟩
  · refine v_aload_n hC dX11_mayReview_17 rfl rfl ?_
    refine v_iload_n hC dX11_mayReview_18 rfl rfl ?_
    refine v_iload_n hC dX11_mayReview_19 rfl rfl ?_
    refine cVi2 hC (c_X11_areBarred hW ht hA hB hp hq) yv_X11_areBarred rfl ht mw_4_198 ⟨Nat.le_of_ble_eq_true rfl, Nat.le_of_ble_eq_true rfl⟩ ⟨Nat.le_of_ble_eq_true rfl, Nat.le_of_ble_eq_true rfl⟩ (Nat.le_of_ble_eq_true rfl) dX11_mayReview_20 (fun r20 M22 hq => ?_)
    obtain ⟨hm, hq2⟩ := hq
    have hm2 := hm.symm
    clear hm
    subst hm2
    obtain ⟨g20, rfl⟩ | ⟨g20, rfl⟩ := hq2
    · refine v_if_ne hC dX11_mayReview_23 (tgt := 48) (by decide) (fun _ => ?_) (fun hx => absurd hx (by decide))
      refine v_iconst (v := 0) hC dX11_mayReview_48 (by decide) ?_
      refine v_zret hC (Or.inl rfl) dX11_mayReview_49 ?_
      exact ⟨rfl, Or.inr ⟨fun q => by first | exact q.1 h14.symm | exact q.2.1 g20 | exact q.2.2 (lc_i.mp h41), rfl⟩⟩
    · refine v_if_ne hC dX11_mayReview_23 (tgt := 48) (by decide) (fun hx => absurd hx (by decide)) (fun _ => ?_)
      refine v_aload_n hC dX11_mayReview_26 rfl rfl ?_
      refine gf_11_0 hC ht (wf_276 hW ht) mw_4_120 dX11_mayReview_27 ?_
      refine v_aload_n hC dX11_mayReview_30 rfl rfl ?_
      refine v_iload_n hC dX11_mayReview_31 rfl rfl ?_
      refine cVi1 hC (c_X11_personBy ht) yv_X11_personBy rfl ht mw_4_185 ⟨Nat.le_of_ble_eq_true rfl, Nat.le_of_ble_eq_true rfl⟩ ⟨Nat.le_of_ble_eq_true rfl, Nat.le_of_ble_eq_true rfl⟩ (Nat.le_of_ble_eq_true rfl) dX11_mayReview_32 (fun r32 M34 hq => ?_)
      obtain ⟨rfl, hm⟩ := hq
      have hm2 := hm.symm
      clear hm
      subst hm2
      refine v_iconst (v := 2) hC dX11_mayReview_35 (by decide) ?_
      refine v_iadd hC dX11_mayReview_36 ?_
      rw [show nI (74 + 7 * p1) + 2 = nI (74 + 7 * p1 + 2) from nI_add _ 2]
      refine v_lald 31 hC (wf_276 hW ht) (by decide) (by decide) (ix_c hwz (by omega)) dX11_mayReview_37 ?_
      rw [show m_l M 31 (m_r M 276 h 0) (74 + 7 * p1 + 2) = _ from (hA.p3 hp).2.2]
      refine v_iload_n hC dX11_mayReview_38 rfl rfl ?_
      refine v_i2l hC dX11_mayReview_39 ?_
      refine v_lcmp hC dX11_mayReview_40 ?_
      refine v_if_eq hC dX11_mayReview_41 (tgt := 48) (by decide) (fun h41 => ?_) (fun h41 => ?_)
      · refine v_iconst (v := 0) hC dX11_mayReview_48 (by decide) ?_
        refine v_zret hC (Or.inl rfl) dX11_mayReview_49 ?_
        exact ⟨rfl, Or.inr ⟨fun q => by first | exact q.1 h14.symm | exact q.2.1 g20 | exact q.2.2 (lc_i.mp h41), rfl⟩⟩
      · refine v_iconst (v := 1) hC dX11_mayReview_44 (by decide) ?_
        refine v_goto hC dX11_mayReview_45 (tgt := 49) (by decide) ?_
        refine v_zret hC (Or.inr rfl) dX11_mayReview_49 ?_
        exact ⟨rfl, Or.inl ⟨⟨fun q => h14 q.symm, g20, fun q => h41 (lc_i.mpr q)⟩, rfl⟩⟩

theorem rdB_iff {u : Si} {f : Nat} : rdB u f = true ↔ ∀ t, t < n_s u f → ¬ q_i u 9 f t = 0 ∧ ¬ dsB u (q_g u 0 f t) = true := by
  unfold rdB
  rcases fsN_p (p := fun t => decide (q_i u 9 f t = 0) || dsB u (q_g u 0 f t)) (n_s u f) with ⟨w, h1, h2, h3, h4⟩ | ⟨h1, h2⟩
  · rw [h1]
    refine ⟨fun q => Bool.noConfusion q, fun h => ?_⟩
    rcases Bool.or_eq_true_iff.mp h3 with z | z
    · exact absurd (of_decide_eq_true z) (h w h2).1
    · exact absurd z (h w h2).2
  · rw [h1]
    exact ⟨fun _ t ht => ⟨fun z => h2 t ht (Bool.or_eq_true_iff.mpr (Or.inl (decide_eq_true z))), fun z => h2 t ht (Bool.or_eq_true_iff.mpr (Or.inr z))⟩, fun _ => rfl⟩
set_option maxHeartbeats 4000000 in
set_option maxRecDepth 100000 in
theorem c_X11_isReady {l : Launch} {G : Gd} {M : Me} {h f : Nat} {u : Si} (hW : Wt M) (ht : m_t M h = 12) (hA : LA (rwM M h) u) (hT : WfT u) (hf : f < n_f u) : CQ (Qi G (fun r M2 => M2 = M ∧ (rdB u f = true ∧ r = 1 ∨ ¬ rdB u f = true ∧ r = 0))) l G yX11_isReady cX11_isReady 6 ((some .boolean)) 2 46 0 0 [.ref h, .int (nI f)] M := by
  refine c_of ([some (.ref h), some (.int (nI f)), none, none, none, none] : Lo) RX11 "isReady" (by decide) rfl rfl (Nat.le_of_ble_eq_true rfl) rfl (fun p e s m below meth c hC nw => ?_)
  have u1 := hA.1.1
  have u2 := hA.1.2.1
  have u3 := hA.1.2.2.1
  have u4 := hA.1.2.2.2.1
  have h12f := hA.1.2.2.2.2 f hf
  have hwz := wz_31 hW (wf_276 hW ht)
  have loop : ∀ (k i : Nat) (x : Int32), i + k = 13 → i ≤ n_s u f → ((∀ t, t < i → ¬ q_i u 9 f t = 0 ∧ ¬ dsB u (q_g u 0 f t) = true) ∧ x = 1 ∨ ¬ (∀ t, t < i → ¬ q_i u 9 f t = 0 ∧ ¬ dsB u (q_g u 0 f t) = true) ∧ x = 0) → V p l e (rmk 2 46 0 0) s m ([.ref h, .int (nI f)] : List Value).toArray below meth c 6 G (MQ below (Qi G (fun r M2 => M2 = M ∧ (rdB u f = true ∧ r = 1 ∨ ¬ rdB u f = true ∧ r = 0))) ([.ref h, .int (nI f)] : List Value).toArray s 0 0 (fr_ G)) M 0 0 4 ([some (.ref h), some (.int (nI f)), some (.int x), some (.int (nI i)), none, none] : Lo) [] := by
    intro k
    induction k with
    | zero => intro i x w1 w2; omega
    | succ k ih =>
      intro i x w1 w2 hP
      refine v_iload_n hC dX11_isReady_4 rfl rfl ?_
      refine v_aload_n hC dX11_isReady_5 rfl rfl ?_
      refine v_iload_n hC dX11_isReady_6 rfl rfl ?_
      refine cVi1 hC (c_X11_many hW ht hA hf) yv_X11_many rfl ht mw_5_15 ⟨Nat.le_of_ble_eq_true rfl, Nat.le_of_ble_eq_true rfl⟩ ⟨Nat.le_of_ble_eq_true rfl, Nat.le_of_ble_eq_true rfl⟩ (Nat.le_of_ble_eq_true rfl) dX11_isReady_7 (fun r7 M9 hq => ?_)
      obtain ⟨rfl, hm⟩ := hq
      have hm2 := hm.symm
      clear hm
      subst hm2
      refine v_icmp_ge hC dX11_isReady_10 (tgt := 68) (by decide) (fun h10 => ?_) (fun h10 => ?_)
      · have hi := lp_ge h10
        refine v_iload_n hC dX11_isReady_68 rfl rfl ?_
        refine v_zret hC (hP.elim (fun q => Or.inr q.2) (fun q => Or.inl q.2)) dX11_isReady_69 ?_
        have hie : i = n_s u f := by omega
        subst hie
        have hD := rdB_iff (u := u) (f := f)
        exact ⟨rfl, hP.elim (fun q => Or.inl ⟨hD.mpr q.1, q.2⟩) (fun q => Or.inr ⟨fun z => q.1 (hD.mp z), q.2⟩)⟩
      · have hi := lp_lt h10
        refine v_aload_n hC dX11_isReady_13 rfl rfl ?_
        refine v_iload_n hC dX11_isReady_14 rfl rfl ?_
        refine v_iload_n hC dX11_isReady_15 rfl rfl ?_
        refine cVi2 hC (c_X11_segmentAt ht) yv_X11_segmentAt rfl ht mw_5_19 ⟨Nat.le_of_ble_eq_true rfl, Nat.le_of_ble_eq_true rfl⟩ ⟨Nat.le_of_ble_eq_true rfl, Nat.le_of_ble_eq_true rfl⟩ (Nat.le_of_ble_eq_true rfl) dX11_isReady_16 (fun r16 M18 hq => ?_)
        obtain ⟨rfl, hm⟩ := hq
        have hm2 := hm.symm
        clear hm
        subst hm2
        refine v_ist4 hC dX11_isReady_19 (by decide) (kk := ?_)
        refine v_aload_n hC dX11_isReady_21 rfl rfl ?_
        refine v_iload hC dX11_isReady_22 rfl ?_
        refine cVi1 hC (c_X11_entryLike hW ht hA (hA.sg hf hi) (by omega)) yv_X11_entryLike rfl ht mw_5_111 ⟨Nat.le_of_ble_eq_true rfl, Nat.le_of_ble_eq_true rfl⟩ ⟨Nat.le_of_ble_eq_true rfl, Nat.le_of_ble_eq_true rfl⟩ (Nat.le_of_ble_eq_true rfl) dX11_isReady_24 (fun r24 M26 hq => ?_)
        obtain ⟨rfl, hm⟩ := hq
        have hm2 := hm.symm
        clear hm
        subst hm2
        refine v_ist5 hC dX11_isReady_27 (by decide) (kk := ?_)
        refine v_iload_n hC dX11_isReady_29 rfl rfl ?_
        refine v_if_eq hC dX11_isReady_30 (tgt := 60) (by decide) (fun h30 => ?_) (fun h30 => ?_)
        · have hQ : ¬ (∀ t, t < i → ¬ q_i u 9 f t = 0 ∧ ¬ dsB u (q_g u 0 f t) = true) := by
            rcases hP with ⟨q, e⟩ | ⟨q, e⟩
            · rw [h30] at e; exact absurd e (by decide)
            · exact q
          refine v_iconst (v := 0) hC dX11_isReady_60 (by decide) ?_
          refine v_ist2 hC dX11_isReady_61 (by decide) (kk := ?_)
          refine v_inc3 hC dX11_isReady_62 ((nI_succ i).symm) (by decide) (kk := ?_)
          refine v_goto hC dX11_isReady_65 (tgt := 4) (by decide) ?_
          refine v_drop 4 ?_
          refine v_drop 5 ?_
          first
            | exact ih (i + 1) 1 (by omega) (by omega) (Or.inl ⟨fun t ht2 => by
                by_cases q : t = i
                · rw [q]; exact hN
                · exact hQ t (by omega), rfl⟩)
            | exact ih (i + 1) 0 (by omega) (by omega) (Or.inr ⟨fun q => hN (q i (by omega)), rfl⟩)
            | exact ih (i + 1) 0 (by omega) (by omega) (Or.inr ⟨fun q => g36 (q i (by omega)).1, rfl⟩)
            | exact ih (i + 1) 0 (by omega) (by omega) (Or.inr ⟨fun q => hQ fun t ht2 => q t (by omega), rfl⟩)
        · have hQ : (∀ t, t < i → ¬ q_i u 9 f t = 0 ∧ ¬ dsB u (q_g u 0 f t) = true) := by
            rcases hP with ⟨q, e⟩ | ⟨q, e⟩
            · exact q
            · exact absurd e h30
          refine v_aload_n hC dX11_isReady_33 rfl rfl ?_
          refine v_iload hC dX11_isReady_34 rfl ?_
          refine cVi1 hC (c_X11_hasTarget hW ht hA hT hf hi) yv_X11_hasTarget rfl ht mw_5_68 ⟨Nat.le_of_ble_eq_true rfl, Nat.le_of_ble_eq_true rfl⟩ ⟨Nat.le_of_ble_eq_true rfl, Nat.le_of_ble_eq_true rfl⟩ (Nat.le_of_ble_eq_true rfl) dX11_isReady_36 (fun r36 M38 hq => ?_)
          obtain ⟨hm, hq2⟩ := hq
          have hm2 := hm.symm
          clear hm
          subst hm2
          obtain ⟨g36, rfl⟩ | ⟨g36, rfl⟩ := hq2
          · refine v_if_eq hC dX11_isReady_39 (tgt := 60) (by decide) (fun hx => absurd hx (by decide)) (fun _ => ?_)
            refine v_iload hC dX11_isReady_42 rfl ?_
            refine v_if_lt hC dX11_isReady_44 (tgt := 56) (by decide) (fun h44 => ?_) (fun h44 => ?_)
            · have hN : ¬ q_i u 9 f i = 0 ∧ ¬ dsB u (q_g u 0 f i) = true := ⟨g36, by
                unfold dsB
                cases w : alN u (q_g u 0 f i) with
                | none => exact Bool.noConfusion
                | some w9 => rw [w] at h44; exact absurd h44 (fun z => i_ab z (nI_le (a := 0) (Nat.zero_le w9) (by have := alN_i w; omega)))⟩
              refine v_iconst (v := 1) hC dX11_isReady_56 (by decide) ?_
              refine v_goto hC dX11_isReady_57 (tgt := 61) (by decide) ?_
              refine v_ist2 hC dX11_isReady_61 (by decide) (kk := ?_)
              refine v_inc3 hC dX11_isReady_62 ((nI_succ i).symm) (by decide) (kk := ?_)
              refine v_goto hC dX11_isReady_65 (tgt := 4) (by decide) ?_
              refine v_drop 4 ?_
              refine v_drop 5 ?_
              first
                | exact ih (i + 1) 1 (by omega) (by omega) (Or.inl ⟨fun t ht2 => by
                    by_cases q : t = i
                    · rw [q]; exact hN
                    · exact hQ t (by omega), rfl⟩)
                | exact ih (i + 1) 0 (by omega) (by omega) (Or.inr ⟨fun q => hN (q i (by omega)), rfl⟩)
                | exact ih (i + 1) 0 (by omega) (by omega) (Or.inr ⟨fun q => g36 (q i (by omega)).1, rfl⟩)
                | exact ih (i + 1) 0 (by omega) (by omega) (Or.inr ⟨fun q => hQ fun t ht2 => q t (by omega), rfl⟩)
            · obtain ⟨w9, hw9⟩ : ∃ w9, alN u (q_g u 0 f i) = some w9 := by
                cases w : alN u (q_g u 0 f i) with
                | none => rw [w] at h44; exact absurd (show eN none < 0 by decide) h44
                | some w9 => exact ⟨w9, rfl⟩
              refine v_aload_n hC dX11_isReady_47 rfl rfl ?_
              refine v_iload hC dX11_isReady_48 rfl ?_
              refine cVi1 hC (c_X11_openDispute hW ht hA) yv_X11_openDispute rfl ht mw_5_131 ⟨Nat.le_of_ble_eq_true rfl, Nat.le_of_ble_eq_true rfl⟩ ⟨Nat.le_of_ble_eq_true rfl, Nat.le_of_ble_eq_true rfl⟩ (Nat.le_of_ble_eq_true rfl) dX11_isReady_50 (fun r50 M52 hq => ?_)
              obtain ⟨rfl, hm⟩ := hq
              have hm2 := hm.symm
              clear hm
              subst hm2
              refine v_if_ge hC dX11_isReady_53 (tgt := 60) (by decide) (fun h53 => ?_) (fun h53 => ?_)
              · have hN : ¬ (¬ q_i u 9 f i = 0 ∧ ¬ dsB u (q_g u 0 f i) = true) := fun z => z.2 (by
                  unfold dsB
                  rw [hw9]
                  show (opN u (nI w9)).isSome = true
                  rw [hw9] at h53
                  cases w : opN u (nI w9) with
                  | none => rw [show eN (some w9) = nI w9 from rfl, w] at h53; exact absurd h53 (by decide)
                  | some w8 => rfl)
                refine v_iconst (v := 0) hC dX11_isReady_60 (by decide) ?_
                refine v_ist2 hC dX11_isReady_61 (by decide) (kk := ?_)
                refine v_inc3 hC dX11_isReady_62 ((nI_succ i).symm) (by decide) (kk := ?_)
                refine v_goto hC dX11_isReady_65 (tgt := 4) (by decide) ?_
                refine v_drop 4 ?_
                refine v_drop 5 ?_
                first
                  | exact ih (i + 1) 1 (by omega) (by omega) (Or.inl ⟨fun t ht2 => by
                      by_cases q : t = i
                      · rw [q]; exact hN
                      · exact hQ t (by omega), rfl⟩)
                  | exact ih (i + 1) 0 (by omega) (by omega) (Or.inr ⟨fun q => hN (q i (by omega)), rfl⟩)
                  | exact ih (i + 1) 0 (by omega) (by omega) (Or.inr ⟨fun q => g36 (q i (by omega)).1, rfl⟩)
                  | exact ih (i + 1) 0 (by omega) (by omega) (Or.inr ⟨fun q => hQ fun t ht2 => q t (by omega), rfl⟩)
              · have hN : ¬ q_i u 9 f i = 0 ∧ ¬ dsB u (q_g u 0 f i) = true := ⟨g36, by
                  unfold dsB
                  rw [hw9]
                  show ¬ (opN u (nI w9)).isSome = true
                  rw [hw9] at h53
                  cases w : opN u (nI w9) with
                  | none => exact Bool.noConfusion
                  | some w8 => rw [show eN (some w9) = nI w9 from rfl, w] at h53; exact absurd (nI_le (a := 0) (Nat.zero_le w8) (by have := opN_i w; omega)) h53⟩
                refine v_iconst (v := 1) hC dX11_isReady_56 (by decide) ?_
                refine v_goto hC dX11_isReady_57 (tgt := 61) (by decide) ?_
                refine v_ist2 hC dX11_isReady_61 (by decide) (kk := ?_)
                refine v_inc3 hC dX11_isReady_62 ((nI_succ i).symm) (by decide) (kk := ?_)
                refine v_goto hC dX11_isReady_65 (tgt := 4) (by decide) ?_
                refine v_drop 4 ?_
                refine v_drop 5 ?_
                first
                  | exact ih (i + 1) 1 (by omega) (by omega) (Or.inl ⟨fun t ht2 => by
                      by_cases q : t = i
                      · rw [q]; exact hN
                      · exact hQ t (by omega), rfl⟩)
                  | exact ih (i + 1) 0 (by omega) (by omega) (Or.inr ⟨fun q => hN (q i (by omega)), rfl⟩)
                  | exact ih (i + 1) 0 (by omega) (by omega) (Or.inr ⟨fun q => g36 (q i (by omega)).1, rfl⟩)
                  | exact ih (i + 1) 0 (by omega) (by omega) (Or.inr ⟨fun q => hQ fun t ht2 => q t (by omega), rfl⟩)
          · refine v_if_eq hC dX11_isReady_39 (tgt := 60) (by decide) (fun _ => ?_) (fun hx => absurd hx (by decide))
            refine v_iconst (v := 0) hC dX11_isReady_60 (by decide) ?_
            refine v_ist2 hC dX11_isReady_61 (by decide) (kk := ?_)
            refine v_inc3 hC dX11_isReady_62 ((nI_succ i).symm) (by decide) (kk := ?_)
            refine v_goto hC dX11_isReady_65 (tgt := 4) (by decide) ?_
            refine v_drop 4 ?_
            refine v_drop 5 ?_
            first
              | exact ih (i + 1) 1 (by omega) (by omega) (Or.inl ⟨fun t ht2 => by
                  by_cases q : t = i
                  · rw [q]; exact hN
                  · exact hQ t (by omega), rfl⟩)
              | exact ih (i + 1) 0 (by omega) (by omega) (Or.inr ⟨fun q => hN (q i (by omega)), rfl⟩)
              | exact ih (i + 1) 0 (by omega) (by omega) (Or.inr ⟨fun q => g36 (q i (by omega)).1, rfl⟩)
              | exact ih (i + 1) 0 (by omega) (by omega) (Or.inr ⟨fun q => hQ fun t ht2 => q t (by omega), rfl⟩)
  refine v_iconst (v := 1) hC dX11_isReady_0 (by decide) ?_
  refine v_ist2 hC dX11_isReady_1 (by decide) (kk := ?_)
  refine v_iconst (v := 0) hC dX11_isReady_2 (by decide) ?_
  refine v_ist3 hC dX11_isReady_3 (by decide) (kk := ?_)
  exact loop 13 0 1 (by omega) (by omega) (Or.inl ⟨fun t ht2 => absurd ht2 (Nat.not_lt_zero t), rfl⟩)

theorem i12 {x : Int32} : (¬ x < 1 ∧ ¬ (2 : Int32) < x) ↔ (x = 1 ∨ x = 2) := by
  refine ⟨fun h => ?_, fun h => by rcases h with rfl | rfl <;> decide⟩
  have a : ¬ x.toInt < 1 := fun q => h.1 (Int32.lt_iff_toInt_lt.mpr q)
  have b : ¬ 2 < x.toInt := fun q => h.2 (Int32.lt_iff_toInt_lt.mpr q)
  rcases (show x.toInt = 1 ∨ x.toInt = 2 by omega) with z | z
  · exact Or.inl (Int32.toInt_inj.mp z)
  · exact Or.inr (Int32.toInt_inj.mp z)
theorem i22 {x : Int32} : (¬ x < 2 ∧ ¬ (2 : Int32) < x) ↔ x = 2 := by
  refine ⟨fun h => ?_, fun h => by rw [h]; decide⟩
  have a : ¬ x.toInt < 2 := fun q => h.1 (Int32.lt_iff_toInt_lt.mpr q)
  have b : ¬ 2 < x.toInt := fun q => h.2 (Int32.lt_iff_toInt_lt.mpr q)
  exact Int32.toInt_inj.mp (show x.toInt = 2 by omega)
theorem i33 {x : Int32} : (¬ x < 3 ∧ ¬ (3 : Int32) < x) ↔ x = 3 := by
  refine ⟨fun h => ?_, fun h => by rw [h]; decide⟩
  have a : ¬ x.toInt < 3 := fun q => h.1 (Int32.lt_iff_toInt_lt.mpr q)
  have b : ¬ 3 < x.toInt := fun q => h.2 (Int32.lt_iff_toInt_lt.mpr q)
  exact Int32.toInt_inj.mp (show x.toInt = 3 by omega)
theorem iH_in {u : Si} {f : Nat} (w : WfS u) (hf : f < n_f u) : (¬ q_i u 4 f 0 < 0 ∧ ¬ (2 : Int32) < q_i u 4 f 0) ↔ iH u f := by
  rw [iH_le w hf]
  refine ⟨fun h => h.2, fun h => ⟨fun q => ?_, h⟩⟩
  obtain ⟨k, hk, e⟩ := w f hf
  rw [e] at q
  exact i_ab q (nI_le (a := 0) (Nat.zero_le k) (by omega))
set_option maxHeartbeats 4000000 in
set_option maxRecDepth 100000 in
theorem c_X11_filesOf_t {l : Launch} {G : Gd} {M : Me} {h : Nat} {u : Si} {x : Int32} (hW : Wt M) (ht : m_t M h = 12) (hA : LA (rwM M h) u) : CQ (Qi G (fun r M2 => r = sm (T_ct u x) (n_f u) ∧ M2 = M)) l G yX11_filesOf cX11_filesOf 7 ((some .int)) 2 42 0 0 [.ref h, .int x, .int 2, .int 1, .int 2] M := by
  refine c_of ([some (.ref h), some (.int x), some (.int 2), some (.int 1), some (.int 2), none, none] : Lo) RX11 "filesOf" (by decide) rfl rfl (Nat.le_of_ble_eq_true rfl) rfl (fun p e s m below meth c hC nw => ?_)
  have u1 := hA.1.1
  have u2 := hA.1.2.1
  have u3 := hA.1.2.2.1
  have u4 := hA.1.2.2.2.1
  have hwz := wz_31 hW (wf_276 hW ht)
  have loop : ∀ (k i : Nat), i + k = 9 → i ≤ n_f u → V p l e (rmk 2 42 0 0) s m ([.ref h, .int x, .int 2, .int 1, .int 2] : List Value).toArray below meth c 7 G (MQ below (Qi G (fun r M2 => r = sm (T_ct u x) (n_f u) ∧ M2 = M)) ([.ref h, .int x, .int 2, .int 1, .int 2] : List Value).toArray s 0 0 (fr_ G)) M 0 0 6 ([some (.ref h), some (.int x), some (.int 2), some (.int 1), some (.int 2), some (.int (sm (T_ct u x) i)), some (.int (nI i))] : Lo) [] := by
    intro k
    induction k with
    | zero => intro i w1 w2; omega
    | succ k ih =>
      intro i w1 w2
      refine v_iload hC dX11_filesOf_6 rfl ?_
      refine v_i2l hC dX11_filesOf_8 ?_
      rw [nI_l (by omega)]
      refine v_aload_n hC dX11_filesOf_9 rfl rfl ?_
      refine gf_11_0 hC ht (wf_276 hW ht) mw_4_120 dX11_filesOf_10 ?_
      refine v_iconst (v := 0) hC dX11_filesOf_13 (by decide) ?_
      refine v_lald 31 hC (wf_276 hW ht) (by decide) (by decide) (ix_q (j := 0) hwz rfl) dX11_filesOf_14 ?_
      rw [show m_l M 31 (m_r M 276 h 0) (0) = _ from hA.c0]
      refine v_lcmp hC dX11_filesOf_15 ?_
      refine v_if_ge hC dX11_filesOf_16 (tgt := 69) (by decide) (fun h16 => ?_) (fun h16 => ?_)
      · have hi := lc_ge h16
        refine v_iload hC dX11_filesOf_69 rfl ?_
        refine v_iret hC dX11_filesOf_71 ?_
        have hie : i = n_f u := by omega
        subst hie
        exact ⟨rfl, rfl⟩
      · have hi := lc_lt h16
        refine v_iload hC dX11_filesOf_19 rfl ?_
        refine v_aload_n hC dX11_filesOf_21 rfl rfl ?_
        refine v_iload hC dX11_filesOf_22 rfl ?_
        refine cVi1 hC (c_X11_state hW ht hA hi) yv_X11_state rfl ht mw_5_11 ⟨Nat.le_of_ble_eq_true rfl, Nat.le_of_ble_eq_true rfl⟩ ⟨Nat.le_of_ble_eq_true rfl, Nat.le_of_ble_eq_true rfl⟩ (Nat.le_of_ble_eq_true rfl) dX11_filesOf_24 (fun r24 M26 hq => ?_)
        obtain ⟨rfl, hm⟩ := hq
        have hm2 := hm.symm
        clear hm
        subst hm2
        refine v_iload_n hC dX11_filesOf_27 rfl rfl ?_
        refine v_iload hC dX11_filesOf_28 rfl ?_
        refine cSi3 hC (c_X11_in ) ys_X11_in mw_4_181 ⟨Nat.le_of_ble_eq_true rfl, Nat.le_of_ble_eq_true rfl⟩ ⟨Nat.le_of_ble_eq_true rfl, Nat.le_of_ble_eq_true rfl⟩ (Nat.le_of_ble_eq_true rfl) dX11_filesOf_30 (fun r30 M32 hq => ?_)
        obtain ⟨hm, hq2⟩ := hq
        have hm2 := hm.symm
        clear hm
        subst hm2
        obtain ⟨g30, rfl⟩ | ⟨g30, rfl⟩ := hq2
        · refine v_if_eq hC dX11_filesOf_33 (tgt := 59) (by decide) (fun hx => absurd hx (by decide)) (fun _ => ?_)
          refine v_aload_n hC dX11_filesOf_36 rfl rfl ?_
          refine gf_11_0 hC ht (wf_276 hW ht) mw_4_120 dX11_filesOf_37 ?_
          refine v_aload_n hC dX11_filesOf_40 rfl rfl ?_
          refine v_iload hC dX11_filesOf_41 rfl ?_
          refine cVi1 hC (c_X11_fileBy ht) yv_X11_fileBy rfl ht mw_4_222 ⟨Nat.le_of_ble_eq_true rfl, Nat.le_of_ble_eq_true rfl⟩ ⟨Nat.le_of_ble_eq_true rfl, Nat.le_of_ble_eq_true rfl⟩ (Nat.le_of_ble_eq_true rfl) dX11_filesOf_43 (fun r43 M45 hq => ?_)
          obtain ⟨rfl, hm⟩ := hq
          have hm2 := hm.symm
          clear hm
          subst hm2
          refine v_iload_n hC dX11_filesOf_46 rfl rfl ?_
          refine v_iadd hC dX11_filesOf_47 ?_
          rw [show nI (18 + 7 * i) + 2 = nI (18 + 7 * i + 2) from nI_add _ 2]
          refine v_lald 31 hC (wf_276 hW ht) (by decide) (by decide) (ix_c hwz (by omega)) dX11_filesOf_48 ?_
          have h44 : ¬ q_i u 4 i 0 = 4 := fun q => by rw [q] at g30; exact absurd g30 (by decide)
          rw [show m_l M 31 (m_r M 276 h 0) (18 + 7 * i + 2) = _ from ((hA.f4 hi).2.1 h44).1]
          refine v_iload_n hC dX11_filesOf_49 rfl rfl ?_
          refine v_i2l hC dX11_filesOf_50 ?_
          refine v_lcmp hC dX11_filesOf_51 ?_
          refine v_if_ne hC dX11_filesOf_52 (tgt := 59) (by decide) (fun h52 => ?_) (fun h52 => ?_)
          · refine v_iconst (v := 0) hC dX11_filesOf_59 (by decide) ?_
            refine v_iadd hC dX11_filesOf_60 ?_
            first
              | rw [show sm (T_ct u x) i + 0 = sm (T_ct u x) (i + 1) from by rw [sm_s, T_ct, if_neg (fun q => g30 (i12.mpr q.1))]]
              | rw [show sm (T_ct u x) i + 0 = sm (T_ct u x) (i + 1) from by rw [sm_s, T_ct, if_neg (fun q => h52 (lc_i.mpr q.2))]]
              | rw [show sm (T_ct u x) i + 1 = sm (T_ct u x) (i + 1) from by rw [sm_s, T_ct, if_pos ⟨i12.mp g30, lc_i.mp h52⟩]]
            refine v_ist5 hC dX11_filesOf_61 (by decide) (kk := ?_)
            refine v_inc6 hC dX11_filesOf_63 ((nI_succ i).symm) (by decide) (kk := ?_)
            refine v_goto hC dX11_filesOf_66 (tgt := 6) (by decide) ?_
            exact ih (i + 1) (by omega) (by omega)
          · refine v_iconst (v := 1) hC dX11_filesOf_55 (by decide) ?_
            refine v_goto hC dX11_filesOf_56 (tgt := 60) (by decide) ?_
            refine v_iadd hC dX11_filesOf_60 ?_
            first
              | rw [show sm (T_ct u x) i + 0 = sm (T_ct u x) (i + 1) from by rw [sm_s, T_ct, if_neg (fun q => g30 (i12.mpr q.1))]]
              | rw [show sm (T_ct u x) i + 0 = sm (T_ct u x) (i + 1) from by rw [sm_s, T_ct, if_neg (fun q => h52 (lc_i.mpr q.2))]]
              | rw [show sm (T_ct u x) i + 1 = sm (T_ct u x) (i + 1) from by rw [sm_s, T_ct, if_pos ⟨i12.mp g30, lc_i.mp h52⟩]]
            refine v_ist5 hC dX11_filesOf_61 (by decide) (kk := ?_)
            refine v_inc6 hC dX11_filesOf_63 ((nI_succ i).symm) (by decide) (kk := ?_)
            refine v_goto hC dX11_filesOf_66 (tgt := 6) (by decide) ?_
            exact ih (i + 1) (by omega) (by omega)
        · refine v_if_eq hC dX11_filesOf_33 (tgt := 59) (by decide) (fun _ => ?_) (fun hx => absurd hx (by decide))
          refine v_iconst (v := 0) hC dX11_filesOf_59 (by decide) ?_
          refine v_iadd hC dX11_filesOf_60 ?_
          first
            | rw [show sm (T_ct u x) i + 0 = sm (T_ct u x) (i + 1) from by rw [sm_s, T_ct, if_neg (fun q => g30 (i12.mpr q.1))]]
            | rw [show sm (T_ct u x) i + 0 = sm (T_ct u x) (i + 1) from by rw [sm_s, T_ct, if_neg (fun q => h52 (lc_i.mpr q.2))]]
            | rw [show sm (T_ct u x) i + 1 = sm (T_ct u x) (i + 1) from by rw [sm_s, T_ct, if_pos ⟨i12.mp g30, lc_i.mp h52⟩]]
          refine v_ist5 hC dX11_filesOf_61 (by decide) (kk := ?_)
          refine v_inc6 hC dX11_filesOf_63 ((nI_succ i).symm) (by decide) (kk := ?_)
          refine v_goto hC dX11_filesOf_66 (tgt := 6) (by decide) ?_
          exact ih (i + 1) (by omega) (by omega)
  refine v_iconst (v := 0) hC dX11_filesOf_0 (by decide) ?_
  refine v_ist5 hC dX11_filesOf_1 (by decide) (kk := ?_)
  refine v_iconst (v := 0) hC dX11_filesOf_3 (by decide) ?_
  refine v_ist6 hC dX11_filesOf_4 (by decide) (kk := ?_)
  exact loop 9 0 (by omega) (by omega)

set_option maxHeartbeats 4000000 in
set_option maxRecDepth 100000 in
theorem c_X11_filesOf_r {l : Launch} {G : Gd} {M : Me} {h : Nat} {u : Si} {x : Int32} (hW : Wt M) (ht : m_t M h = 12) (hA : LA (rwM M h) u) : CQ (Qi G (fun r M2 => r = sm (T_cr u x) (n_f u) ∧ M2 = M)) l G yX11_filesOf cX11_filesOf 7 ((some .int)) 2 42 0 0 [.ref h, .int x, .int 3, .int 2, .int 2] M := by
  refine c_of ([some (.ref h), some (.int x), some (.int 3), some (.int 2), some (.int 2), none, none] : Lo) RX11 "filesOf" (by decide) rfl rfl (Nat.le_of_ble_eq_true rfl) rfl (fun p e s m below meth c hC nw => ?_)
  have u1 := hA.1.1
  have u2 := hA.1.2.1
  have u3 := hA.1.2.2.1
  have u4 := hA.1.2.2.2.1
  have hwz := wz_31 hW (wf_276 hW ht)
  have loop : ∀ (k i : Nat), i + k = 9 → i ≤ n_f u → V p l e (rmk 2 42 0 0) s m ([.ref h, .int x, .int 3, .int 2, .int 2] : List Value).toArray below meth c 7 G (MQ below (Qi G (fun r M2 => r = sm (T_cr u x) (n_f u) ∧ M2 = M)) ([.ref h, .int x, .int 3, .int 2, .int 2] : List Value).toArray s 0 0 (fr_ G)) M 0 0 6 ([some (.ref h), some (.int x), some (.int 3), some (.int 2), some (.int 2), some (.int (sm (T_cr u x) i)), some (.int (nI i))] : Lo) [] := by
    intro k
    induction k with
    | zero => intro i w1 w2; omega
    | succ k ih =>
      intro i w1 w2
      refine v_iload hC dX11_filesOf_6 rfl ?_
      refine v_i2l hC dX11_filesOf_8 ?_
      rw [nI_l (by omega)]
      refine v_aload_n hC dX11_filesOf_9 rfl rfl ?_
      refine gf_11_0 hC ht (wf_276 hW ht) mw_4_120 dX11_filesOf_10 ?_
      refine v_iconst (v := 0) hC dX11_filesOf_13 (by decide) ?_
      refine v_lald 31 hC (wf_276 hW ht) (by decide) (by decide) (ix_q (j := 0) hwz rfl) dX11_filesOf_14 ?_
      rw [show m_l M 31 (m_r M 276 h 0) (0) = _ from hA.c0]
      refine v_lcmp hC dX11_filesOf_15 ?_
      refine v_if_ge hC dX11_filesOf_16 (tgt := 69) (by decide) (fun h16 => ?_) (fun h16 => ?_)
      · have hi := lc_ge h16
        refine v_iload hC dX11_filesOf_69 rfl ?_
        refine v_iret hC dX11_filesOf_71 ?_
        have hie : i = n_f u := by omega
        subst hie
        exact ⟨rfl, rfl⟩
      · have hi := lc_lt h16
        refine v_iload hC dX11_filesOf_19 rfl ?_
        refine v_aload_n hC dX11_filesOf_21 rfl rfl ?_
        refine v_iload hC dX11_filesOf_22 rfl ?_
        refine cVi1 hC (c_X11_state hW ht hA hi) yv_X11_state rfl ht mw_5_11 ⟨Nat.le_of_ble_eq_true rfl, Nat.le_of_ble_eq_true rfl⟩ ⟨Nat.le_of_ble_eq_true rfl, Nat.le_of_ble_eq_true rfl⟩ (Nat.le_of_ble_eq_true rfl) dX11_filesOf_24 (fun r24 M26 hq => ?_)
        obtain ⟨rfl, hm⟩ := hq
        have hm2 := hm.symm
        clear hm
        subst hm2
        refine v_iload_n hC dX11_filesOf_27 rfl rfl ?_
        refine v_iload hC dX11_filesOf_28 rfl ?_
        refine cSi3 hC (c_X11_in ) ys_X11_in mw_4_181 ⟨Nat.le_of_ble_eq_true rfl, Nat.le_of_ble_eq_true rfl⟩ ⟨Nat.le_of_ble_eq_true rfl, Nat.le_of_ble_eq_true rfl⟩ (Nat.le_of_ble_eq_true rfl) dX11_filesOf_30 (fun r30 M32 hq => ?_)
        obtain ⟨hm, hq2⟩ := hq
        have hm2 := hm.symm
        clear hm
        subst hm2
        obtain ⟨g30, rfl⟩ | ⟨g30, rfl⟩ := hq2
        · refine v_if_eq hC dX11_filesOf_33 (tgt := 59) (by decide) (fun hx => absurd hx (by decide)) (fun _ => ?_)
          refine v_aload_n hC dX11_filesOf_36 rfl rfl ?_
          refine gf_11_0 hC ht (wf_276 hW ht) mw_4_120 dX11_filesOf_37 ?_
          refine v_aload_n hC dX11_filesOf_40 rfl rfl ?_
          refine v_iload hC dX11_filesOf_41 rfl ?_
          refine cVi1 hC (c_X11_fileBy ht) yv_X11_fileBy rfl ht mw_4_222 ⟨Nat.le_of_ble_eq_true rfl, Nat.le_of_ble_eq_true rfl⟩ ⟨Nat.le_of_ble_eq_true rfl, Nat.le_of_ble_eq_true rfl⟩ (Nat.le_of_ble_eq_true rfl) dX11_filesOf_43 (fun r43 M45 hq => ?_)
          obtain ⟨rfl, hm⟩ := hq
          have hm2 := hm.symm
          clear hm
          subst hm2
          refine v_iload_n hC dX11_filesOf_46 rfl rfl ?_
          refine v_iadd hC dX11_filesOf_47 ?_
          rw [show nI (18 + 7 * i) + 3 = nI (18 + 7 * i + 3) from nI_add _ 3]
          refine v_lald 31 hC (wf_276 hW ht) (by decide) (by decide) (ix_c hwz (by omega)) dX11_filesOf_48 ?_
          have h44 : ¬ q_i u 4 i 0 = 4 := fun q => by rw [q] at g30; exact absurd g30 (by decide)
          rw [show m_l M 31 (m_r M 276 h 0) (18 + 7 * i + 3) = _ from ((hA.f4 hi).2.1 h44).2]
          refine v_iload_n hC dX11_filesOf_49 rfl rfl ?_
          refine v_i2l hC dX11_filesOf_50 ?_
          refine v_lcmp hC dX11_filesOf_51 ?_
          refine v_if_ne hC dX11_filesOf_52 (tgt := 59) (by decide) (fun h52 => ?_) (fun h52 => ?_)
          · refine v_iconst (v := 0) hC dX11_filesOf_59 (by decide) ?_
            refine v_iadd hC dX11_filesOf_60 ?_
            first
              | rw [show sm (T_cr u x) i + 0 = sm (T_cr u x) (i + 1) from by rw [sm_s, T_cr, if_neg (fun q => g30 (i22.mpr q.1))]]
              | rw [show sm (T_cr u x) i + 0 = sm (T_cr u x) (i + 1) from by rw [sm_s, T_cr, if_neg (fun q => h52 (lc_i.mpr q.2))]]
              | rw [show sm (T_cr u x) i + 1 = sm (T_cr u x) (i + 1) from by rw [sm_s, T_cr, if_pos ⟨i22.mp g30, lc_i.mp h52⟩]]
            refine v_ist5 hC dX11_filesOf_61 (by decide) (kk := ?_)
            refine v_inc6 hC dX11_filesOf_63 ((nI_succ i).symm) (by decide) (kk := ?_)
            refine v_goto hC dX11_filesOf_66 (tgt := 6) (by decide) ?_
            exact ih (i + 1) (by omega) (by omega)
          · refine v_iconst (v := 1) hC dX11_filesOf_55 (by decide) ?_
            refine v_goto hC dX11_filesOf_56 (tgt := 60) (by decide) ?_
            refine v_iadd hC dX11_filesOf_60 ?_
            first
              | rw [show sm (T_cr u x) i + 0 = sm (T_cr u x) (i + 1) from by rw [sm_s, T_cr, if_neg (fun q => g30 (i22.mpr q.1))]]
              | rw [show sm (T_cr u x) i + 0 = sm (T_cr u x) (i + 1) from by rw [sm_s, T_cr, if_neg (fun q => h52 (lc_i.mpr q.2))]]
              | rw [show sm (T_cr u x) i + 1 = sm (T_cr u x) (i + 1) from by rw [sm_s, T_cr, if_pos ⟨i22.mp g30, lc_i.mp h52⟩]]
            refine v_ist5 hC dX11_filesOf_61 (by decide) (kk := ?_)
            refine v_inc6 hC dX11_filesOf_63 ((nI_succ i).symm) (by decide) (kk := ?_)
            refine v_goto hC dX11_filesOf_66 (tgt := 6) (by decide) ?_
            exact ih (i + 1) (by omega) (by omega)
        · refine v_if_eq hC dX11_filesOf_33 (tgt := 59) (by decide) (fun _ => ?_) (fun hx => absurd hx (by decide))
          refine v_iconst (v := 0) hC dX11_filesOf_59 (by decide) ?_
          refine v_iadd hC dX11_filesOf_60 ?_
          first
            | rw [show sm (T_cr u x) i + 0 = sm (T_cr u x) (i + 1) from by rw [sm_s, T_cr, if_neg (fun q => g30 (i22.mpr q.1))]]
            | rw [show sm (T_cr u x) i + 0 = sm (T_cr u x) (i + 1) from by rw [sm_s, T_cr, if_neg (fun q => h52 (lc_i.mpr q.2))]]
            | rw [show sm (T_cr u x) i + 1 = sm (T_cr u x) (i + 1) from by rw [sm_s, T_cr, if_pos ⟨i22.mp g30, lc_i.mp h52⟩]]
          refine v_ist5 hC dX11_filesOf_61 (by decide) (kk := ?_)
          refine v_inc6 hC dX11_filesOf_63 ((nI_succ i).symm) (by decide) (kk := ?_)
          refine v_goto hC dX11_filesOf_66 (tgt := 6) (by decide) ?_
          exact ih (i + 1) (by omega) (by omega)
  refine v_iconst (v := 0) hC dX11_filesOf_0 (by decide) ?_
  refine v_ist5 hC dX11_filesOf_1 (by decide) (kk := ?_)
  refine v_iconst (v := 0) hC dX11_filesOf_3 (by decide) ?_
  refine v_ist6 hC dX11_filesOf_4 (by decide) (kk := ?_)
  exact loop 9 0 (by omega) (by omega)

set_option maxHeartbeats 4000000 in
set_option maxRecDepth 100000 in
theorem c_X11_openDisputes {l : Launch} {G : Gd} {M : Me} {h : Nat} {u : Si} (hW : Wt M) (ht : m_t M h = 12) (hA : LA (rwM M h) u) : CQ (Qi G (fun r M2 => r = sm (T_od u) (n_d u) ∧ M2 = M)) l G yX11_openDisputes cX11_openDisputes 3 ((some .int)) 1 21 0 0 [.ref h] M := by
  refine c_of ([some (.ref h), none, none] : Lo) RX11 "openDisputes" (by decide) rfl rfl (Nat.le_of_ble_eq_true rfl) rfl (fun p e s m below meth c hC nw => ?_)
  have u1 := hA.1.1
  have u2 := hA.1.2.1
  have u3 := hA.1.2.2.1
  have u4 := hA.1.2.2.2.1
  have hwz := wz_31 hW (wf_276 hW ht)
  have loop : ∀ (k i : Nat), i + k = 11 → i ≤ n_d u → V p l e (rmk 1 21 0 0) s m ([.ref h] : List Value).toArray below meth c 3 G (MQ below (Qi G (fun r M2 => r = sm (T_od u) (n_d u) ∧ M2 = M)) ([.ref h] : List Value).toArray s 0 0 (fr_ G)) M 0 0 4 ([some (.ref h), some (.int (sm (T_od u) i)), some (.int (nI i))] : Lo) [] := by
    intro k
    induction k with
    | zero => intro i w1 w2; omega
    | succ k ih =>
      intro i w1 w2
      refine v_iload_n hC dX11_openDisputes_4 rfl rfl ?_
      refine v_i2l hC dX11_openDisputes_5 ?_
      rw [nI_l (by omega)]
      refine v_aload_n hC dX11_openDisputes_6 rfl rfl ?_
      refine gf_11_0 hC ht (wf_276 hW ht) mw_4_120 dX11_openDisputes_7 ?_
      refine v_iconst (v := 3) hC dX11_openDisputes_10 (by decide) ?_
      refine v_lald 31 hC (wf_276 hW ht) (by decide) (by decide) (ix_q (j := 3) hwz rfl) dX11_openDisputes_11 ?_
      rw [show m_l M 31 (m_r M 276 h 0) (3) = _ from hA.c3]
      refine v_lcmp hC dX11_openDisputes_12 ?_
      refine v_if_ge hC dX11_openDisputes_13 (tgt := 47) (by decide) (fun h13 => ?_) (fun h13 => ?_)
      · have hi := lc_ge h13
        refine v_iload_n hC dX11_openDisputes_47 rfl rfl ?_
        refine v_iret hC dX11_openDisputes_48 ?_
        have hie : i = n_d u := by omega
        subst hie
        exact ⟨rfl, rfl⟩
      · have hi := lc_lt h13
        refine v_iload_n hC dX11_openDisputes_16 rfl rfl ?_
        refine v_aload_n hC dX11_openDisputes_17 rfl rfl ?_
        refine gf_11_0 hC ht (wf_276 hW ht) mw_4_120 dX11_openDisputes_18 ?_
        refine v_aload_n hC dX11_openDisputes_21 rfl rfl ?_
        refine v_iload_n hC dX11_openDisputes_22 rfl rfl ?_
        refine cVi1 hC (c_X11_disputeAt ht) yv_X11_disputeAt rfl ht mw_5_135 ⟨Nat.le_of_ble_eq_true rfl, Nat.le_of_ble_eq_true rfl⟩ ⟨Nat.le_of_ble_eq_true rfl, Nat.le_of_ble_eq_true rfl⟩ (Nat.le_of_ble_eq_true rfl) dX11_openDisputes_23 (fun r23 M25 hq => ?_)
        obtain ⟨rfl, hm⟩ := hq
        have hm2 := hm.symm
        clear hm
        subst hm2
        refine v_iconst (v := 3) hC dX11_openDisputes_26 (by decide) ?_
        refine v_iadd hC dX11_openDisputes_27 ?_
        rw [show nI (116 + 5 * i) + 3 = nI (116 + 5 * i + 3) from nI_add _ 3]
        refine v_lald 31 hC (wf_276 hW ht) (by decide) (by decide) (ix_c hwz (by omega)) dX11_openDisputes_28 ?_
        rw [show m_l M 31 (m_r M 276 h 0) (116 + 5 * i + 3) = _ from (hA.d5 hi).2.2.2.1]
        refine v_lconst (v := 0) hC dX11_openDisputes_29 (by decide) ?_
        refine v_lcmp hC dX11_openDisputes_30 ?_
        refine v_if_ne hC dX11_openDisputes_31 (tgt := 38) (by decide) (fun h31 => ?_) (fun h31 => ?_)
        · refine v_iconst (v := 0) hC dX11_openDisputes_38 (by decide) ?_
          refine v_iadd hC dX11_openDisputes_39 ?_
          first
            | rw [show sm (T_od u) i + 0 = sm (T_od u) (i + 1) from by rw [sm_s, T_od, if_neg (fun q => h31 ((lg_cmp_eq _ _).mpr (if_pos q)))]]
            | rw [show sm (T_od u) i + 1 = sm (T_od u) (i + 1) from by rw [sm_s, T_od, if_pos (Decidable.byContradiction fun q => absurd h31 (by rw [if_neg q]; decide))]]
          refine v_ist1 hC dX11_openDisputes_40 (by decide) (kk := ?_)
          refine v_inc2 hC dX11_openDisputes_41 ((nI_succ i).symm) (by decide) (kk := ?_)
          refine v_goto hC dX11_openDisputes_44 (tgt := 4) (by decide) ?_
          exact ih (i + 1) (by omega) (by omega)
        · refine v_iconst (v := 1) hC dX11_openDisputes_34 (by decide) ?_
          refine v_goto hC dX11_openDisputes_35 (tgt := 39) (by decide) ?_
          refine v_iadd hC dX11_openDisputes_39 ?_
          first
            | rw [show sm (T_od u) i + 0 = sm (T_od u) (i + 1) from by rw [sm_s, T_od, if_neg (fun q => h31 ((lg_cmp_eq _ _).mpr (if_pos q)))]]
            | rw [show sm (T_od u) i + 1 = sm (T_od u) (i + 1) from by rw [sm_s, T_od, if_pos (Decidable.byContradiction fun q => absurd h31 (by rw [if_neg q]; decide))]]
          refine v_ist1 hC dX11_openDisputes_40 (by decide) (kk := ?_)
          refine v_inc2 hC dX11_openDisputes_41 ((nI_succ i).symm) (by decide) (kk := ?_)
          refine v_goto hC dX11_openDisputes_44 (tgt := 4) (by decide) ?_
          exact ih (i + 1) (by omega) (by omega)
  refine v_iconst (v := 0) hC dX11_openDisputes_0 (by decide) ?_
  refine v_ist1 hC dX11_openDisputes_1 (by decide) (kk := ?_)
  refine v_iconst (v := 0) hC dX11_openDisputes_2 (by decide) ?_
  refine v_ist2 hC dX11_openDisputes_3 (by decide) (kk := ?_)
  exact loop 11 0 (by omega) (by omega)

theorem i_ssub (a b : Int32) : a - (a - b) = b := by
  rw [Int32.sub_eq_add_neg a (a - b), Int32.neg_sub, Int32.sub_eq_add_neg, Int32.add_comm b, ← Int32.add_assoc, ← Int32.sub_eq_add_neg, Int32.sub_self, Int32.zero_add]
set_option maxHeartbeats 4000000 in
set_option maxRecDepth 100000 in
theorem c_X11_sum_ih {l : Launch} {G : Gd} {M : Me} {h : Nat} {u : Si} (hW : Wt M) (ht : m_t M h = 12) (hA : LA (rwM M h) u) (hS : WfS u) (hT : WfT u) : CQ (Qi G (fun r M2 => r = sm (T_ih u) (n_f u) ∧ M2 = M)) l G yX11_sum cX11_sum 6 ((some .int)) 2 42 0 0 [.ref h, .int 0, .int 2, .int 0] M := by
  refine c_of ([some (.ref h), some (.int 0), some (.int 2), some (.int 0), none, none] : Lo) RX11 "sum" (by decide) rfl rfl (Nat.le_of_ble_eq_true rfl) rfl (fun p e s m below meth c hC nw => ?_)
  have u1 := hA.1.1
  have u2 := hA.1.2.1
  have u3 := hA.1.2.2.1
  have u4 := hA.1.2.2.2.1
  have hwz := wz_31 hW (wf_276 hW ht)
  have loop : ∀ (k i : Nat), i + k = 9 → i ≤ n_f u → V p l e (rmk 2 42 0 0) s m ([.ref h, .int 0, .int 2, .int 0] : List Value).toArray below meth c 6 G (MQ below (Qi G (fun r M2 => r = sm (T_ih u) (n_f u) ∧ M2 = M)) ([.ref h, .int 0, .int 2, .int 0] : List Value).toArray s 0 0 (fr_ G)) M 0 0 6 ([some (.ref h), some (.int 0), some (.int 2), some (.int 0), some (.int (sm (T_ih u) i)), some (.int (nI i))] : Lo) [] := by
    intro k
    induction k with
    | zero => intro i w1 w2; omega
    | succ k ih =>
      intro i w1 w2
      refine v_iload hC dX11_sum_6 rfl ?_
      refine v_i2l hC dX11_sum_8 ?_
      rw [nI_l (by omega)]
      refine v_aload_n hC dX11_sum_9 rfl rfl ?_
      refine gf_11_0 hC ht (wf_276 hW ht) mw_4_120 dX11_sum_10 ?_
      refine v_iconst (v := 0) hC dX11_sum_13 (by decide) ?_
      refine v_lald 31 hC (wf_276 hW ht) (by decide) (by decide) (ix_q (j := 0) hwz rfl) dX11_sum_14 ?_
      rw [show m_l M 31 (m_r M 276 h 0) (0) = _ from hA.c0]
      refine v_lcmp hC dX11_sum_15 ?_
      refine v_if_ge hC dX11_sum_16 (tgt := 79) (by decide) (fun h16 => ?_) (fun h16 => ?_)
      · have hi := lc_ge h16
        refine v_iload hC dX11_sum_79 rfl ?_
        refine v_iret hC dX11_sum_81 ?_
        have hie : i = n_f u := by omega
        subst hie
        exact ⟨rfl, rfl⟩
      · have hi := lc_lt h16
        refine v_aload_n hC dX11_sum_19 rfl rfl ?_
        refine v_iload hC dX11_sum_20 rfl ?_
        refine cVi1 hC (c_X11_state hW ht hA hi) yv_X11_state rfl ht mw_5_11 ⟨Nat.le_of_ble_eq_true rfl, Nat.le_of_ble_eq_true rfl⟩ ⟨Nat.le_of_ble_eq_true rfl, Nat.le_of_ble_eq_true rfl⟩ (Nat.le_of_ble_eq_true rfl) dX11_sum_22 (fun r22 M24 hq => ?_)
        obtain ⟨rfl, hm⟩ := hq
        have hm2 := hm.symm
        clear hm
        subst hm2
        refine v_iload_n hC dX11_sum_25 rfl rfl ?_
        refine v_iload_n hC dX11_sum_26 rfl rfl ?_
        refine cSi3 hC (c_X11_in ) ys_X11_in mw_4_181 ⟨Nat.le_of_ble_eq_true rfl, Nat.le_of_ble_eq_true rfl⟩ ⟨Nat.le_of_ble_eq_true rfl, Nat.le_of_ble_eq_true rfl⟩ (Nat.le_of_ble_eq_true rfl) dX11_sum_27 (fun r27 M29 hq => ?_)
        obtain ⟨hm, hq2⟩ := hq
        have hm2 := hm.symm
        clear hm
        subst hm2
        obtain ⟨g27, rfl⟩ | ⟨g27, rfl⟩ := hq2
        · refine v_if_eq hC dX11_sum_30 (tgt := 73) (by decide) (fun hx => absurd hx (by decide)) (fun _ => ?_)
          refine v_iload hC dX11_sum_33 rfl ?_
          refine v_iload_n hC dX11_sum_35 rfl rfl ?_
          refine v_if_ne hC dX11_sum_36 (tgt := 43) (by decide) (fun hx => absurd hx (by decide)) (fun _ => ?_)
          refine v_iconst (v := 1) hC dX11_sum_39 (by decide) ?_
          refine v_goto hC dX11_sum_40 (tgt := 70) (by decide) ?_
          refine v_iadd hC dX11_sum_70 ?_
          rw [show sm (T_ih u) i + 1 = sm (T_ih u) (i + 1) from by rw [sm_s, T_ih, if_pos ((iH_in hS hi).mp g27)]]
          refine v_ist4 hC dX11_sum_71 (by decide) (kk := ?_)
          first
            | rw [show sm (T_ih u) i = sm (T_ih u) (i + 1) from by rw [sm_s, T_ih, if_neg (fun q => g27 ((iH_in hS hi).mpr q)), Int32.add_zero]]
            | skip
          refine v_inc5 hC dX11_sum_73 ((nI_succ i).symm) (by decide) (kk := ?_)
          refine v_goto hC dX11_sum_76 (tgt := 6) (by decide) ?_
          exact ih (i + 1) (by omega) (by omega)
        · refine v_if_eq hC dX11_sum_30 (tgt := 73) (by decide) (fun _ => ?_) (fun hx => absurd hx (by decide))
          first
            | rw [show sm (T_ih u) i = sm (T_ih u) (i + 1) from by rw [sm_s, T_ih, if_neg (fun q => g27 ((iH_in hS hi).mpr q)), Int32.add_zero]]
            | skip
          refine v_inc5 hC dX11_sum_73 ((nI_succ i).symm) (by decide) (kk := ?_)
          refine v_goto hC dX11_sum_76 (tgt := 6) (by decide) ?_
          exact ih (i + 1) (by omega) (by omega)
  refine v_iconst (v := 0) hC dX11_sum_0 (by decide) ?_
  refine v_ist4 hC dX11_sum_1 (by decide) (kk := ?_)
  refine v_iconst (v := 0) hC dX11_sum_3 (by decide) ?_
  refine v_ist5 hC dX11_sum_4 (by decide) (kk := ?_)
  exact loop 9 0 (by omega) (by omega)

set_option maxHeartbeats 4000000 in
set_option maxRecDepth 100000 in
theorem c_X11_sum_wi {l : Launch} {G : Gd} {M : Me} {h : Nat} {u : Si} (hW : Wt M) (ht : m_t M h = 12) (hA : LA (rwM M h) u) (hS : WfS u) (hT : WfT u) : CQ (Qi G (fun r M2 => r = sm (T_wi u) (n_f u) ∧ M2 = M)) l G yX11_sum cX11_sum 6 ((some .int)) 3 65 0 0 [.ref h, .int 0, .int 2, .int 1] M := by
  refine c_of ([some (.ref h), some (.int 0), some (.int 2), some (.int 1), none, none] : Lo) RX11 "sum" (by decide) rfl rfl (Nat.le_of_ble_eq_true rfl) rfl (fun p e s m below meth c hC nw => ?_)
  have u1 := hA.1.1
  have u2 := hA.1.2.1
  have u3 := hA.1.2.2.1
  have u4 := hA.1.2.2.2.1
  have hwz := wz_31 hW (wf_276 hW ht)
  have loop : ∀ (k i : Nat), i + k = 9 → i ≤ n_f u → V p l e (rmk 3 65 0 0) s m ([.ref h, .int 0, .int 2, .int 1] : List Value).toArray below meth c 6 G (MQ below (Qi G (fun r M2 => r = sm (T_wi u) (n_f u) ∧ M2 = M)) ([.ref h, .int 0, .int 2, .int 1] : List Value).toArray s 0 0 (fr_ G)) M 0 0 6 ([some (.ref h), some (.int 0), some (.int 2), some (.int 1), some (.int (sm (T_wi u) i)), some (.int (nI i))] : Lo) [] := by
    intro k
    induction k with
    | zero => intro i w1 w2; omega
    | succ k ih =>
      intro i w1 w2
      refine v_iload hC dX11_sum_6 rfl ?_
      refine v_i2l hC dX11_sum_8 ?_
      rw [nI_l (by omega)]
      refine v_aload_n hC dX11_sum_9 rfl rfl ?_
      refine gf_11_0 hC ht (wf_276 hW ht) mw_4_120 dX11_sum_10 ?_
      refine v_iconst (v := 0) hC dX11_sum_13 (by decide) ?_
      refine v_lald 31 hC (wf_276 hW ht) (by decide) (by decide) (ix_q (j := 0) hwz rfl) dX11_sum_14 ?_
      rw [show m_l M 31 (m_r M 276 h 0) (0) = _ from hA.c0]
      refine v_lcmp hC dX11_sum_15 ?_
      refine v_if_ge hC dX11_sum_16 (tgt := 79) (by decide) (fun h16 => ?_) (fun h16 => ?_)
      · have hi := lc_ge h16
        refine v_iload hC dX11_sum_79 rfl ?_
        refine v_iret hC dX11_sum_81 ?_
        have hie : i = n_f u := by omega
        subst hie
        exact ⟨rfl, rfl⟩
      · have hi := lc_lt h16
        refine v_aload_n hC dX11_sum_19 rfl rfl ?_
        refine v_iload hC dX11_sum_20 rfl ?_
        refine cVi1 hC (c_X11_state hW ht hA hi) yv_X11_state rfl ht mw_5_11 ⟨Nat.le_of_ble_eq_true rfl, Nat.le_of_ble_eq_true rfl⟩ ⟨Nat.le_of_ble_eq_true rfl, Nat.le_of_ble_eq_true rfl⟩ (Nat.le_of_ble_eq_true rfl) dX11_sum_22 (fun r22 M24 hq => ?_)
        obtain ⟨rfl, hm⟩ := hq
        have hm2 := hm.symm
        clear hm
        subst hm2
        refine v_iload_n hC dX11_sum_25 rfl rfl ?_
        refine v_iload_n hC dX11_sum_26 rfl rfl ?_
        refine cSi3 hC (c_X11_in ) ys_X11_in mw_4_181 ⟨Nat.le_of_ble_eq_true rfl, Nat.le_of_ble_eq_true rfl⟩ ⟨Nat.le_of_ble_eq_true rfl, Nat.le_of_ble_eq_true rfl⟩ (Nat.le_of_ble_eq_true rfl) dX11_sum_27 (fun r27 M29 hq => ?_)
        obtain ⟨hm, hq2⟩ := hq
        have hm2 := hm.symm
        clear hm
        subst hm2
        obtain ⟨g27, rfl⟩ | ⟨g27, rfl⟩ := hq2
        · refine v_if_eq hC dX11_sum_30 (tgt := 73) (by decide) (fun hx => absurd hx (by decide)) (fun _ => ?_)
          refine v_iload hC dX11_sum_33 rfl ?_
          refine v_iload_n hC dX11_sum_35 rfl rfl ?_
          refine v_if_ne hC dX11_sum_36 (tgt := 43) (by decide) (fun _ => ?_) (fun hx => absurd hx (by decide))
          refine v_iload_n hC dX11_sum_43 rfl rfl ?_
          refine v_iconst (v := 1) hC dX11_sum_44 (by decide) ?_
          refine v_icmp_ne hC dX11_sum_45 (tgt := 57) (by decide) (fun hx => absurd hx (by decide)) (fun _ => ?_)
          refine v_aload_n hC dX11_sum_48 rfl rfl ?_
          refine v_iload hC dX11_sum_49 rfl ?_
          refine cVi1 hC (c_X11_words hW ht hA hi) yv_X11_words rfl ht mw_5_173 ⟨Nat.le_of_ble_eq_true rfl, Nat.le_of_ble_eq_true rfl⟩ ⟨Nat.le_of_ble_eq_true rfl, Nat.le_of_ble_eq_true rfl⟩ (Nat.le_of_ble_eq_true rfl) dX11_sum_51 (fun r51 M53 hq => ?_)
          obtain ⟨rfl, hm⟩ := hq
          have hm2 := hm.symm
          clear hm
          subst hm2
          refine v_goto hC dX11_sum_54 (tgt := 70) (by decide) ?_
          refine v_iadd hC dX11_sum_70 ?_
          rw [show sm (T_wi u) i + w_f u i = sm (T_wi u) (i + 1) from by rw [sm_s, T_wi, if_pos ((iH_in hS hi).mp g27)]]
          refine v_ist4 hC dX11_sum_71 (by decide) (kk := ?_)
          first
            | rw [show sm (T_wi u) i = sm (T_wi u) (i + 1) from by rw [sm_s, T_wi, if_neg (fun q => g27 ((iH_in hS hi).mpr q)), Int32.add_zero]]
            | skip
          refine v_inc5 hC dX11_sum_73 ((nI_succ i).symm) (by decide) (kk := ?_)
          refine v_goto hC dX11_sum_76 (tgt := 6) (by decide) ?_
          exact ih (i + 1) (by omega) (by omega)
        · refine v_if_eq hC dX11_sum_30 (tgt := 73) (by decide) (fun _ => ?_) (fun hx => absurd hx (by decide))
          first
            | rw [show sm (T_wi u) i = sm (T_wi u) (i + 1) from by rw [sm_s, T_wi, if_neg (fun q => g27 ((iH_in hS hi).mpr q)), Int32.add_zero]]
            | skip
          refine v_inc5 hC dX11_sum_73 ((nI_succ i).symm) (by decide) (kk := ?_)
          refine v_goto hC dX11_sum_76 (tgt := 6) (by decide) ?_
          exact ih (i + 1) (by omega) (by omega)
  refine v_iconst (v := 0) hC dX11_sum_0 (by decide) ?_
  refine v_ist4 hC dX11_sum_1 (by decide) (kk := ?_)
  refine v_iconst (v := 0) hC dX11_sum_3 (by decide) ?_
  refine v_ist5 hC dX11_sum_4 (by decide) (kk := ?_)
  exact loop 9 0 (by omega) (by omega)

set_option maxHeartbeats 4000000 in
set_option maxRecDepth 100000 in
theorem c_X11_sum_wd {l : Launch} {G : Gd} {M : Me} {h : Nat} {u : Si} (hW : Wt M) (ht : m_t M h = 12) (hA : LA (rwM M h) u) (hS : WfS u) (hT : WfT u) : CQ (Qi G (fun r M2 => r = sm (T_wd u) (n_f u) ∧ M2 = M)) l G yX11_sum cX11_sum 6 ((some .int)) 3 65 0 0 [.ref h, .int 3, .int 3, .int 1] M := by
  refine c_of ([some (.ref h), some (.int 3), some (.int 3), some (.int 1), none, none] : Lo) RX11 "sum" (by decide) rfl rfl (Nat.le_of_ble_eq_true rfl) rfl (fun p e s m below meth c hC nw => ?_)
  have u1 := hA.1.1
  have u2 := hA.1.2.1
  have u3 := hA.1.2.2.1
  have u4 := hA.1.2.2.2.1
  have hwz := wz_31 hW (wf_276 hW ht)
  have loop : ∀ (k i : Nat), i + k = 9 → i ≤ n_f u → V p l e (rmk 3 65 0 0) s m ([.ref h, .int 3, .int 3, .int 1] : List Value).toArray below meth c 6 G (MQ below (Qi G (fun r M2 => r = sm (T_wd u) (n_f u) ∧ M2 = M)) ([.ref h, .int 3, .int 3, .int 1] : List Value).toArray s 0 0 (fr_ G)) M 0 0 6 ([some (.ref h), some (.int 3), some (.int 3), some (.int 1), some (.int (sm (T_wd u) i)), some (.int (nI i))] : Lo) [] := by
    intro k
    induction k with
    | zero => intro i w1 w2; omega
    | succ k ih =>
      intro i w1 w2
      refine v_iload hC dX11_sum_6 rfl ?_
      refine v_i2l hC dX11_sum_8 ?_
      rw [nI_l (by omega)]
      refine v_aload_n hC dX11_sum_9 rfl rfl ?_
      refine gf_11_0 hC ht (wf_276 hW ht) mw_4_120 dX11_sum_10 ?_
      refine v_iconst (v := 0) hC dX11_sum_13 (by decide) ?_
      refine v_lald 31 hC (wf_276 hW ht) (by decide) (by decide) (ix_q (j := 0) hwz rfl) dX11_sum_14 ?_
      rw [show m_l M 31 (m_r M 276 h 0) (0) = _ from hA.c0]
      refine v_lcmp hC dX11_sum_15 ?_
      refine v_if_ge hC dX11_sum_16 (tgt := 79) (by decide) (fun h16 => ?_) (fun h16 => ?_)
      · have hi := lc_ge h16
        refine v_iload hC dX11_sum_79 rfl ?_
        refine v_iret hC dX11_sum_81 ?_
        have hie : i = n_f u := by omega
        subst hie
        exact ⟨rfl, rfl⟩
      · have hi := lc_lt h16
        refine v_aload_n hC dX11_sum_19 rfl rfl ?_
        refine v_iload hC dX11_sum_20 rfl ?_
        refine cVi1 hC (c_X11_state hW ht hA hi) yv_X11_state rfl ht mw_5_11 ⟨Nat.le_of_ble_eq_true rfl, Nat.le_of_ble_eq_true rfl⟩ ⟨Nat.le_of_ble_eq_true rfl, Nat.le_of_ble_eq_true rfl⟩ (Nat.le_of_ble_eq_true rfl) dX11_sum_22 (fun r22 M24 hq => ?_)
        obtain ⟨rfl, hm⟩ := hq
        have hm2 := hm.symm
        clear hm
        subst hm2
        refine v_iload_n hC dX11_sum_25 rfl rfl ?_
        refine v_iload_n hC dX11_sum_26 rfl rfl ?_
        refine cSi3 hC (c_X11_in ) ys_X11_in mw_4_181 ⟨Nat.le_of_ble_eq_true rfl, Nat.le_of_ble_eq_true rfl⟩ ⟨Nat.le_of_ble_eq_true rfl, Nat.le_of_ble_eq_true rfl⟩ (Nat.le_of_ble_eq_true rfl) dX11_sum_27 (fun r27 M29 hq => ?_)
        obtain ⟨hm, hq2⟩ := hq
        have hm2 := hm.symm
        clear hm
        subst hm2
        obtain ⟨g27, rfl⟩ | ⟨g27, rfl⟩ := hq2
        · refine v_if_eq hC dX11_sum_30 (tgt := 73) (by decide) (fun hx => absurd hx (by decide)) (fun _ => ?_)
          refine v_iload hC dX11_sum_33 rfl ?_
          refine v_iload_n hC dX11_sum_35 rfl rfl ?_
          refine v_if_ne hC dX11_sum_36 (tgt := 43) (by decide) (fun _ => ?_) (fun hx => absurd hx (by decide))
          refine v_iload_n hC dX11_sum_43 rfl rfl ?_
          refine v_iconst (v := 1) hC dX11_sum_44 (by decide) ?_
          refine v_icmp_ne hC dX11_sum_45 (tgt := 57) (by decide) (fun hx => absurd hx (by decide)) (fun _ => ?_)
          refine v_aload_n hC dX11_sum_48 rfl rfl ?_
          refine v_iload hC dX11_sum_49 rfl ?_
          refine cVi1 hC (c_X11_words hW ht hA hi) yv_X11_words rfl ht mw_5_173 ⟨Nat.le_of_ble_eq_true rfl, Nat.le_of_ble_eq_true rfl⟩ ⟨Nat.le_of_ble_eq_true rfl, Nat.le_of_ble_eq_true rfl⟩ (Nat.le_of_ble_eq_true rfl) dX11_sum_51 (fun r51 M53 hq => ?_)
          obtain ⟨rfl, hm⟩ := hq
          have hm2 := hm.symm
          clear hm
          subst hm2
          refine v_goto hC dX11_sum_54 (tgt := 70) (by decide) ?_
          refine v_iadd hC dX11_sum_70 ?_
          rw [show sm (T_wd u) i + w_f u i = sm (T_wd u) (i + 1) from by rw [sm_s, T_wd, if_pos (i33.mp g27)]]
          refine v_ist4 hC dX11_sum_71 (by decide) (kk := ?_)
          first
            | rw [show sm (T_wd u) i = sm (T_wd u) (i + 1) from by rw [sm_s, T_wd, if_neg (fun q => g27 (i33.mpr q)), Int32.add_zero]]
            | skip
          refine v_inc5 hC dX11_sum_73 ((nI_succ i).symm) (by decide) (kk := ?_)
          refine v_goto hC dX11_sum_76 (tgt := 6) (by decide) ?_
          exact ih (i + 1) (by omega) (by omega)
        · refine v_if_eq hC dX11_sum_30 (tgt := 73) (by decide) (fun _ => ?_) (fun hx => absurd hx (by decide))
          first
            | rw [show sm (T_wd u) i = sm (T_wd u) (i + 1) from by rw [sm_s, T_wd, if_neg (fun q => g27 (i33.mpr q)), Int32.add_zero]]
            | skip
          refine v_inc5 hC dX11_sum_73 ((nI_succ i).symm) (by decide) (kk := ?_)
          refine v_goto hC dX11_sum_76 (tgt := 6) (by decide) ?_
          exact ih (i + 1) (by omega) (by omega)
  refine v_iconst (v := 0) hC dX11_sum_0 (by decide) ?_
  refine v_ist4 hC dX11_sum_1 (by decide) (kk := ?_)
  refine v_iconst (v := 0) hC dX11_sum_3 (by decide) ?_
  refine v_ist5 hC dX11_sum_4 (by decide) (kk := ?_)
  exact loop 9 0 (by omega) (by omega)

set_option maxHeartbeats 4000000 in
set_option maxRecDepth 100000 in
theorem c_X11_sum_nt {l : Launch} {G : Gd} {M : Me} {h : Nat} {u : Si} (hW : Wt M) (ht : m_t M h = 12) (hA : LA (rwM M h) u) (hS : WfS u) (hT : WfT u) : CQ (Qi G (fun r M2 => r = sm (T_nt u) (n_f u) ∧ M2 = M)) l G yX11_sum cX11_sum 6 ((some .int)) 3 65 0 0 [.ref h, .int 0, .int 2, .int 2] M := by
  refine c_of ([some (.ref h), some (.int 0), some (.int 2), some (.int 2), none, none] : Lo) RX11 "sum" (by decide) rfl rfl (Nat.le_of_ble_eq_true rfl) rfl (fun p e s m below meth c hC nw => ?_)
  have u1 := hA.1.1
  have u2 := hA.1.2.1
  have u3 := hA.1.2.2.1
  have u4 := hA.1.2.2.2.1
  have hwz := wz_31 hW (wf_276 hW ht)
  have loop : ∀ (k i : Nat), i + k = 9 → i ≤ n_f u → V p l e (rmk 3 65 0 0) s m ([.ref h, .int 0, .int 2, .int 2] : List Value).toArray below meth c 6 G (MQ below (Qi G (fun r M2 => r = sm (T_nt u) (n_f u) ∧ M2 = M)) ([.ref h, .int 0, .int 2, .int 2] : List Value).toArray s 0 0 (fr_ G)) M 0 0 6 ([some (.ref h), some (.int 0), some (.int 2), some (.int 2), some (.int (sm (T_nt u) i)), some (.int (nI i))] : Lo) [] := by
    intro k
    induction k with
    | zero => intro i w1 w2; omega
    | succ k ih =>
      intro i w1 w2
      refine v_iload hC dX11_sum_6 rfl ?_
      refine v_i2l hC dX11_sum_8 ?_
      rw [nI_l (by omega)]
      refine v_aload_n hC dX11_sum_9 rfl rfl ?_
      refine gf_11_0 hC ht (wf_276 hW ht) mw_4_120 dX11_sum_10 ?_
      refine v_iconst (v := 0) hC dX11_sum_13 (by decide) ?_
      refine v_lald 31 hC (wf_276 hW ht) (by decide) (by decide) (ix_q (j := 0) hwz rfl) dX11_sum_14 ?_
      rw [show m_l M 31 (m_r M 276 h 0) (0) = _ from hA.c0]
      refine v_lcmp hC dX11_sum_15 ?_
      refine v_if_ge hC dX11_sum_16 (tgt := 79) (by decide) (fun h16 => ?_) (fun h16 => ?_)
      · have hi := lc_ge h16
        refine v_iload hC dX11_sum_79 rfl ?_
        refine v_iret hC dX11_sum_81 ?_
        have hie : i = n_f u := by omega
        subst hie
        exact ⟨rfl, rfl⟩
      · have hi := lc_lt h16
        refine v_aload_n hC dX11_sum_19 rfl rfl ?_
        refine v_iload hC dX11_sum_20 rfl ?_
        refine cVi1 hC (c_X11_state hW ht hA hi) yv_X11_state rfl ht mw_5_11 ⟨Nat.le_of_ble_eq_true rfl, Nat.le_of_ble_eq_true rfl⟩ ⟨Nat.le_of_ble_eq_true rfl, Nat.le_of_ble_eq_true rfl⟩ (Nat.le_of_ble_eq_true rfl) dX11_sum_22 (fun r22 M24 hq => ?_)
        obtain ⟨rfl, hm⟩ := hq
        have hm2 := hm.symm
        clear hm
        subst hm2
        refine v_iload_n hC dX11_sum_25 rfl rfl ?_
        refine v_iload_n hC dX11_sum_26 rfl rfl ?_
        refine cSi3 hC (c_X11_in ) ys_X11_in mw_4_181 ⟨Nat.le_of_ble_eq_true rfl, Nat.le_of_ble_eq_true rfl⟩ ⟨Nat.le_of_ble_eq_true rfl, Nat.le_of_ble_eq_true rfl⟩ (Nat.le_of_ble_eq_true rfl) dX11_sum_27 (fun r27 M29 hq => ?_)
        obtain ⟨hm, hq2⟩ := hq
        have hm2 := hm.symm
        clear hm
        subst hm2
        obtain ⟨g27, rfl⟩ | ⟨g27, rfl⟩ := hq2
        · refine v_if_eq hC dX11_sum_30 (tgt := 73) (by decide) (fun hx => absurd hx (by decide)) (fun _ => ?_)
          refine v_iload hC dX11_sum_33 rfl ?_
          refine v_iload_n hC dX11_sum_35 rfl rfl ?_
          refine v_if_ne hC dX11_sum_36 (tgt := 43) (by decide) (fun _ => ?_) (fun hx => absurd hx (by decide))
          refine v_iload_n hC dX11_sum_43 rfl rfl ?_
          refine v_iconst (v := 1) hC dX11_sum_44 (by decide) ?_
          refine v_icmp_ne hC dX11_sum_45 (tgt := 57) (by decide) (fun _ => ?_) (fun hx => absurd hx (by decide))
          refine v_aload_n hC dX11_sum_57 rfl rfl ?_
          refine v_iload hC dX11_sum_58 rfl ?_
          refine cVi1 hC (c_X11_many hW ht hA hi) yv_X11_many rfl ht mw_5_15 ⟨Nat.le_of_ble_eq_true rfl, Nat.le_of_ble_eq_true rfl⟩ ⟨Nat.le_of_ble_eq_true rfl, Nat.le_of_ble_eq_true rfl⟩ (Nat.le_of_ble_eq_true rfl) dX11_sum_60 (fun r60 M62 hq => ?_)
          obtain ⟨rfl, hm⟩ := hq
          have hm2 := hm.symm
          clear hm
          subst hm2
          refine v_aload_n hC dX11_sum_63 rfl rfl ?_
          refine v_iload hC dX11_sum_64 rfl ?_
          refine cVi1 hC (c_X11_withTarget hW ht hA hT hi) yv_X11_withTarget rfl ht mw_5_64 ⟨Nat.le_of_ble_eq_true rfl, Nat.le_of_ble_eq_true rfl⟩ ⟨Nat.le_of_ble_eq_true rfl, Nat.le_of_ble_eq_true rfl⟩ (Nat.le_of_ble_eq_true rfl) dX11_sum_66 (fun r66 M68 hq => ?_)
          obtain ⟨rfl, hm⟩ := hq
          have hm2 := hm.symm
          clear hm
          subst hm2
          refine v_isub hC dX11_sum_69 ?_
          rw [show nI (n_s u i) - (nI (n_s u i) - y_f u 0 i) = y_f u 0 i from i_ssub _ _]
          refine v_iadd hC dX11_sum_70 ?_
          rw [show sm (T_nt u) i + y_f u 0 i = sm (T_nt u) (i + 1) from by rw [sm_s, T_nt, if_pos ((iH_in hS hi).mp g27)]]
          refine v_ist4 hC dX11_sum_71 (by decide) (kk := ?_)
          first
            | rw [show sm (T_nt u) i = sm (T_nt u) (i + 1) from by rw [sm_s, T_nt, if_neg (fun q => g27 ((iH_in hS hi).mpr q)), Int32.add_zero]]
            | skip
          refine v_inc5 hC dX11_sum_73 ((nI_succ i).symm) (by decide) (kk := ?_)
          refine v_goto hC dX11_sum_76 (tgt := 6) (by decide) ?_
          exact ih (i + 1) (by omega) (by omega)
        · refine v_if_eq hC dX11_sum_30 (tgt := 73) (by decide) (fun _ => ?_) (fun hx => absurd hx (by decide))
          first
            | rw [show sm (T_nt u) i = sm (T_nt u) (i + 1) from by rw [sm_s, T_nt, if_neg (fun q => g27 ((iH_in hS hi).mpr q)), Int32.add_zero]]
            | skip
          refine v_inc5 hC dX11_sum_73 ((nI_succ i).symm) (by decide) (kk := ?_)
          refine v_goto hC dX11_sum_76 (tgt := 6) (by decide) ?_
          exact ih (i + 1) (by omega) (by omega)
  refine v_iconst (v := 0) hC dX11_sum_0 (by decide) ?_
  refine v_ist4 hC dX11_sum_1 (by decide) (kk := ?_)
  refine v_iconst (v := 0) hC dX11_sum_3 (by decide) ?_
  refine v_ist5 hC dX11_sum_4 (by decide) (kk := ?_)
  exact loop 9 0 (by omega) (by omega)

set_option maxHeartbeats 4000000 in
set_option maxRecDepth 100000 in
theorem c_X11_allPaid {l : Launch} {G : Gd} {M : Me} {h : Nat} {u : Si} (hW : Wt M) (ht : m_t M h = 12) (hA : LA (rwM M h) u) (hK : WfK u) (hP : LPd (rwM M h) u) : CQ (Qi G (fun r M2 => r = sm (T_pd u) (n_f u) ∧ M2 = M)) l G yX11_allPaid cX11_allPaid 3 ((some .int)) 1 21 0 0 [.ref h] M := by
  refine c_of ([some (.ref h), none, none] : Lo) RX11 "allPaid" (by decide) rfl rfl (Nat.le_of_ble_eq_true rfl) rfl (fun p e s m below meth c hC nw => ?_)
  have u1 := hA.1.1
  have u2 := hA.1.2.1
  have u3 := hA.1.2.2.1
  have u4 := hA.1.2.2.2.1
  have hwz := wz_31 hW (wf_276 hW ht)
  have loop : ∀ (k i : Nat), i + k = 7 → i ≤ n_p u → V p l e (rmk 1 21 0 0) s m ([.ref h] : List Value).toArray below meth c 3 G (MQ below (Qi G (fun r M2 => r = sm (T_pd u) (n_f u) ∧ M2 = M)) ([.ref h] : List Value).toArray s 0 0 (fr_ G)) M 0 0 4 ([some (.ref h), some (.int (sm (paid u) i)), some (.int (nI i))] : Lo) [] := by
    intro k
    induction k with
    | zero => intro i w1 w2; omega
    | succ k ih =>
      intro i w1 w2
      refine v_iload_n hC dX11_allPaid_4 rfl rfl ?_
      refine v_i2l hC dX11_allPaid_5 ?_
      rw [nI_l (by omega)]
      refine v_aload_n hC dX11_allPaid_6 rfl rfl ?_
      refine gf_11_0 hC ht (wf_276 hW ht) mw_4_120 dX11_allPaid_7 ?_
      refine v_iconst (v := 1) hC dX11_allPaid_10 (by decide) ?_
      refine v_lald 31 hC (wf_276 hW ht) (by decide) (by decide) (ix_q (j := 1) hwz rfl) dX11_allPaid_11 ?_
      rw [show m_l M 31 (m_r M 276 h 0) (1) = _ from hA.c1]
      refine v_lcmp hC dX11_allPaid_12 ?_
      refine v_if_ge hC dX11_allPaid_13 (tgt := 36) (by decide) (fun h13 => ?_) (fun h13 => ?_)
      · have hi := lc_ge h13
        refine v_iload_n hC dX11_allPaid_36 rfl rfl ?_
        refine v_iret hC dX11_allPaid_37 ?_
        have hie : i = n_p u := by omega
        subst hie
        exact ⟨paid_all hK (by omega), rfl⟩
      · have hi := lc_lt h13
        refine v_iload_n hC dX11_allPaid_16 rfl rfl ?_
        refine v_aload_n hC dX11_allPaid_17 rfl rfl ?_
        refine v_aload_n hC dX11_allPaid_18 rfl rfl ?_
        refine v_iload_n hC dX11_allPaid_19 rfl rfl ?_
        refine cVi1 hC (c_X11_personBy ht) yv_X11_personBy rfl ht mw_4_185 ⟨Nat.le_of_ble_eq_true rfl, Nat.le_of_ble_eq_true rfl⟩ ⟨Nat.le_of_ble_eq_true rfl, Nat.le_of_ble_eq_true rfl⟩ (Nat.le_of_ble_eq_true rfl) dX11_allPaid_20 (fun r20 M22 hq => ?_)
        obtain ⟨rfl, hm⟩ := hq
        have hm2 := hm.symm
        clear hm
        subst hm2
        refine v_iconst (v := 3) hC dX11_allPaid_23 (by decide) ?_
        refine v_iadd hC dX11_allPaid_24 ?_
        rw [show nI (74 + 7 * i) + 3 = nI (74 + 7 * i + 3) from nI_add _ 3]
        refine cVi1 hC (c_X11_number hW ht (by omega)) yv_X11_number rfl ht mw_4_165 ⟨Nat.le_of_ble_eq_true rfl, Nat.le_of_ble_eq_true rfl⟩ ⟨Nat.le_of_ble_eq_true rfl, Nat.le_of_ble_eq_true rfl⟩ (Nat.le_of_ble_eq_true rfl) dX11_allPaid_25 (fun r25 M27 hq => ?_)
        obtain ⟨rfl, hm⟩ := hq
        have hm2 := hm.symm
        clear hm
        subst hm2
        rw [show rwM M h (74 + 7 * i + 3) = rwM M h (pl 20 i 0) from congrArg _ (by simp [pl, pB_, pA_, pJ_]; omega), (hP i hi).1]
        refine v_iadd hC dX11_allPaid_28 ?_
        rw [show sm (paid u) i + paid u i = sm (paid u) (i + 1) from rfl]
        refine v_ist1 hC dX11_allPaid_29 (by decide) (kk := ?_)
        refine v_inc2 hC dX11_allPaid_30 ((nI_succ i).symm) (by decide) (kk := ?_)
        refine v_goto hC dX11_allPaid_33 (tgt := 4) (by decide) ?_
        exact ih (i + 1) (by omega) (by omega)
  refine v_iconst (v := 0) hC dX11_allPaid_0 (by decide) ?_
  refine v_ist1 hC dX11_allPaid_1 (by decide) (kk := ?_)
  refine v_iconst (v := 0) hC dX11_allPaid_2 (by decide) ?_
  refine v_ist2 hC dX11_allPaid_3 (by decide) (kk := ?_)
  exact loop 7 0 (by omega) (by omega)

set_option maxHeartbeats 4000000 in
set_option maxRecDepth 100000 in
theorem c_X11_allInWay {l : Launch} {G : Gd} {M : Me} {h : Nat} {u : Si} {x : Int32} (hW : Wt M) (ht : m_t M h = 12) (hA : LA (rwM M h) u) : CQ (Qi G (fun r M2 => r = sm (y_f u x) (n_f u) ∧ M2 = M)) l G yX11_allInWay cX11_allInWay 4 ((some .int)) 3 66 0 0 [.ref h, .int x] M := by
  refine c_of ([some (.ref h), some (.int x), none, none] : Lo) RX11 "allInWay" (by decide) rfl rfl (Nat.le_of_ble_eq_true rfl) rfl (fun p e s m below meth c hC nw => ?_)
  have u1 := hA.1.1
  have u2 := hA.1.2.1
  have u3 := hA.1.2.2.1
  have u4 := hA.1.2.2.2.1
  have hwz := wz_31 hW (wf_276 hW ht)
  have loop : ∀ (k i : Nat), i + k = 9 → i ≤ n_f u → V p l e (rmk 3 66 0 0) s m ([.ref h, .int x] : List Value).toArray below meth c 4 G (MQ below (Qi G (fun r M2 => r = sm (y_f u x) (n_f u) ∧ M2 = M)) ([.ref h, .int x] : List Value).toArray s 0 0 (fr_ G)) M 0 0 4 ([some (.ref h), some (.int x), some (.int (sm (y_f u x) i)), some (.int (nI i))] : Lo) [] := by
    intro k
    induction k with
    | zero => intro i w1 w2; omega
    | succ k ih =>
      intro i w1 w2
      refine v_iload_n hC dX11_allInWay_4 rfl rfl ?_
      refine v_i2l hC dX11_allInWay_5 ?_
      rw [nI_l (by omega)]
      refine v_aload_n hC dX11_allInWay_6 rfl rfl ?_
      refine gf_11_0 hC ht (wf_276 hW ht) mw_4_120 dX11_allInWay_7 ?_
      refine v_iconst (v := 0) hC dX11_allInWay_10 (by decide) ?_
      refine v_lald 31 hC (wf_276 hW ht) (by decide) (by decide) (ix_q (j := 0) hwz rfl) dX11_allInWay_11 ?_
      rw [show m_l M 31 (m_r M 276 h 0) (0) = _ from hA.c0]
      refine v_lcmp hC dX11_allInWay_12 ?_
      refine v_if_ge hC dX11_allInWay_13 (tgt := 31) (by decide) (fun h13 => ?_) (fun h13 => ?_)
      · have hi := lc_ge h13
        refine v_iload_n hC dX11_allInWay_31 rfl rfl ?_
        refine v_iret hC dX11_allInWay_32 ?_
        have hie : i = n_f u := by omega
        subst hie
        exact ⟨rfl, rfl⟩
      · have hi := lc_lt h13
        refine v_iload_n hC dX11_allInWay_16 rfl rfl ?_
        refine v_aload_n hC dX11_allInWay_17 rfl rfl ?_
        refine v_iload_n hC dX11_allInWay_18 rfl rfl ?_
        refine v_iload_n hC dX11_allInWay_19 rfl rfl ?_
        refine cVi2 hC (c_X11_inWay hW ht hA hi) yv_X11_inWay rfl ht mw_5_160 ⟨Nat.le_of_ble_eq_true rfl, Nat.le_of_ble_eq_true rfl⟩ ⟨Nat.le_of_ble_eq_true rfl, Nat.le_of_ble_eq_true rfl⟩ (Nat.le_of_ble_eq_true rfl) dX11_allInWay_20 (fun r20 M22 hq => ?_)
        obtain ⟨rfl, hm⟩ := hq
        have hm2 := hm.symm
        clear hm
        subst hm2
        refine v_iadd hC dX11_allInWay_23 ?_
        rw [show sm (y_f u x) i + y_f u x i = sm (y_f u x) (i + 1) from rfl]
        refine v_ist2 hC dX11_allInWay_24 (by decide) (kk := ?_)
        refine v_inc3 hC dX11_allInWay_25 ((nI_succ i).symm) (by decide) (kk := ?_)
        refine v_goto hC dX11_allInWay_28 (tgt := 4) (by decide) ?_
        exact ih (i + 1) (by omega) (by omega)
  refine v_iconst (v := 0) hC dX11_allInWay_0 (by decide) ?_
  refine v_ist2 hC dX11_allInWay_1 (by decide) (kk := ?_)
  refine v_iconst (v := 0) hC dX11_allInWay_2 (by decide) ?_
  refine v_ist3 hC dX11_allInWay_3 (by decide) (kk := ?_)
  exact loop 9 0 (by omega) (by omega)

set_option maxHeartbeats 4000000 in
set_option maxRecDepth 100000 in
theorem c_X11_likeEntry {l : Launch} {G : Gd} {M : Me} {h e1 : Nat} {u : Si} (hW : Wt M) (ht : m_t M h = 12) (hA : LA (rwM M h) u) (hS : WfS u) (he : e1 < n_e u) : CQ (Qi G (fun r M2 => r = sm (T_al u (q_g u 1 e1 0)) (n_f u) ∧ M2 = M)) l G yX11_likeEntry cX11_likeEntry 5 ((some .int)) 3 63 0 0 [.ref h, .int (nI e1)] M := by
  refine c_of ([some (.ref h), some (.int (nI e1)), none, none, none] : Lo) RX11 "likeEntry" (by decide) rfl rfl (Nat.le_of_ble_eq_true rfl) rfl (fun p e s m below meth c hC nw => ?_)
  have u1 := hA.1.1
  have u2 := hA.1.2.1
  have u3 := hA.1.2.2.1
  have u4 := hA.1.2.2.2.1
  have hwz := wz_31 hW (wf_276 hW ht)
  have loopB : ∀ (i : Nat), i < n_f u → V p l e (rmk 3 63 0 0) s m ([.ref h, .int (nI e1)] : List Value).toArray below meth c 5 G (MQ below (Qi G (fun r M2 => r = sm (T_al u (q_g u 1 e1 0)) (n_f u) ∧ M2 = M)) ([.ref h, .int (nI e1)] : List Value).toArray s 0 0 (fr_ G)) M 0 0 70 ([some (.ref h), some (.int (nI e1)), some (.int (sm (T_al u (q_g u 1 e1 0)) (i + 1))), some (.int (nI i)), none] : Lo) [] → ∀ (k j : Nat), j + k = 13 → j ≤ n_s u i → V p l e (rmk 3 63 0 0) s m ([.ref h, .int (nI e1)] : List Value).toArray below meth c 5 G (MQ below (Qi G (fun r M2 => r = sm (T_al u (q_g u 1 e1 0)) (n_f u) ∧ M2 = M)) ([.ref h, .int (nI e1)] : List Value).toArray s 0 0 (fr_ G)) M 0 0 19 ([some (.ref h), some (.int (nI e1)), some (.int (sm (T_al u (q_g u 1 e1 0)) i + (if iH u i then sm (f_lk (q_g u 0 i) (q_g u 1 e1 0)) j else 0))), some (.int (nI i)), some (.int (nI j))] : Lo) [] := by
    intro i hi cont k
    have h12i := hA.1.2.2.2.2 i hi
    induction k with
    | zero => intro j w1 w2; omega
    | succ k ih =>
      intro j w1 w2
      refine v_iload hC dX11_likeEntry_19 rfl ?_
      refine v_aload_n hC dX11_likeEntry_21 rfl rfl ?_
      refine v_iload_n hC dX11_likeEntry_22 rfl rfl ?_
      refine cVi1 hC (c_X11_many hW ht hA hi) yv_X11_many rfl ht mw_5_15 ⟨Nat.le_of_ble_eq_true rfl, Nat.le_of_ble_eq_true rfl⟩ ⟨Nat.le_of_ble_eq_true rfl, Nat.le_of_ble_eq_true rfl⟩ (Nat.le_of_ble_eq_true rfl) dX11_likeEntry_23 (fun r23 M25 hq => ?_)
      obtain ⟨rfl, hm⟩ := hq
      have hm2 := hm.symm
      clear hm
      subst hm2
      refine v_icmp_ge hC dX11_likeEntry_26 (tgt := 70) (by decide) (fun h26 => ?_) (fun h26 => ?_)
      · have hj := lp_ge h26
        have hfin : sm (T_al u (q_g u 1 e1 0)) i + (if iH u i then sm (f_lk (q_g u 0 i) (q_g u 1 e1 0)) j else 0) = sm (T_al u (q_g u 1 e1 0)) (i + 1) := by
          rw [sm_s, T_al, a_f]
          first
            | rw [if_neg g31]; rw [if_neg g31]
            | (have hje : j = n_s u i := by omega
               rw [hje])
        refine v_drop 4 ?_
        rw [hfin]
        exact cont
      · have hj := lp_lt h26
        refine v_aload_n hC dX11_likeEntry_29 rfl rfl ?_
        refine v_iload_n hC dX11_likeEntry_30 rfl rfl ?_
        refine cVi1 hC (c_X11_isInHand hW ht hA hS hi) yv_X11_isInHand rfl ht mw_5_59 ⟨Nat.le_of_ble_eq_true rfl, Nat.le_of_ble_eq_true rfl⟩ ⟨Nat.le_of_ble_eq_true rfl, Nat.le_of_ble_eq_true rfl⟩ (Nat.le_of_ble_eq_true rfl) dX11_likeEntry_31 (fun r31 M33 hq => ?_)
        obtain ⟨hm, hq2⟩ := hq
        have hm2 := hm.symm
        clear hm
        subst hm2
        obtain ⟨g31, rfl⟩ | ⟨g31, rfl⟩ := hq2
        · refine v_if_eq hC dX11_likeEntry_34 (tgt := 70) (by decide) (fun hx => absurd hx (by decide)) (fun _ => ?_)
          refine v_iload_n hC dX11_likeEntry_37 rfl rfl ?_
          refine v_aload_n hC dX11_likeEntry_38 rfl rfl ?_
          refine v_aload_n hC dX11_likeEntry_39 rfl rfl ?_
          refine v_iload_n hC dX11_likeEntry_40 rfl rfl ?_
          refine v_iload hC dX11_likeEntry_41 rfl ?_
          refine cVi2 hC (c_X11_segmentAt ht) yv_X11_segmentAt rfl ht mw_5_19 ⟨Nat.le_of_ble_eq_true rfl, Nat.le_of_ble_eq_true rfl⟩ ⟨Nat.le_of_ble_eq_true rfl, Nat.le_of_ble_eq_true rfl⟩ (Nat.le_of_ble_eq_true rfl) dX11_likeEntry_43 (fun r43 M45 hq => ?_)
          obtain ⟨rfl, hm⟩ := hq
          have hm2 := hm.symm
          clear hm
          subst hm2
          refine v_aload_n hC dX11_likeEntry_46 rfl rfl ?_
          refine v_iload_n hC dX11_likeEntry_47 rfl rfl ?_
          refine cVi1 hC (c_X11_entryAt ht) yv_X11_entryAt rfl ht mw_5_35 ⟨Nat.le_of_ble_eq_true rfl, Nat.le_of_ble_eq_true rfl⟩ ⟨Nat.le_of_ble_eq_true rfl, Nat.le_of_ble_eq_true rfl⟩ (Nat.le_of_ble_eq_true rfl) dX11_likeEntry_48 (fun r48 M50 hq => ?_)
          obtain ⟨rfl, hm⟩ := hq
          have hm2 := hm.symm
          clear hm
          subst hm2
          refine cVi2 hC (c_X11_areAlike hW ht (hA.sg hi hj) (hA.eg he) (by omega) (by omega)) yv_X11_areAlike rfl ht mw_5_92 ⟨Nat.le_of_ble_eq_true rfl, Nat.le_of_ble_eq_true rfl⟩ ⟨Nat.le_of_ble_eq_true rfl, Nat.le_of_ble_eq_true rfl⟩ (Nat.le_of_ble_eq_true rfl) dX11_likeEntry_51 (fun r51 M53 hq => ?_)
          obtain ⟨hm, hq2⟩ := hq
          have hm2 := hm.symm
          clear hm
          subst hm2
          obtain ⟨g51, rfl⟩ | ⟨g51, rfl⟩ := hq2
          · refine v_if_eq hC dX11_likeEntry_54 (tgt := 61) (by decide) (fun hx => absurd hx (by decide)) (fun _ => ?_)
            refine v_iconst (v := 1) hC dX11_likeEntry_57 (by decide) ?_
            refine v_goto hC dX11_likeEntry_58 (tgt := 62) (by decide) ?_
            refine v_iadd hC dX11_likeEntry_62 ?_
            rw [if_pos g31]
            first
              | rw [show sm (T_al u (q_g u 1 e1 0)) i + sm (f_lk (q_g u 0 i) (q_g u 1 e1 0)) j + 0 = sm (T_al u (q_g u 1 e1 0)) i + (if iH u i then sm (f_lk (q_g u 0 i) (q_g u 1 e1 0)) (j + 1) else 0) from by rw [if_pos g31, sm_s, f_lk, if_neg g51, Int32.add_zero, Int32.add_zero]]
              | rw [show sm (T_al u (q_g u 1 e1 0)) i + sm (f_lk (q_g u 0 i) (q_g u 1 e1 0)) j + 1 = sm (T_al u (q_g u 1 e1 0)) i + (if iH u i then sm (f_lk (q_g u 0 i) (q_g u 1 e1 0)) (j + 1) else 0) from by rw [if_pos g31, sm_s, f_lk, if_pos g51, Int32.add_assoc]]
            refine v_ist2 hC dX11_likeEntry_63 (by decide) (kk := ?_)
            refine v_inc4 hC dX11_likeEntry_64 ((nI_succ j).symm) (by decide) (kk := ?_)
            refine v_goto hC dX11_likeEntry_67 (tgt := 19) (by decide) ?_
            exact ih (j + 1) (by omega) (by omega)
          · refine v_if_eq hC dX11_likeEntry_54 (tgt := 61) (by decide) (fun _ => ?_) (fun hx => absurd hx (by decide))
            refine v_iconst (v := 0) hC dX11_likeEntry_61 (by decide) ?_
            refine v_iadd hC dX11_likeEntry_62 ?_
            rw [if_pos g31]
            first
              | rw [show sm (T_al u (q_g u 1 e1 0)) i + sm (f_lk (q_g u 0 i) (q_g u 1 e1 0)) j + 0 = sm (T_al u (q_g u 1 e1 0)) i + (if iH u i then sm (f_lk (q_g u 0 i) (q_g u 1 e1 0)) (j + 1) else 0) from by rw [if_pos g31, sm_s, f_lk, if_neg g51, Int32.add_zero, Int32.add_zero]]
              | rw [show sm (T_al u (q_g u 1 e1 0)) i + sm (f_lk (q_g u 0 i) (q_g u 1 e1 0)) j + 1 = sm (T_al u (q_g u 1 e1 0)) i + (if iH u i then sm (f_lk (q_g u 0 i) (q_g u 1 e1 0)) (j + 1) else 0) from by rw [if_pos g31, sm_s, f_lk, if_pos g51, Int32.add_assoc]]
            refine v_ist2 hC dX11_likeEntry_63 (by decide) (kk := ?_)
            refine v_inc4 hC dX11_likeEntry_64 ((nI_succ j).symm) (by decide) (kk := ?_)
            refine v_goto hC dX11_likeEntry_67 (tgt := 19) (by decide) ?_
            exact ih (j + 1) (by omega) (by omega)
        · refine v_if_eq hC dX11_likeEntry_34 (tgt := 70) (by decide) (fun _ => ?_) (fun hx => absurd hx (by decide))
          have hfin : sm (T_al u (q_g u 1 e1 0)) i + (if iH u i then sm (f_lk (q_g u 0 i) (q_g u 1 e1 0)) j else 0) = sm (T_al u (q_g u 1 e1 0)) (i + 1) := by
            rw [sm_s, T_al, a_f]
            first
              | rw [if_neg g31]; rw [if_neg g31]
              | (have hje : j = n_s u i := by omega
                 rw [hje])
          refine v_drop 4 ?_
          rw [hfin]
          exact cont
  have loopA : ∀ (k i : Nat), i + k = 9 → i ≤ n_f u → V p l e (rmk 3 63 0 0) s m ([.ref h, .int (nI e1)] : List Value).toArray below meth c 5 G (MQ below (Qi G (fun r M2 => r = sm (T_al u (q_g u 1 e1 0)) (n_f u) ∧ M2 = M)) ([.ref h, .int (nI e1)] : List Value).toArray s 0 0 (fr_ G)) M 0 0 4 ([some (.ref h), some (.int (nI e1)), some (.int (sm (T_al u (q_g u 1 e1 0)) i)), some (.int (nI i)), none] : Lo) [] := by
    intro k
    induction k with
    | zero => intro i w1 w2; omega
    | succ k ih =>
      intro i w1 w2
      refine v_iload_n hC dX11_likeEntry_4 rfl rfl ?_
      refine v_i2l hC dX11_likeEntry_5 ?_
      rw [nI_l (by omega)]
      refine v_aload_n hC dX11_likeEntry_6 rfl rfl ?_
      refine gf_11_0 hC ht (wf_276 hW ht) mw_4_120 dX11_likeEntry_7 ?_
      refine v_iconst (v := 0) hC dX11_likeEntry_10 (by decide) ?_
      refine v_lald 31 hC (wf_276 hW ht) (by decide) (by decide) (ix_q (j := 0) hwz rfl) dX11_likeEntry_11 ?_
      rw [show m_l M 31 (m_r M 276 h 0) (0) = _ from hA.c0]
      refine v_lcmp hC dX11_likeEntry_12 ?_
      refine v_if_ge hC dX11_likeEntry_13 (tgt := 76) (by decide) (fun h13 => ?_) (fun h13 => ?_)
      · have hi := lc_ge h13
        refine v_iload_n hC dX11_likeEntry_76 rfl rfl ?_
        refine v_iret hC dX11_likeEntry_77 ?_
        have hie : i = n_f u := by omega
        subst hie
        exact ⟨rfl, rfl⟩
      · have hi := lc_lt h13
        refine v_iconst (v := 0) hC dX11_likeEntry_16 (by decide) ?_
        refine v_ist4 hC dX11_likeEntry_17 (by decide) (kk := ?_)
        rw [show sm (T_al u (q_g u 1 e1 0)) i = sm (T_al u (q_g u 1 e1 0)) i + (if iH u i then sm (f_lk (q_g u 0 i) (q_g u 1 e1 0)) 0 else 0) from by rw [show sm (f_lk (q_g u 0 i) (q_g u 1 e1 0)) 0 = 0 from rfl, ite_self, Int32.add_zero]]
        refine loopB i hi ?_ 13 0 (by omega) (by omega)
        refine v_inc3 hC dX11_likeEntry_70 ((nI_succ i).symm) (by decide) (kk := ?_)
        refine v_goto hC dX11_likeEntry_73 (tgt := 4) (by decide) ?_
        exact ih (i + 1) (by omega) (by omega)
  refine v_iconst (v := 0) hC dX11_likeEntry_0 (by decide) ?_
  refine v_ist2 hC dX11_likeEntry_1 (by decide) (kk := ?_)
  refine v_iconst (v := 0) hC dX11_likeEntry_2 (by decide) ?_
  refine v_ist3 hC dX11_likeEntry_3 (by decide) (kk := ?_)
  exact loopA 9 0 (by omega) (by omega)
