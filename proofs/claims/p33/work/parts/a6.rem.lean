theorem wv_inj {g g2 : Sg} (h : gSeg g) (h2 : gSeg g2) (e : ∀ a, a < 9 → wv g a = wv g2 a) : g = g2 := by
  have e0 : g.length = g2.length := (lN_eq (by have := h.2.1; omega) (by have := h2.2.1; omega)).mp (e 0 (by decide))
  exact sg_ext e0 (fun t ht => w27_inj h h2 (e (t + 1) (by have := h.2.1; omega)))
theorem drm_2 {u : Si} {t i : Nat} {tc : Nat → Int32} {x : Int32} (h : fltF tc t = some i) : d_remember u t tc x = (-100 - nI i, none) := by
  rw [d_remember, h]
theorem drm_3 {u : Si} {t : Nat} {tc : Nat → Int32} {x : Int32} (h : fltF tc t = none) : d_remember u t tc x = if ¬ tgI x ∨ 1 < (sgT tc t).length then (-2, none) else if (alN u ((sgT tc t).headD [])).isSome = true then (-4, none) else if n_e u < 40 then (nI (n_e u), some (entU u ((sgT tc t).headD []) x)) else (-3, none) := by
  rw [d_remember, h]
theorem hD_0 {gs : List Sg} : gs.getD 0 [] = gs.headD [] := by cases gs <;> rfl
theorem SgN.v {w : Nat → Int64} {g : Sg} (h : SgN w g) {i : Nat} (hi : i < 9) : w i = wv g i := (SgN_iff.mp h).2 i hi
theorem PdF.en {u : Si} {g : Sg} {t : Int32} : PdF u (entU u g t) := ⟨rfl, fun f hf => ⟨Iff.rfl, fun _ => ⟨rfl, rfl, rfl, by
  unfold w_f
  rw [show q_g (entU u g t) 0 f = q_g u 0 f from funext fun j => by
    show q_g (u_g u 1 (n_e u) 0 g) 0 f j = _
    rw [q_gu, if_neg (fun z => absurd z.1 (by decide))]]; rfl⟩⟩⟩
set_option maxHeartbeats 4000000 in
set_option maxRecDepth 100000 in
theorem c_X11_isRemembered {l : Launch} {G : Gd} {M : Me} {h : Nat} {u : Si} {g : Sg} (hW : Wt M) (ht : m_t M h = 12) (hA : LA (rwM M h) u) (hg : SgN (fun i => rdM M h i) g) : CQ (Qi G (fun r M2 => M2 = M ∧ ((alN u g).isSome = true ∧ r = 1 ∨ ¬ (alN u g).isSome = true ∧ r = 0))) l G yX11_isRemembered cX11_isRemembered 5 ((some .boolean)) 1 21 0 0 [.ref h] M := by
  refine c_of ([some (.ref h), none, none, none, none] : Lo) RX11 "isRemembered" (by decide) rfl rfl (Nat.le_of_ble_eq_true rfl) rfl (fun p e s m below meth c hC nw => ?_)
  have u1 := hA.1.1
  have u2 := hA.1.2.1
  have u3 := hA.1.2.2.1
  have u4 := hA.1.2.2.2.1
  have hwz := wz_31 hW (wf_276 hW ht)
  have loopB : ∀ (w0 : Nat) (xx : Int32), w0 < n_e u → (∀ x : Int32, ((∀ a, a < 9 → wv (q_g u 1 w0 0) a = wv g a) ∧ x = 1 ∨ ¬ (∀ a, a < 9 → wv (q_g u 1 w0 0) a = wv g a) ∧ x = 0) → V p l e (rmk 1 21 0 0) s m ([.ref h] : List Value).toArray below meth c 5 G (MQ below (Qi G (fun r M2 => M2 = M ∧ ((alN u g).isSome = true ∧ r = 1 ∨ ¬ (alN u g).isSome = true ∧ r = 0))) ([.ref h] : List Value).toArray s 0 0 (fr_ G)) M 0 0 68 ([some (.ref h), some (.int xx), some (.int (nI w0)), some (.int x), none] : Lo) []) → ∀ (j i : Nat) (x : Int32), i + j = 10 → i ≤ 9 → ((∀ a, a < i → wv (q_g u 1 w0 0) a = wv g a) ∧ x = 1 ∨ ¬ (∀ a, a < i → wv (q_g u 1 w0 0) a = wv g a) ∧ x = 0) → V p l e (rmk 1 21 0 0) s m ([.ref h] : List Value).toArray below meth c 5 G (MQ below (Qi G (fun r M2 => M2 = M ∧ ((alN u g).isSome = true ∧ r = 1 ∨ ¬ (alN u g).isSome = true ∧ r = 0))) ([.ref h] : List Value).toArray s 0 0 (fr_ G)) M 0 0 21 ([some (.ref h), some (.int xx), some (.int (nI w0)), some (.int x), some (.int (nI i))] : Lo) [] := by
    intro w0 xx hw cont j
    induction j with
    | zero => intro i x w1 w2; omega
    | succ j ih =>
      intro i x w1 w2 hQ
      refine v_iload hC dX11_isRemembered_21 rfl ?_
      refine v_bipush (v := 9) hC dX11_isRemembered_23 (by decide) ?_
      refine v_icmp_ge hC dX11_isRemembered_25 (tgt := 68) (by decide) (fun h25 => ?_) (fun h25 => ?_)
      · have hi := lp_ge (N := 9) h25
        have hie : i = 9 := by omega
        subst hie
        refine v_drop 4 ?_
        exact cont _ hQ
      · have hi := lp_lt (N := 9) h25
        refine v_iload_n hC dX11_isRemembered_28 rfl rfl ?_
        refine v_if_eq hC dX11_isRemembered_29 (tgt := 60) (by decide) (fun h29 => ?_) (fun h29 => ?_)
        · refine v_iconst (v := 0) hC dX11_isRemembered_60 (by decide) ?_
          refine v_ist3 hC dX11_isRemembered_61 (by decide) (kk := ?_)
          refine v_inc4 hC dX11_isRemembered_62 ((nI_succ i).symm) (by decide) (kk := ?_)
          refine v_goto hC dX11_isRemembered_65 (tgt := 21) (by decide) ?_
          first
            | exact ih (i + 1) 1 (by omega) (by omega) (Or.inl ⟨fun a ha => by
                by_cases q : a = i
                · rw [q]; exact h53
                · exact (hQ.elim (fun q => q.1) (fun q => absurd q.2 h29)) a (by omega), rfl⟩)
            | exact ih (i + 1) 0 (by omega) (by omega) (Or.inr ⟨fun q => h53 (q i (by omega)), rfl⟩)
            | exact ih (i + 1) 0 (by omega) (by omega) (Or.inr ⟨fun q => (hQ.elim (fun z => absurd (z.2.symm.trans h29) (by decide)) (fun z => z.1 (fun a ha => q a (by omega)))), rfl⟩)
        · refine v_aload_n hC dX11_isRemembered_32 rfl rfl ?_
          refine gf_11_0 hC ht (wf_276 hW ht) mw_4_120 dX11_isRemembered_33 ?_
          refine v_aload_n hC dX11_isRemembered_36 rfl rfl ?_
          refine v_iload_n hC dX11_isRemembered_37 rfl rfl ?_
          refine cVi1 hC (c_X11_entryAt ht) yv_X11_entryAt rfl ht mw_5_35 ⟨Nat.le_of_ble_eq_true rfl, Nat.le_of_ble_eq_true rfl⟩ ⟨Nat.le_of_ble_eq_true rfl, Nat.le_of_ble_eq_true rfl⟩ (Nat.le_of_ble_eq_true rfl) dX11_isRemembered_38 (fun r38 M40 hq => ?_)
          obtain ⟨rfl, hm⟩ := hq
          have hm2 := hm.symm
          clear hm
          subst hm2
          refine v_iload hC dX11_isRemembered_41 rfl ?_
          refine v_iadd hC dX11_isRemembered_43 ?_
          rw [nI_add]
          refine v_lald 31 hC (wf_276 hW ht) (by decide) (by decide) (ix_c hwz (by omega)) dX11_isRemembered_44 ?_
          rw [show m_l M 31 (m_r M 276 h 0) (166 + 11 * w0 + i) = wv (q_g u 1 w0 0) i from (hA.eg hw).v hi]
          refine v_aload_n hC dX11_isRemembered_45 rfl rfl ?_
          refine gf_11_7 hC ht (wf_283 hW ht) mw_4_127 dX11_isRemembered_46 ?_
          refine v_iload hC dX11_isRemembered_49 rfl ?_
          refine v_lald 34 hC (wf_283 hW ht) (by decide) (by decide) (ix_c (wz_34 hW (wf_283 hW ht)) (by omega)) dX11_isRemembered_51 ?_
          rw [show m_l M 34 (m_r M 283 h 0) i = wv g i from hg.v hi]
          refine v_lcmp hC dX11_isRemembered_52 ?_
          refine v_if_ne hC dX11_isRemembered_53 (tgt := 60) (by decide) (fun h53 => ?_) (fun h53 => ?_)
          · have h53 : ¬ wv (q_g u 1 w0 0) i = wv g i := fun q => h53 ((lg_cmp_eq _ _).mpr q)
            refine v_iconst (v := 0) hC dX11_isRemembered_60 (by decide) ?_
            refine v_ist3 hC dX11_isRemembered_61 (by decide) (kk := ?_)
            refine v_inc4 hC dX11_isRemembered_62 ((nI_succ i).symm) (by decide) (kk := ?_)
            refine v_goto hC dX11_isRemembered_65 (tgt := 21) (by decide) ?_
            first
              | exact ih (i + 1) 1 (by omega) (by omega) (Or.inl ⟨fun a ha => by
                  by_cases q : a = i
                  · rw [q]; exact h53
                  · exact (hQ.elim (fun q => q.1) (fun q => absurd q.2 h29)) a (by omega), rfl⟩)
              | exact ih (i + 1) 0 (by omega) (by omega) (Or.inr ⟨fun q => h53 (q i (by omega)), rfl⟩)
              | exact ih (i + 1) 0 (by omega) (by omega) (Or.inr ⟨fun q => (hQ.elim (fun z => absurd (z.2.symm.trans h29) (by decide)) (fun z => z.1 (fun a ha => q a (by omega)))), rfl⟩)
          · have h53 : wv (q_g u 1 w0 0) i = wv g i := (lg_cmp_eq _ _).mp h53
            refine v_iconst (v := 1) hC dX11_isRemembered_56 (by decide) ?_
            refine v_goto hC dX11_isRemembered_57 (tgt := 61) (by decide) ?_
            refine v_ist3 hC dX11_isRemembered_61 (by decide) (kk := ?_)
            refine v_inc4 hC dX11_isRemembered_62 ((nI_succ i).symm) (by decide) (kk := ?_)
            refine v_goto hC dX11_isRemembered_65 (tgt := 21) (by decide) ?_
            first
              | exact ih (i + 1) 1 (by omega) (by omega) (Or.inl ⟨fun a ha => by
                  by_cases q : a = i
                  · rw [q]; exact h53
                  · exact (hQ.elim (fun q => q.1) (fun q => absurd q.2 h29)) a (by omega), rfl⟩)
              | exact ih (i + 1) 0 (by omega) (by omega) (Or.inr ⟨fun q => h53 (q i (by omega)), rfl⟩)
              | exact ih (i + 1) 0 (by omega) (by omega) (Or.inr ⟨fun q => (hQ.elim (fun z => absurd (z.2.symm.trans h29) (by decide)) (fun z => z.1 (fun a ha => q a (by omega)))), rfl⟩)
  have loopA : ∀ (k w0 : Nat) (x : Int32), w0 + k = 41 → w0 ≤ n_e u → ((∃ a, a < w0 ∧ q_g u 1 a 0 = g) ∧ x = 1 ∨ ¬ (∃ a, a < w0 ∧ q_g u 1 a 0 = g) ∧ x = 0) → V p l e (rmk 1 21 0 0) s m ([.ref h] : List Value).toArray below meth c 5 G (MQ below (Qi G (fun r M2 => M2 = M ∧ ((alN u g).isSome = true ∧ r = 1 ∨ ¬ (alN u g).isSome = true ∧ r = 0))) ([.ref h] : List Value).toArray s 0 0 (fr_ G)) M 0 0 4 ([some (.ref h), some (.int x), some (.int (nI w0)), none, none] : Lo) [] := by
    intro k
    induction k with
    | zero => intro w0 x w1 w2; omega
    | succ k ih =>
      intro w0 x w1 w2 hP
      refine v_iload_n hC dX11_isRemembered_4 rfl rfl ?_
      refine v_i2l hC dX11_isRemembered_5 ?_
      rw [nI_l (by omega)]
      refine v_aload_n hC dX11_isRemembered_6 rfl rfl ?_
      refine gf_11_0 hC ht (wf_276 hW ht) mw_4_120 dX11_isRemembered_7 ?_
      refine v_iconst (v := 2) hC dX11_isRemembered_10 (by decide) ?_
      refine v_lald 31 hC (wf_276 hW ht) (by decide) (by decide) (ix_q (j := 2) hwz rfl) dX11_isRemembered_11 ?_
      rw [show m_l M 31 (m_r M 276 h 0) 2 = _ from hA.c2]
      refine v_lcmp hC dX11_isRemembered_12 ?_
      refine v_if_ge hC dX11_isRemembered_13 (tgt := 88) (by decide) (fun h13 => ?_) (fun h13 => ?_)
      · have hw := lc_ge h13
        refine v_iload_n hC dX11_isRemembered_88 rfl rfl ?_
        refine v_zret hC (hP.elim (fun q => Or.inr q.2) (fun q => Or.inl q.2)) dX11_isRemembered_89 ?_
        have hwe : w0 = n_e u := by omega
        have hal : (alN u g).isSome = true ↔ ∃ a, a < w0 ∧ q_g u 1 a 0 = g := by
          rw [hwe]
          rcases fsN_p (p := alB u g) (n_e u) with ⟨e9, h1, h2, h3, h4⟩ | ⟨h1, h2⟩
          · unfold alN; rw [h1]; exact ⟨fun _ => ⟨e9, h2, of_decide_eq_true h3⟩, fun _ => rfl⟩
          · unfold alN; rw [h1]; exact ⟨fun q => Bool.noConfusion q, fun ⟨a, q1, q2⟩ => absurd (decide_eq_true q2) (h2 a q1)⟩
        exact ⟨rfl, hP.elim (fun q => Or.inl ⟨hal.mpr q.1, q.2⟩) (fun q => Or.inr ⟨fun z => q.1 (hal.mp z), q.2⟩)⟩
      · have hw := lc_lt h13
        refine v_iconst (v := 1) hC dX11_isRemembered_16 (by decide) ?_
        refine v_ist3 hC dX11_isRemembered_17 (by decide) (kk := ?_)
        refine v_iconst (v := 0) hC dX11_isRemembered_18 (by decide) ?_
        refine v_ist4 hC dX11_isRemembered_19 (by decide) (kk := ?_)
        refine loopB w0 x hw (fun x2 hQ => ?_) 10 0 1 (by omega) (by omega) (Or.inl ⟨fun a ha => absurd ha (Nat.not_lt_zero a), rfl⟩)
        have i : {z : Nat // z = 9} := ⟨9, rfl⟩
        obtain ⟨i, hi0⟩ := i
        refine v_iload_n hC dX11_isRemembered_68 rfl rfl ?_
        refine v_if_ne hC dX11_isRemembered_69 (tgt := 76) (by decide) (fun h69 => ?_) (fun h69 => ?_)
        · refine v_iconst (v := 1) hC dX11_isRemembered_76 (by decide) ?_
          refine v_goto hC dX11_isRemembered_77 (tgt := 81) (by decide) ?_
          refine v_ist1 hC dX11_isRemembered_81 (by decide) (kk := ?_)
          refine v_inc2 hC dX11_isRemembered_82 ((nI_succ w0).symm) (by decide) (kk := ?_)
          refine v_goto hC dX11_isRemembered_85 (tgt := 4) (by decide) ?_
          refine v_drop 3 ?_
          refine v_drop 4 ?_
          have hi9 : i = 9 := by omega
          subst hi9
          have hal : ((∀ a, a < 9 → wv (q_g u 1 w0 0) a = wv g a) ↔ q_g u 1 w0 0 = g) := ⟨fun q => wv_inj (hA.eg hw).1 hg.1 q, fun q a _ => by rw [q]⟩
          have hst : ∀ z : Prop, (z ↔ ((∃ a, a < w0 ∧ q_g u 1 a 0 = g) ∨ q_g u 1 w0 0 = g)) → (z ↔ ∃ a, a < w0 + 1 ∧ q_g u 1 a 0 = g) := fun z hz => hz.trans ⟨fun q => q.elim (fun ⟨a, q1, q2⟩ => ⟨a, by omega, q2⟩) (fun q => ⟨w0, by omega, q⟩), fun ⟨a, q1, q2⟩ => by
            by_cases q : a = w0
            · rw [q] at q2; exact Or.inr q2
            · exact Or.inl ⟨a, by omega, q2⟩⟩
          first
            | exact ih (w0 + 1) 1 (by omega) (by omega) (Or.inl ⟨(hst True ⟨fun _ => Or.inl (hP.elim (fun q => q.1) (fun q => absurd q.2 h69)), fun _ => trivial⟩).mp trivial, rfl⟩)
            | exact ih (w0 + 1) 1 (by omega) (by omega) (Or.inl ⟨(hst True ⟨fun _ => Or.inr (hal.mp (hQ.elim (fun q => q.1) (fun q => absurd q.2 h73))), fun _ => trivial⟩).mp trivial, rfl⟩)
            | exact ih (w0 + 1) 0 (by omega) (by omega) (Or.inr ⟨fun z => ((hst _ Iff.rfl).mpr z).elim (fun w => hP.elim (fun q => absurd (q.2.symm.trans h69) (by decide)) (fun q => q.1 w)) (fun w => hQ.elim (fun q => absurd (q.2.symm.trans h73) (by decide)) (fun q => q.1 (hal.mpr w))), rfl⟩)
        · refine v_iload_n hC dX11_isRemembered_72 rfl rfl ?_
          refine v_if_eq hC dX11_isRemembered_73 (tgt := 80) (by decide) (fun h73 => ?_) (fun h73 => ?_)
          · refine v_iconst (v := 0) hC dX11_isRemembered_80 (by decide) ?_
            refine v_ist1 hC dX11_isRemembered_81 (by decide) (kk := ?_)
            refine v_inc2 hC dX11_isRemembered_82 ((nI_succ w0).symm) (by decide) (kk := ?_)
            refine v_goto hC dX11_isRemembered_85 (tgt := 4) (by decide) ?_
            refine v_drop 3 ?_
            refine v_drop 4 ?_
            have hi9 : i = 9 := by omega
            subst hi9
            have hal : ((∀ a, a < 9 → wv (q_g u 1 w0 0) a = wv g a) ↔ q_g u 1 w0 0 = g) := ⟨fun q => wv_inj (hA.eg hw).1 hg.1 q, fun q a _ => by rw [q]⟩
            have hst : ∀ z : Prop, (z ↔ ((∃ a, a < w0 ∧ q_g u 1 a 0 = g) ∨ q_g u 1 w0 0 = g)) → (z ↔ ∃ a, a < w0 + 1 ∧ q_g u 1 a 0 = g) := fun z hz => hz.trans ⟨fun q => q.elim (fun ⟨a, q1, q2⟩ => ⟨a, by omega, q2⟩) (fun q => ⟨w0, by omega, q⟩), fun ⟨a, q1, q2⟩ => by
              by_cases q : a = w0
              · rw [q] at q2; exact Or.inr q2
              · exact Or.inl ⟨a, by omega, q2⟩⟩
            first
              | exact ih (w0 + 1) 1 (by omega) (by omega) (Or.inl ⟨(hst True ⟨fun _ => Or.inl (hP.elim (fun q => q.1) (fun q => absurd q.2 h69)), fun _ => trivial⟩).mp trivial, rfl⟩)
              | exact ih (w0 + 1) 1 (by omega) (by omega) (Or.inl ⟨(hst True ⟨fun _ => Or.inr (hal.mp (hQ.elim (fun q => q.1) (fun q => absurd q.2 h73))), fun _ => trivial⟩).mp trivial, rfl⟩)
              | exact ih (w0 + 1) 0 (by omega) (by omega) (Or.inr ⟨fun z => ((hst _ Iff.rfl).mpr z).elim (fun w => hP.elim (fun q => absurd (q.2.symm.trans h69) (by decide)) (fun q => q.1 w)) (fun w => hQ.elim (fun q => absurd (q.2.symm.trans h73) (by decide)) (fun q => q.1 (hal.mpr w))), rfl⟩)
          · refine v_iconst (v := 1) hC dX11_isRemembered_76 (by decide) ?_
            refine v_goto hC dX11_isRemembered_77 (tgt := 81) (by decide) ?_
            refine v_ist1 hC dX11_isRemembered_81 (by decide) (kk := ?_)
            refine v_inc2 hC dX11_isRemembered_82 ((nI_succ w0).symm) (by decide) (kk := ?_)
            refine v_goto hC dX11_isRemembered_85 (tgt := 4) (by decide) ?_
            refine v_drop 3 ?_
            refine v_drop 4 ?_
            have hi9 : i = 9 := by omega
            subst hi9
            have hal : ((∀ a, a < 9 → wv (q_g u 1 w0 0) a = wv g a) ↔ q_g u 1 w0 0 = g) := ⟨fun q => wv_inj (hA.eg hw).1 hg.1 q, fun q a _ => by rw [q]⟩
            have hst : ∀ z : Prop, (z ↔ ((∃ a, a < w0 ∧ q_g u 1 a 0 = g) ∨ q_g u 1 w0 0 = g)) → (z ↔ ∃ a, a < w0 + 1 ∧ q_g u 1 a 0 = g) := fun z hz => hz.trans ⟨fun q => q.elim (fun ⟨a, q1, q2⟩ => ⟨a, by omega, q2⟩) (fun q => ⟨w0, by omega, q⟩), fun ⟨a, q1, q2⟩ => by
              by_cases q : a = w0
              · rw [q] at q2; exact Or.inr q2
              · exact Or.inl ⟨a, by omega, q2⟩⟩
            first
              | exact ih (w0 + 1) 1 (by omega) (by omega) (Or.inl ⟨(hst True ⟨fun _ => Or.inl (hP.elim (fun q => q.1) (fun q => absurd q.2 h69)), fun _ => trivial⟩).mp trivial, rfl⟩)
              | exact ih (w0 + 1) 1 (by omega) (by omega) (Or.inl ⟨(hst True ⟨fun _ => Or.inr (hal.mp (hQ.elim (fun q => q.1) (fun q => absurd q.2 h73))), fun _ => trivial⟩).mp trivial, rfl⟩)
              | exact ih (w0 + 1) 0 (by omega) (by omega) (Or.inr ⟨fun z => ((hst _ Iff.rfl).mpr z).elim (fun w => hP.elim (fun q => absurd (q.2.symm.trans h69) (by decide)) (fun q => q.1 w)) (fun w => hQ.elim (fun q => absurd (q.2.symm.trans h73) (by decide)) (fun q => q.1 (hal.mpr w))), rfl⟩)
  refine v_iconst (v := 0) hC dX11_isRemembered_0 (by decide) ?_
  refine v_ist1 hC dX11_isRemembered_1 (by decide) (kk := ?_)
  refine v_iconst (v := 0) hC dX11_isRemembered_2 (by decide) ?_
  refine v_ist2 hC dX11_isRemembered_3 (by decide) (kk := ?_)
  exact loopA 41 0 0 (by omega) (by omega) (Or.inr ⟨fun ⟨a, q, _⟩ => absurd q (Nat.not_lt_zero a), rfl⟩)

set_option maxHeartbeats 4000000 in
set_option maxRecDepth 100000 in
theorem c_X11_remember {l : Launch} {G : Gd} {M : Me} {h : Nat} {x : Xs} {t : Nat} {tc : Nat → Int32} {y : Int32} (hW : Wt M) (hX : AR M h x) (hT : TA M h t tc) : CQ (Qi G (fun r M2 => r = (d_remember (x_u x) t tc y).1 ∧ AR M2 h (acX x (d_remember (x_u x) t tc y).2) ∧ On M M2 ∧ Wt M2 ∧ Ta M M2 h)) l G yX11_remember cX11_remember 4 ((some .int)) 4 89 0 0 [.ref h, .int y] M := by
  refine c_of ([some (.ref h), some (.int y), none, none] : Lo) RX11 "remember" (by decide) rfl rfl (Nat.le_of_ble_eq_true rfl) rfl (fun p e s m below meth c hC nw => ?_)
  have ht := hX.1
  have hA := hX.2.1.1
  have u1 := hA.1.1
  have u2 := hA.1.2.1
  have u3 := hA.1.2.2.1
  have u4 := hA.1.2.2.2.1
  have hwz := wz_31 hW (wf_276 hW ht)
  refine v_aload_n hC dX11_remember_0 rfl rfl ?_
  refine cVi0 hC (c_X11_readsText hW ht hT) yv_X11_readsText rfl ht mw_4_234 ⟨Nat.le_of_ble_eq_true rfl, Nat.le_of_ble_eq_true rfl⟩ ⟨Nat.le_of_ble_eq_true rfl, Nat.le_of_ble_eq_true rfl⟩ (Nat.le_of_ble_eq_true rfl) dX11_remember_1 (fun r1 M3 hq => ?_)
  obtain ⟨hR2, hq2⟩ := hq
  have hX2 : AR M3 h x := hX.rd hR2
  have hW2 : Wt M3 := hR2.wt hW
  have ht2 : m_t M3 h = 12 := hX2.1
  have hOn2 : On M M3 := On.rd hR2
  have hTa2 : Ta M M3 h := fun t c q => q.rd hR2
  have hA2 := hX2.2.1.1
  have hwz2 := wz_31 hW2 (wf_276 hW2 ht2)
  refine v_ist2 hC dX11_remember_4 (by decide) (kk := ?_)
  rcases hq2 with ⟨i9, k1, rfl, k3⟩ | ⟨k1, rfl, hRT⟩
  · refine v_iload_n hC dX11_remember_5 rfl rfl ?_
    refine v_if_lt hC dX11_remember_6 (tgt := 14) (by decide) (fun h6 => absurd h6 (nI_n0 (by have := hT.1; omega))) (fun h6 => ?_)
    refine v_bipush (v := (-100)) hC dX11_remember_9 (by decide) ?_
    refine v_iload_n hC dX11_remember_11 rfl rfl ?_
    refine v_isub hC dX11_remember_12 ?_
    refine v_iret hC dX11_remember_13 ?_
    rw [drm_2 k1]; exact ⟨rfl, hX2, hOn2, hW2, hTa2⟩
  · refine v_iload_n hC dX11_remember_5 rfl rfl ?_
    refine v_if_lt hC dX11_remember_6 (tgt := 14) (by decide) (fun _ => ?_) (fun hx => absurd hx (by decide))
    have hl30 := hRT.2.1
    have hsg0 : SgN (fun b => rdM M3 h b) ((sgT tc t).headD []) := by
      have := hRT.2.2.2 0 hRT.2.2.1
      rw [hD_0] at this
      exact this.congr (fun b _ => congrArg (rdM M3 h) (by omega))
    refine v_iload_n hC dX11_remember_14 rfl rfl ?_
    refine v_iconst (v := 1) hC dX11_remember_15 (by decide) ?_
    refine v_sipush (v := 999) hC dX11_remember_16 (by decide) ?_
    refine cSi3 hC (c_X11_in ) ys_X11_in mw_4_181 ⟨Nat.le_of_ble_eq_true rfl, Nat.le_of_ble_eq_true rfl⟩ ⟨Nat.le_of_ble_eq_true rfl, Nat.le_of_ble_eq_true rfl⟩ (Nat.le_of_ble_eq_true rfl) dX11_remember_19 (fun r19 M21 hq => ?_)
    obtain ⟨hm, hq2⟩ := hq
    have hm2 := hm.symm
    clear hm
    subst hm2
    obtain ⟨g19, rfl⟩ | ⟨g19, rfl⟩ := hq2
    · refine v_if_eq hC dX11_remember_22 (tgt := 33) (by decide) (fun hx => absurd hx (by decide)) (fun _ => ?_)
      refine v_aload_n hC dX11_remember_25 rfl rfl ?_
      refine gf_11_8 hC ht2 mw_4_128 dX11_remember_26 ?_
      rw [hRT.1]
      refine v_iconst (v := 1) hC dX11_remember_29 (by decide) ?_
      refine v_icmp_le hC dX11_remember_30 (tgt := 36) (by decide) (fun h30 => ?_) (fun h30 => ?_)
      · have h30 := (nI_leI (by omega) (by decide)).mp h30
        refine v_aload_n hC dX11_remember_36 rfl rfl ?_
        refine cVi0 hC (c_X11_isRemembered hW2 ht2 hA2 hsg0) yv_X11_isRemembered rfl ht2 mw_5_31 ⟨Nat.le_of_ble_eq_true rfl, Nat.le_of_ble_eq_true rfl⟩ ⟨Nat.le_of_ble_eq_true rfl, Nat.le_of_ble_eq_true rfl⟩ (Nat.le_of_ble_eq_true rfl) dX11_remember_37 (fun r37 M39 hq => ?_)
        obtain ⟨hm, hq2⟩ := hq
        have hm2 := hm.symm
        clear hm
        subst hm2
        obtain ⟨g37, rfl⟩ | ⟨g37, rfl⟩ := hq2
        · refine v_if_eq hC dX11_remember_40 (tgt := 46) (by decide) (fun hx => absurd hx (by decide)) (fun _ => ?_)
          refine v_bipush (v := (-4)) hC dX11_remember_43 (by decide) ?_
          refine v_iret hC dX11_remember_45 ?_
          rw [drm_3 k1]; rw [if_neg (fun q => q.elim (fun z => z g19) (Nat.not_lt.mpr h30)), if_pos g37]; exact ⟨rfl, hX2, hOn2, hW2, hTa2⟩
        · refine v_if_eq hC dX11_remember_40 (tgt := 46) (by decide) (fun _ => ?_) (fun hx => absurd hx (by decide))
          refine v_aload_n hC dX11_remember_46 rfl rfl ?_
          refine gf_11_0 hC ht2 (wf_276 hW2 ht2) mw_4_120 dX11_remember_47 ?_
          refine v_iconst (v := 2) hC dX11_remember_50 (by decide) ?_
          refine v_lald 31 hC (wf_276 hW2 ht2) (by decide) (by decide) (ix_q (j := 2) hwz2 rfl) dX11_remember_51 ?_
          rw [show m_l M3 31 (m_r M3 276 h 0) 2 = _ from hA2.c2]
          refine v_ldc2 hC mw_4_116 dX11_remember_52 ?_
          refine v_lcmp hC dX11_remember_55 ?_
          refine v_if_ne hC dX11_remember_56 (tgt := 62) (by decide) (fun h56 => ?_) (fun h56 => ?_)
          · have h56 : n_e (x_u x) < 40 := by
              have : ¬ n_e (x_u x) = 40 := fun q => h56 ((lg_cmp_eq _ _).mpr (show lN (n_e (x_u x)) = lN 40 from by rw [q]))
              omega
            refine v_aload_n hC dX11_remember_62 rfl rfl ?_
            refine cVv0 hC (c_X11_record2 hW2 hX2) yv_X11_record rfl ht2 mw_4_173 ⟨Nat.le_of_ble_eq_true rfl, Nat.le_of_ble_eq_true rfl⟩ ⟨Nat.le_of_ble_eq_true rfl, Nat.le_of_ble_eq_true rfl⟩ (Nat.le_of_ble_eq_true rfl) dX11_remember_63 (fun M65 hq => ?_)
            obtain ⟨hX9, hOn29, hW9, hTb9⟩ := hq
            have ht9 := hX9.1
            have hL9 := hX9.pu
            have hwz9 := wz_31 hW9 (wf_276 hW9 ht9)
            have hOn9 := hOn2.tr hOn29
            have hTa9 := hTa2.tr hTb9.1
            have hRT9 := hRT.tb hTb9
            refine v_aload_n hC dX11_remember_66 rfl rfl ?_
            refine v_iload_n hC dX11_remember_67 rfl rfl ?_
            refine cVi1 hC (c_X11_newEntry hW9 ht9 hL9.1 h56) yv_X11_newEntry rfl ht9 mw_5_39 ⟨Nat.le_of_ble_eq_true rfl, Nat.le_of_ble_eq_true rfl⟩ ⟨Nat.le_of_ble_eq_true rfl, Nat.le_of_ble_eq_true rfl⟩ (Nat.le_of_ble_eq_true rfl) dX11_remember_68 (fun r68 M70 hq => ?_)
            obtain ⟨rfl, hm⟩ := hq
            have hm2 := hm.symm
            clear hm
            subst hm2
            refine v_ist3 hC dX11_remember_71 (by decide) (kk := ?_)
            have hWe : Wt (s_l (s_l (s_l M65 31 (m_r M65 276 h 0) (166 + 11 * n_e (x_u x) + 9) y.toInt64) 31 (m_r (s_l M65 31 (m_r M65 276 h 0) (166 + 11 * n_e (x_u x) + 9) y.toInt64) 276 h 0) (166 + 11 * n_e (x_u x) + 10) 0) 31 (m_r (s_l (s_l M65 31 (m_r M65 276 h 0) (166 + 11 * n_e (x_u x) + 9) y.toInt64) 31 (m_r (s_l M65 31 (m_r M65 276 h 0) (166 + 11 * n_e (x_u x) + 9) y.toInt64) 276 h 0) (166 + 11 * n_e (x_u x) + 10) 0) 276 h 0) (2) (lN (n_e (x_u x) + 1))) := hW9
            have hte : m_t (s_l (s_l (s_l M65 31 (m_r M65 276 h 0) (166 + 11 * n_e (x_u x) + 9) y.toInt64) 31 (m_r (s_l M65 31 (m_r M65 276 h 0) (166 + 11 * n_e (x_u x) + 9) y.toInt64) 276 h 0) (166 + 11 * n_e (x_u x) + 10) 0) 31 (m_r (s_l (s_l M65 31 (m_r M65 276 h 0) (166 + 11 * n_e (x_u x) + 9) y.toInt64) 31 (m_r (s_l M65 31 (m_r M65 276 h 0) (166 + 11 * n_e (x_u x) + 9) y.toInt64) 276 h 0) (166 + 11 * n_e (x_u x) + 10) 0) 276 h 0) (2) (lN (n_e (x_u x) + 1))) h = 12 := ht9
            refine v_aload_n hC dX11_remember_72 rfl rfl ?_
            refine v_iconst (v := 0) hC dX11_remember_73 (by decide) ?_
            refine v_aload_n hC dX11_remember_74 rfl rfl ?_
            refine v_iload_n hC dX11_remember_75 rfl rfl ?_
            refine cVi1 hC (c_X11_entryAt ht9) yv_X11_entryAt rfl ht9 mw_5_35 ⟨Nat.le_of_ble_eq_true rfl, Nat.le_of_ble_eq_true rfl⟩ ⟨Nat.le_of_ble_eq_true rfl, Nat.le_of_ble_eq_true rfl⟩ (Nat.le_of_ble_eq_true rfl) dX11_remember_76 (fun r76 M78 hq => ?_)
            obtain ⟨rfl, hm⟩ := hq
            have hm2 := hm.symm
            clear hm
            subst hm2
            refine cVv2 hC (c_X11_lay hWe hte (by decide) (by omega)) yv_X11_lay rfl ht9 mw_5_23 ⟨Nat.le_of_ble_eq_true rfl, Nat.le_of_ble_eq_true rfl⟩ ⟨Nat.le_of_ble_eq_true rfl, Nat.le_of_ble_eq_true rfl⟩ (Nat.le_of_ble_eq_true rfl) dX11_remember_79 (fun M81 hq => ?_)
            obtain ⟨hQ, hwr2, hrow⟩ := hq
            refine v_iload_n hC dX11_remember_82 rfl rfl ?_
            refine v_iret hC dX11_remember_83 ?_
            have he9 : ∀ q, rwM M81 h q = if 166 + 11 * n_e (x_u x) ≤ q ∧ q < 166 + 11 * n_e (x_u x) + 9 then rdM M65 h (q - (166 + 11 * n_e (x_u x))) else updR (updR (updR (rwM M65 h) (166 + 11 * n_e (x_u x) + 9) y.toInt64) (166 + 11 * n_e (x_u x) + 10) 0) 2 (lN (n_e (x_u x) + 1)) q := fun q => by
              rw [hrow q, rwM_w, rwM_w, rwM_w]
              by_cases w : 166 + 11 * n_e (x_u x) ≤ q ∧ q < 166 + 11 * n_e (x_u x) + 9
              · rw [if_pos w, if_pos w]
                rw [show 11 * 0 + (q - (166 + 11 * n_e (x_u x))) = q - (166 + 11 * n_e (x_u x)) by omega]
                exact (l_sk (by decide)).trans ((l_sk (by decide)).trans (l_sk (by decide)))
              · rw [if_neg w, if_neg w]
            rw [drm_3 k1, if_neg (fun q => q.elim (fun z => z g19) (Nat.not_lt.mpr h30)), if_neg g37, if_pos h56]
            refine ⟨rfl, Wr.end hX9 (Wr.tr (by repeat (first | exact Wr.rf | refine Wr.sl ?_)) hwr2) hOn9 hW9 hTa9 ⟨hL9.1.ent (W := fun b => rdM M65 h b) (g := ((sgT tc t).headD [])) (t := y) h56 (by rw [show rdM M65 h = rdM M3 h from hTb9.2.2]; exact hsg0) he9, (hL9.2.ent (t := y) (v := x_u x) (W := fun b => rdM M65 h b) u2 he9).same (PdF.en) rfl⟩⟩
          · have h56 : n_e (x_u x) = 40 := (lN_eq (b := 40) (by omega) (by omega)).mp ((lg_cmp_eq _ _).mp h56)
            refine v_bipush (v := (-3)) hC dX11_remember_59 (by decide) ?_
            refine v_iret hC dX11_remember_61 ?_
            rw [drm_3 k1]; rw [if_neg (fun q => q.elim (fun z => z g19) (Nat.not_lt.mpr h30)), if_neg g37, if_neg (by omega)]; exact ⟨rfl, hX2, hOn2, hW2, hTa2⟩
      · have h30 : ¬ (sgT tc t).length ≤ 1 := fun q => h30 (nI_le q (by decide))
        refine v_bipush (v := (-2)) hC dX11_remember_33 (by decide) ?_
        refine v_iret hC dX11_remember_35 ?_
        rw [drm_3 k1]; first
          | (rw [if_pos (Or.inl g19)]; exact ⟨rfl, hX2, hOn2, hW2, hTa2⟩)
          | (rw [if_pos (Or.inr (by omega))]; exact ⟨rfl, hX2, hOn2, hW2, hTa2⟩)
    · refine v_if_eq hC dX11_remember_22 (tgt := 33) (by decide) (fun _ => ?_) (fun hx => absurd hx (by decide))
      refine v_bipush (v := (-2)) hC dX11_remember_33 (by decide) ?_
      refine v_iret hC dX11_remember_35 ?_
      rw [drm_3 k1]; first
        | (rw [if_pos (Or.inl g19)]; exact ⟨rfl, hX2, hOn2, hW2, hTa2⟩)
        | (rw [if_pos (Or.inr (by omega))]; exact ⟨rfl, hX2, hOn2, hW2, hTa2⟩)
