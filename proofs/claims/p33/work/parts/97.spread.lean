theorem stA_t {v : Si} {i j f s : Nat} {g : Sg} {t : Int32} (h : q_i v 9 f s = t) : q_i (stA i g t j v) 9 f s = t := by
  unfold stA
  split
  · rw [q_ik (by decide), q_iu]
    split
    · rfl
    · exact h
  · exact h
theorem fA_t {v : Si} {i f s : Nat} {g : Sg} {t : Int32} (h : q_i v 9 f s = t) : ∀ j, q_i (fU (stA i g t) v j) 9 f s = t
  | 0 => h
  | j + 1 => stA_t (fA_t h j)
theorem fS_t {v : Si} {f s : Nat} {g : Sg} {t : Int32} (h : q_i v 9 f s = t) : ∀ i, q_i (fU (stS g t) v i) 9 f s = t
  | 0 => h
  | i + 1 => by
    show q_i (stS g t i (fU (stS g t) v i)) 9 f s = t
    unfold stS
    split
    · exact fA_t (fS_t h i) _
    · exact fS_t h i
theorem WfT.fA {v : Si} {i : Nat} {g : Sg} {t : Int32} (w : WfT v) (ht : 0 < t) : ∀ j, WfT (fU (stA i g t) v j)
  | 0 => w
  | j + 1 => by
    show WfT (stA i g t j (fU (stA i g t) v j))
    unfold stA
    split
    · exact (WfT.fA w ht j).give ht (by decide)
    · exact WfT.fA w ht j
theorem WfT.fS {v : Si} {g : Sg} {t : Int32} (w : WfT v) (ht : 0 < t) : ∀ i, WfT (fU (stS g t) v i)
  | 0 => w
  | i + 1 => by
    show WfT (stS g t i (fU (stS g t) v i))
    unfold stS
    split
    · exact (WfT.fS w ht i).fA ht _
    · exact WfT.fS w ht i
set_option maxHeartbeats 4000000 in
set_option maxRecDepth 100000 in
theorem c_X11_spread {l : Launch} {G : Gd} {M : Me} {h f0 s0 : Nat} {u v0 : Si} {g : Sg} {t : Int32} (hW : Wt M) (ht : m_t M h = 12) (hA : LA (rwM M h) v0) (hP : LPd (rwM M h) u) (hn6 : n_p u ≤ 6) (hT : WfT v0) (hf0 : f0 < n_f v0) (hs0 : s0 < n_s v0 f0) (hg : q_g v0 0 f0 s0 = g) (h9 : q_i v0 9 f0 s0 = t) (ht0 : 0 < t) : CQ (Qi G (fun r M2 => r = fC (stS g t) (ctS g t) v0 (n_f v0) ∧ Wr M M2 h ∧ LA (rwM M2 h) (fU (stS g t) v0 (n_f v0)) ∧ LPd (rwM M2 h) u)) l G yX11_spread cX11_spread 6 ((some .int)) 2 42 0 0 [.ref h, .int (nI (606 + 11 * (12 * f0 + s0)))] M := by
  refine c_of ([some (.ref h), some (.int (nI (606 + 11 * (12 * f0 + s0)))), none, none, none, none] : Lo) RX11 "spread" (by decide) rfl rfl (Nat.le_of_ble_eq_true rfl) rfl (fun p e s m below meth c hC nw => ?_)
  have u1 := hA.1.1
  have u2 := hA.1.2.1
  have u3 := hA.1.2.2.1
  have u4 := hA.1.2.2.2.1
  have c5 := hA.1.2.2.2.2
  have hs12 := c5 f0 hf0
  have loopB : ∀ (i : Nat), i < n_f v0 → (∀ M1 : Me, Wr M M1 h → LA (rwM M1 h) (fU (stS g t) v0 (i + 1)) → LPd (rwM M1 h) u → V p l e (rmk 2 42 0 0) s m ([.ref h, .int (nI (606 + 11 * (12 * f0 + s0)))] : List Value).toArray below meth c 6 G (MQ below (Qi G (fun r M2 => r = fC (stS g t) (ctS g t) v0 (n_f v0) ∧ Wr M M2 h ∧ LA (rwM M2 h) (fU (stS g t) v0 (n_f v0)) ∧ LPd (rwM M2 h) u)) ([.ref h, .int (nI (606 + 11 * (12 * f0 + s0)))] : List Value).toArray s 0 0 (fr_ G)) M1 0 0 90 ([some (.ref h), some (.int (nI (606 + 11 * (12 * f0 + s0)))), some (.int (fC (stS g t) (ctS g t) v0 (i + 1))), some (.int (nI i)), none, none] : Lo) []) → ∀ (k j : Nat) (M1 : Me), j + k = 13 → j ≤ n_s v0 i → (¬ q_i v0 4 i 0 = 1 → j = 0) → Wr M M1 h → LA (rwM M1 h) (fU (stA i g t) (fU (stS g t) v0 i) j) → LPd (rwM M1 h) u → V p l e (rmk 2 42 0 0) s m ([.ref h, .int (nI (606 + 11 * (12 * f0 + s0)))] : List Value).toArray below meth c 6 G (MQ below (Qi G (fun r M2 => r = fC (stS g t) (ctS g t) v0 (n_f v0) ∧ Wr M M2 h ∧ LA (rwM M2 h) (fU (stS g t) v0 (n_f v0)) ∧ LPd (rwM M2 h) u)) ([.ref h, .int (nI (606 + 11 * (12 * f0 + s0)))] : List Value).toArray s 0 0 (fr_ G)) M1 0 0 19 ([some (.ref h), some (.int (nI (606 + 11 * (12 * f0 + s0)))), some (.int (fC (stS g t) (ctS g t) v0 i + fC (stA i g t) (ctA i g) (fU (stS g t) v0 i) j)), some (.int (nI i)), some (.int (nI j)), none] : Lo) [] := by
    intro i hi cont k
    have h12i := c5 i hi
    induction k with
    | zero => intro j M1 w1 w2; omega
    | succ k ih =>
      intro j M1 w1 w2 hj0 hwr hl hp
      have hW1 : Wt M1 := hwr.2.2.2.2.2.2 hW
      have ht1 : m_t M1 h = 12 := (hwr.1.1.2.1 h).trans ht
      have hwz1 := wz_31 hW1 (wf_276 hW1 ht1)
      have hKW : Kp v0 (fU (stS g t) v0 i) := Kp.fU (stS_kp g t) i
      have hKX : Kp v0 (fU (stA i g t) (fU (stS g t) v0 i) j) := hKW.tr (Kp.fU (stA_kp i g t) j)
      have ens : ∀ f, n_s (fU (stA i g t) (fU (stS g t) v0 i) j) f = n_s v0 f := fun f => hKX.n 4 f
      have enf : n_f (fU (stA i g t) (fU (stS g t) v0 i) j) = n_f v0 := hKX.n 0 0
      have hiX : i < n_f (fU (stA i g t) (fU (stS g t) v0 i) j) := by rw [enf]; exact hi
      have hTX : WfT (fU (stA i g t) (fU (stS g t) v0 i) j) := (hT.fS ht0 i).fA ht0 j
      have h9X : q_i (fU (stA i g t) (fU (stS g t) v0 i) j) 9 f0 s0 = t := fA_t (fS_t h9 i) j
      refine v_iload hC dX11_spread_19 rfl ?_
      refine v_aload_n hC dX11_spread_21 rfl rfl ?_
      refine v_iload_n hC dX11_spread_22 rfl rfl ?_
      refine cVi1 hC (c_X11_many hW1 ht1 hl hiX) yv_X11_many rfl ht1 mw_5_15 ⟨Nat.le_of_ble_eq_true rfl, Nat.le_of_ble_eq_true rfl⟩ ⟨Nat.le_of_ble_eq_true rfl, Nat.le_of_ble_eq_true rfl⟩ (Nat.le_of_ble_eq_true rfl) dX11_spread_23 (fun r23 M25 hq => ?_)
      obtain ⟨rfl, hm⟩ := hq
      have hm2 := hm.symm
      clear hm
      subst hm2
      rw [ens]
      refine v_icmp_ge hC dX11_spread_26 (tgt := 90) (by decide) (fun h26 => ?_) (fun h26 => ?_)
      · have hj := lp_ge h26
        have e4 : q_i (fU (stS g t) v0 i) 4 i 0 = q_i v0 4 i 0 := hKW.2.2 4 i 0 (by omega)
        have en4 : n_s (fU (stS g t) v0 i) i = n_s v0 i := hKW.n 4 i
        have hfin : (fU (stA i g t) (fU (stS g t) v0 i) j) = fU (stS g t) v0 (i + 1) ∧ fC (stS g t) (ctS g t) v0 i + fC (stA i g t) (ctA i g) (fU (stS g t) v0 i) j = fC (stS g t) (ctS g t) v0 (i + 1) := by
          by_cases q : q_i v0 4 i 0 = 1
          · have hje : j = n_s v0 i := by
              first
                | exact absurd q h35
                | omega
            refine ⟨?_, ?_⟩
            · show _ = stS g t i (fU (stS g t) v0 i)
              have z : stS g t i (fU (stS g t) v0 i) = fU (stA i g t) (fU (stS g t) v0 i) (n_s v0 i) := by
                show (if q_i (fU (stS g t) v0 i) 4 i 0 = 1 then fU (stA i g t) (fU (stS g t) v0 i) (n_s (fU (stS g t) v0 i) i) else (fU (stS g t) v0 i)) = _
                rw [if_pos (e4.trans q), en4]
              rw [z, hje]
            · show _ = fC (stS g t) (ctS g t) v0 i + ctS g t i (fU (stS g t) v0 i)
              have z : ctS g t i (fU (stS g t) v0 i) = fC (stA i g t) (ctA i g) (fU (stS g t) v0 i) (n_s v0 i) := by
                show (if q_i (fU (stS g t) v0 i) 4 i 0 = 1 then fC (stA i g t) (ctA i g) (fU (stS g t) v0 i) (n_s (fU (stS g t) v0 i) i) else 0) = _
                rw [if_pos (e4.trans q), en4]
              rw [z, hje]
          · have hje : j = 0 := hj0 q
            subst hje
            refine ⟨?_, ?_⟩
            · show (fU (stS g t) v0 i) = stS g t i (fU (stS g t) v0 i)
              exact (if_neg (fun z => q (e4.symm.trans z))).symm
            · show fC (stS g t) (ctS g t) v0 i + 0 = fC (stS g t) (ctS g t) v0 i + ctS g t i (fU (stS g t) v0 i)
              rw [show ctS g t i (fU (stS g t) v0 i) = 0 from if_neg (fun z => q (e4.symm.trans z))]
        refine v_drop 4 ?_
        rw [hfin.2]
        exact cont M1 hwr (by rw [← hfin.1]; exact hl) hp
      · have hj := lp_lt h26
        refine v_aload_n hC dX11_spread_29 rfl rfl ?_
        refine v_iload_n hC dX11_spread_30 rfl rfl ?_
        refine cVi1 hC (c_X11_state hW1 ht1 hl hiX) yv_X11_state rfl ht1 mw_5_11 ⟨Nat.le_of_ble_eq_true rfl, Nat.le_of_ble_eq_true rfl⟩ ⟨Nat.le_of_ble_eq_true rfl, Nat.le_of_ble_eq_true rfl⟩ (Nat.le_of_ble_eq_true rfl) dX11_spread_31 (fun r31 M33 hq => ?_)
        obtain ⟨rfl, hm⟩ := hq
        have hm2 := hm.symm
        clear hm
        subst hm2
        rw [hKX.2.2 4 i 0 (by omega)]
        refine v_iconst (v := 1) hC dX11_spread_34 (by decide) ?_
        refine v_icmp_ne hC dX11_spread_35 (tgt := 90) (by decide) (fun h35 => ?_) (fun h35 => ?_)
        · have e4 : q_i (fU (stS g t) v0 i) 4 i 0 = q_i v0 4 i 0 := hKW.2.2 4 i 0 (by omega)
          have en4 : n_s (fU (stS g t) v0 i) i = n_s v0 i := hKW.n 4 i
          have hfin : (fU (stA i g t) (fU (stS g t) v0 i) j) = fU (stS g t) v0 (i + 1) ∧ fC (stS g t) (ctS g t) v0 i + fC (stA i g t) (ctA i g) (fU (stS g t) v0 i) j = fC (stS g t) (ctS g t) v0 (i + 1) := by
            by_cases q : q_i v0 4 i 0 = 1
            · have hje : j = n_s v0 i := by
                first
                  | exact absurd q h35
                  | omega
              refine ⟨?_, ?_⟩
              · show _ = stS g t i (fU (stS g t) v0 i)
                have z : stS g t i (fU (stS g t) v0 i) = fU (stA i g t) (fU (stS g t) v0 i) (n_s v0 i) := by
                  show (if q_i (fU (stS g t) v0 i) 4 i 0 = 1 then fU (stA i g t) (fU (stS g t) v0 i) (n_s (fU (stS g t) v0 i) i) else (fU (stS g t) v0 i)) = _
                  rw [if_pos (e4.trans q), en4]
                rw [z, hje]
              · show _ = fC (stS g t) (ctS g t) v0 i + ctS g t i (fU (stS g t) v0 i)
                have z : ctS g t i (fU (stS g t) v0 i) = fC (stA i g t) (ctA i g) (fU (stS g t) v0 i) (n_s v0 i) := by
                  show (if q_i (fU (stS g t) v0 i) 4 i 0 = 1 then fC (stA i g t) (ctA i g) (fU (stS g t) v0 i) (n_s (fU (stS g t) v0 i) i) else 0) = _
                  rw [if_pos (e4.trans q), en4]
                rw [z, hje]
            · have hje : j = 0 := hj0 q
              subst hje
              refine ⟨?_, ?_⟩
              · show (fU (stS g t) v0 i) = stS g t i (fU (stS g t) v0 i)
                exact (if_neg (fun z => q (e4.symm.trans z))).symm
              · show fC (stS g t) (ctS g t) v0 i + 0 = fC (stS g t) (ctS g t) v0 i + ctS g t i (fU (stS g t) v0 i)
                rw [show ctS g t i (fU (stS g t) v0 i) = 0 from if_neg (fun z => q (e4.symm.trans z))]
          refine v_drop 4 ?_
          rw [hfin.2]
          exact cont M1 hwr (by rw [← hfin.1]; exact hl) hp
        · refine v_aload_n hC dX11_spread_38 rfl rfl ?_
          refine v_iload_n hC dX11_spread_39 rfl rfl ?_
          refine v_iload hC dX11_spread_40 rfl ?_
          refine cVi2 hC (c_X11_segmentAt ht1) yv_X11_segmentAt rfl ht1 mw_5_19 ⟨Nat.le_of_ble_eq_true rfl, Nat.le_of_ble_eq_true rfl⟩ ⟨Nat.le_of_ble_eq_true rfl, Nat.le_of_ble_eq_true rfl⟩ (Nat.le_of_ble_eq_true rfl) dX11_spread_42 (fun r42 M44 hq => ?_)
          obtain ⟨rfl, hm⟩ := hq
          have hm2 := hm.symm
          clear hm
          subst hm2
          refine v_ist5 hC dX11_spread_45 (by decide) (kk := ?_)
          refine v_aload_n hC dX11_spread_47 rfl rfl ?_
          refine v_iload hC dX11_spread_48 rfl ?_
          refine cVi1 hC (c_X11_hasTarget hW1 ht1 hl hTX hiX (by rw [ens]; exact hj)) yv_X11_hasTarget rfl ht1 mw_5_68 ⟨Nat.le_of_ble_eq_true rfl, Nat.le_of_ble_eq_true rfl⟩ ⟨Nat.le_of_ble_eq_true rfl, Nat.le_of_ble_eq_true rfl⟩ (Nat.le_of_ble_eq_true rfl) dX11_spread_50 (fun r50 M52 hq => ?_)
          obtain ⟨hm, hq2⟩ := hq
          have hm2 := hm.symm
          clear hm
          subst hm2
          obtain ⟨g50, rfl⟩ | ⟨g50, rfl⟩ := hq2
          · refine v_if_ne hC dX11_spread_53 (tgt := 84) (by decide) (fun _ => ?_) (fun hx => absurd hx (by decide))
            first
              | (have zz : ¬ q_i (fU (stA i g t) (fU (stS g t) v0 i) j) 9 i j = 0 := g50
                 have ze : fC (stA i g t) (ctA i g) (fU (stS g t) v0 i) (j + 1) = fC (stA i g t) (ctA i g) (fU (stS g t) v0 i) j + 0 := congrArg _ (if_neg (fun q => zz q.1))
                 rw [Int32.add_zero] at ze
                 rw [← ze])
              | (have zz : ¬ q_g (fU (stA i g t) (fU (stS g t) v0 i) j) 0 i j = g := ga
                 have ze : fC (stA i g t) (ctA i g) (fU (stS g t) v0 i) (j + 1) = fC (stA i g t) (ctA i g) (fU (stS g t) v0 i) j + 0 := congrArg _ (if_neg (fun q => zz q.2))
                 rw [Int32.add_zero] at ze
                 rw [← ze])
              | (have zz : q_g (fU (stA i g t) (fU (stS g t) v0 i) j) 0 i j = g := ga
                 have ze : fC (stA i g t) (ctA i g) (fU (stS g t) v0 i) (j + 1) = fC (stA i g t) (ctA i g) (fU (stS g t) v0 i) j + 1 := congrArg _ (if_pos ⟨Decidable.not_not.mp g50, zz⟩)
                 rw [show fC (stS g t) (ctS g t) v0 i + fC (stA i g t) (ctA i g) (fU (stS g t) v0 i) j + Int32.ofInt 1 = fC (stS g t) (ctS g t) v0 i + fC (stA i g t) (ctA i g) (fU (stS g t) v0 i) (j + 1) from by rw [ze, ← Int32.add_assoc]; rfl])
            refine v_inc4 hC dX11_spread_84 ((nI_succ j).symm) (by decide) (kk := ?_)
            refine v_goto hC dX11_spread_87 (tgt := 19) (by decide) ?_
            refine v_drop 5 ?_
            have hj1 : ¬ q_i v0 4 i 0 = 1 → j + 1 = 0 := fun q => absurd h35 q
            first
              | exact ih (j + 1) M1 (by omega) (by omega) hj1 hwr (by rw [show (fU (stA i g t) (fU (stS g t) v0 i) (j + 1)) = (fU (stA i g t) (fU (stS g t) v0 i) j) from if_neg (fun q => by first | exact g50 q.1 | exact ga q.2)]; exact hl) hp
              | exact ih (j + 1) _ (by omega) (by omega) hj1 hwr.sl.sl (by
                  rw [rwM_w, rwM_w, show (fU (stA i g t) (fU (stS g t) v0 i) (j + 1)) = u_i (u_i (fU (stA i g t) (fU (stS g t) v0 i) j) 9 i j t) 10 i j 2 from if_pos ⟨Decidable.not_not.mp g50, ga⟩]
                  exact hl.give (by omega) (by omega) (fun q => by rw [q] at ht0; exact absurd ht0 (by decide))) (by
                  rw [rwM_w, rwM_w]
                  exact hp.give hn6 (by omega) (by omega))
          · refine v_if_ne hC dX11_spread_53 (tgt := 84) (by decide) (fun hx => absurd hx (by decide)) (fun _ => ?_)
            refine v_aload_n hC dX11_spread_56 rfl rfl ?_
            refine v_iload hC dX11_spread_57 rfl ?_
            refine v_iload_n hC dX11_spread_59 rfl rfl ?_
            refine cVi2 hC (c_X11_areAlike hW1 ht1 (hl.sg hiX (by rw [ens]; exact hj)) (hl.sg (by rw [enf]; exact hf0) (by rw [ens]; exact hs0)) (by omega) (by omega)) yv_X11_areAlike rfl ht1 mw_5_92 ⟨Nat.le_of_ble_eq_true rfl, Nat.le_of_ble_eq_true rfl⟩ ⟨Nat.le_of_ble_eq_true rfl, Nat.le_of_ble_eq_true rfl⟩ (Nat.le_of_ble_eq_true rfl) dX11_spread_60 (fun r60 M62 hq => ?_)
            obtain ⟨hm, hq2⟩ := hq
            have hm2 := hm.symm
            clear hm
            subst hm2
            obtain ⟨g60, rfl⟩ | ⟨g60, rfl⟩ := hq2
            · rw [show q_g (fU (stA i g t) (fU (stS g t) v0 i) j) 0 f0 s0 = g from (hKX.g 0 f0 s0).trans hg] at g60
              have ga := g60
              refine v_if_eq hC dX11_spread_63 (tgt := 84) (by decide) (fun hx => absurd hx (by decide)) (fun _ => ?_)
              refine v_aload_n hC dX11_spread_66 rfl rfl ?_
              refine v_iload hC dX11_spread_67 rfl ?_
              refine v_aload_n hC dX11_spread_69 rfl rfl ?_
              refine v_iload_n hC dX11_spread_70 rfl rfl ?_
              refine v_bipush (v := 9) hC dX11_spread_71 (by decide) ?_
              refine v_iadd hC dX11_spread_73 ?_
              rw [show nI (606 + 11 * (12 * f0 + s0)) + 9 = nI ((606 + 11 * (12 * f0 + s0)) + 9) from nI_add _ 9]
              refine cVi1 hC (c_X11_number hW1 ht1 (by omega)) yv_X11_number rfl ht1 mw_4_165 ⟨Nat.le_of_ble_eq_true rfl, Nat.le_of_ble_eq_true rfl⟩ ⟨Nat.le_of_ble_eq_true rfl, Nat.le_of_ble_eq_true rfl⟩ (Nat.le_of_ble_eq_true rfl) dX11_spread_74 (fun r74 M76 hq => ?_)
              obtain ⟨rfl, hm⟩ := hq
              have hm2 := hm.symm
              clear hm
              subst hm2
              rw [show (rwM M1 h ((606 + 11 * (12 * f0 + s0)) + 9)).toInt32 = t from by rw [(hl.s2 (show f0 < _ by rw [enf]; exact hf0) (show s0 < _ by rw [ens]; exact hs0)).1, h9X, eb, if_neg (fun q => by have q2 := q.2; rw [q2] at ht0; exact absurd ht0 (by decide)), Int32.toInt32_toInt64]]
              refine v_iconst (v := 2) hC dX11_spread_77 (by decide) ?_
              refine cVv3 hC (c_X11_give hW1 ht1 (by omega)) yv_X11_give rfl ht1 mw_5_115 ⟨Nat.le_of_ble_eq_true rfl, Nat.le_of_ble_eq_true rfl⟩ ⟨Nat.le_of_ble_eq_true rfl, Nat.le_of_ble_eq_true rfl⟩ (Nat.le_of_ble_eq_true rfl) dX11_spread_78 (fun M80 hq => ?_)
              subst hq
              refine v_inc2 hC dX11_spread_81 (rfl) (by decide) (kk := ?_)
              first
                | (have zz : ¬ q_i (fU (stA i g t) (fU (stS g t) v0 i) j) 9 i j = 0 := g50
                   have ze : fC (stA i g t) (ctA i g) (fU (stS g t) v0 i) (j + 1) = fC (stA i g t) (ctA i g) (fU (stS g t) v0 i) j + 0 := congrArg _ (if_neg (fun q => zz q.1))
                   rw [Int32.add_zero] at ze
                   rw [← ze])
                | (have zz : ¬ q_g (fU (stA i g t) (fU (stS g t) v0 i) j) 0 i j = g := ga
                   have ze : fC (stA i g t) (ctA i g) (fU (stS g t) v0 i) (j + 1) = fC (stA i g t) (ctA i g) (fU (stS g t) v0 i) j + 0 := congrArg _ (if_neg (fun q => zz q.2))
                   rw [Int32.add_zero] at ze
                   rw [← ze])
                | (have zz : q_g (fU (stA i g t) (fU (stS g t) v0 i) j) 0 i j = g := ga
                   have ze : fC (stA i g t) (ctA i g) (fU (stS g t) v0 i) (j + 1) = fC (stA i g t) (ctA i g) (fU (stS g t) v0 i) j + 1 := congrArg _ (if_pos ⟨Decidable.not_not.mp g50, zz⟩)
                   rw [show fC (stS g t) (ctS g t) v0 i + fC (stA i g t) (ctA i g) (fU (stS g t) v0 i) j + Int32.ofInt 1 = fC (stS g t) (ctS g t) v0 i + fC (stA i g t) (ctA i g) (fU (stS g t) v0 i) (j + 1) from by rw [ze, ← Int32.add_assoc]; rfl])
              refine v_inc4 hC dX11_spread_84 ((nI_succ j).symm) (by decide) (kk := ?_)
              refine v_goto hC dX11_spread_87 (tgt := 19) (by decide) ?_
              refine v_drop 5 ?_
              have hj1 : ¬ q_i v0 4 i 0 = 1 → j + 1 = 0 := fun q => absurd h35 q
              first
                | exact ih (j + 1) M1 (by omega) (by omega) hj1 hwr (by rw [show (fU (stA i g t) (fU (stS g t) v0 i) (j + 1)) = (fU (stA i g t) (fU (stS g t) v0 i) j) from if_neg (fun q => by first | exact g50 q.1 | exact ga q.2)]; exact hl) hp
                | exact ih (j + 1) _ (by omega) (by omega) hj1 hwr.sl.sl (by
                    rw [rwM_w, rwM_w, show (fU (stA i g t) (fU (stS g t) v0 i) (j + 1)) = u_i (u_i (fU (stA i g t) (fU (stS g t) v0 i) j) 9 i j t) 10 i j 2 from if_pos ⟨Decidable.not_not.mp g50, ga⟩]
                    exact hl.give (by omega) (by omega) (fun q => by rw [q] at ht0; exact absurd ht0 (by decide))) (by
                    rw [rwM_w, rwM_w]
                    exact hp.give hn6 (by omega) (by omega))
            · rw [show q_g (fU (stA i g t) (fU (stS g t) v0 i) j) 0 f0 s0 = g from (hKX.g 0 f0 s0).trans hg] at g60
              have ga := g60
              refine v_if_eq hC dX11_spread_63 (tgt := 84) (by decide) (fun _ => ?_) (fun hx => absurd hx (by decide))
              first
                | (have zz : ¬ q_i (fU (stA i g t) (fU (stS g t) v0 i) j) 9 i j = 0 := g50
                   have ze : fC (stA i g t) (ctA i g) (fU (stS g t) v0 i) (j + 1) = fC (stA i g t) (ctA i g) (fU (stS g t) v0 i) j + 0 := congrArg _ (if_neg (fun q => zz q.1))
                   rw [Int32.add_zero] at ze
                   rw [← ze])
                | (have zz : ¬ q_g (fU (stA i g t) (fU (stS g t) v0 i) j) 0 i j = g := ga
                   have ze : fC (stA i g t) (ctA i g) (fU (stS g t) v0 i) (j + 1) = fC (stA i g t) (ctA i g) (fU (stS g t) v0 i) j + 0 := congrArg _ (if_neg (fun q => zz q.2))
                   rw [Int32.add_zero] at ze
                   rw [← ze])
                | (have zz : q_g (fU (stA i g t) (fU (stS g t) v0 i) j) 0 i j = g := ga
                   have ze : fC (stA i g t) (ctA i g) (fU (stS g t) v0 i) (j + 1) = fC (stA i g t) (ctA i g) (fU (stS g t) v0 i) j + 1 := congrArg _ (if_pos ⟨Decidable.not_not.mp g50, zz⟩)
                   rw [show fC (stS g t) (ctS g t) v0 i + fC (stA i g t) (ctA i g) (fU (stS g t) v0 i) j + Int32.ofInt 1 = fC (stS g t) (ctS g t) v0 i + fC (stA i g t) (ctA i g) (fU (stS g t) v0 i) (j + 1) from by rw [ze, ← Int32.add_assoc]; rfl])
              refine v_inc4 hC dX11_spread_84 ((nI_succ j).symm) (by decide) (kk := ?_)
              refine v_goto hC dX11_spread_87 (tgt := 19) (by decide) ?_
              refine v_drop 5 ?_
              have hj1 : ¬ q_i v0 4 i 0 = 1 → j + 1 = 0 := fun q => absurd h35 q
              first
                | exact ih (j + 1) M1 (by omega) (by omega) hj1 hwr (by rw [show (fU (stA i g t) (fU (stS g t) v0 i) (j + 1)) = (fU (stA i g t) (fU (stS g t) v0 i) j) from if_neg (fun q => by first | exact g50 q.1 | exact ga q.2)]; exact hl) hp
                | exact ih (j + 1) _ (by omega) (by omega) hj1 hwr.sl.sl (by
                    rw [rwM_w, rwM_w, show (fU (stA i g t) (fU (stS g t) v0 i) (j + 1)) = u_i (u_i (fU (stA i g t) (fU (stS g t) v0 i) j) 9 i j t) 10 i j 2 from if_pos ⟨Decidable.not_not.mp g50, ga⟩]
                    exact hl.give (by omega) (by omega) (fun q => by rw [q] at ht0; exact absurd ht0 (by decide))) (by
                    rw [rwM_w, rwM_w]
                    exact hp.give hn6 (by omega) (by omega))
  have loopA : ∀ (k i : Nat) (M1 : Me), i + k = 9 → i ≤ n_f v0 → Wr M M1 h → LA (rwM M1 h) (fU (stS g t) v0 i) → LPd (rwM M1 h) u → V p l e (rmk 2 42 0 0) s m ([.ref h, .int (nI (606 + 11 * (12 * f0 + s0)))] : List Value).toArray below meth c 6 G (MQ below (Qi G (fun r M2 => r = fC (stS g t) (ctS g t) v0 (n_f v0) ∧ Wr M M2 h ∧ LA (rwM M2 h) (fU (stS g t) v0 (n_f v0)) ∧ LPd (rwM M2 h) u)) ([.ref h, .int (nI (606 + 11 * (12 * f0 + s0)))] : List Value).toArray s 0 0 (fr_ G)) M1 0 0 4 ([some (.ref h), some (.int (nI (606 + 11 * (12 * f0 + s0)))), some (.int (fC (stS g t) (ctS g t) v0 i)), some (.int (nI i)), none, none] : Lo) [] := by
    intro k
    induction k with
    | zero => intro i M1 w1 w2; omega
    | succ k ih =>
      intro i M1 w1 w2 hwr hl hp
      have hW1 : Wt M1 := hwr.2.2.2.2.2.2 hW
      have ht1 : m_t M1 h = 12 := (hwr.1.1.2.1 h).trans ht
      have hwz1 := wz_31 hW1 (wf_276 hW1 ht1)
      have hKW : Kp v0 (fU (stS g t) v0 i) := Kp.fU (stS_kp g t) i
      have enf : n_f (fU (stS g t) v0 i) = n_f v0 := hKW.n 0 0
      refine v_iload_n hC dX11_spread_4 rfl rfl ?_
      refine v_i2l hC dX11_spread_5 ?_
      rw [nI_l (by omega)]
      refine v_aload_n hC dX11_spread_6 rfl rfl ?_
      refine gf_11_0 hC ht1 (wf_276 hW1 ht1) mw_4_120 dX11_spread_7 ?_
      refine v_iconst (v := 0) hC dX11_spread_10 (by decide) ?_
      refine v_lald 31 hC (wf_276 hW1 ht1) (by decide) (by decide) (ix_q (j := 0) hwz1 rfl) dX11_spread_11 ?_
      rw [show m_l M1 31 (m_r M1 276 h 0) 0 = _ from hl.c0, enf]
      refine v_lcmp hC dX11_spread_12 ?_
      refine v_if_ge hC dX11_spread_13 (tgt := 96) (by decide) (fun h13 => ?_) (fun h13 => ?_)
      · have hi := lc_ge h13
        refine v_iload_n hC dX11_spread_96 rfl rfl ?_
        refine v_iret hC dX11_spread_97 ?_
        have hie : i = n_f v0 := by omega
        subst hie
        exact ⟨rfl, hwr, hl, hp⟩
      · have hi := lc_lt h13
        refine v_iconst (v := 0) hC dX11_spread_16 (by decide) ?_
        refine v_ist4 hC dX11_spread_17 (by decide) (kk := ?_)
        rw [show fC (stS g t) (ctS g t) v0 i = fC (stS g t) (ctS g t) v0 i + fC (stA i g t) (ctA i g) (fU (stS g t) v0 i) 0 from (Int32.add_zero _).symm]
        refine loopB i hi (fun M2 hwr2 hl2 hp2 => ?_) 13 0 M1 (by omega) (Nat.zero_le _) (fun _ => rfl) hwr hl hp
        refine v_inc3 hC dX11_spread_90 ((nI_succ i).symm) (by decide) (kk := ?_)
        refine v_goto hC dX11_spread_93 (tgt := 4) (by decide) ?_
        exact ih (i + 1) _ (by omega) (by omega) hwr2 hl2 hp2
  refine v_iconst (v := 0) hC dX11_spread_0 (by decide) ?_
  refine v_ist2 hC dX11_spread_1 (by decide) (kk := ?_)
  refine v_iconst (v := 0) hC dX11_spread_2 (by decide) ?_
  refine v_ist3 hC dX11_spread_3 (by decide) (kk := ?_)
  exact loopA 9 0 M (by omega) (by omega) Wr.rf hA hP
