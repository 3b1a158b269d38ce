theorem WfT.fB {v : Si} {i : Nat} {g : Sg} {t : Int32} (w : WfT v) (ht : 0 < t) : ∀ j, WfT (fU (stB i g t) v j)
  | 0 => w
  | j + 1 => by
    show WfT (stB i g t j (fU (stB i g t) v j))
    unfold stB
    split
    · exact (WfT.fB w ht j).give ht (by decide)
    · exact WfT.fB w ht j
theorem WfT.fT {v : Si} {g : Sg} {t : Int32} (w : WfT v) (ht : 0 < t) : ∀ i, WfT (fU (stT g t) v i)
  | 0 => w
  | i + 1 => by
    show WfT (stT g t i (fU (stT g t) v i))
    unfold stT
    split
    · exact (WfT.fT w ht i).fB ht _
    · exact WfT.fT w ht i
theorem WfS.kp {u v : Si} (w : WfS u) (k : Kp u v) : WfS v := fun f hf => by
  rw [k.2.2 4 f 0 (by omega)]
  exact w f (Nat.lt_of_lt_of_eq hf (k.n 0 0))
theorem PdF.kp {u v : Si} (k : Kp u v) : PdF u v := ⟨k.n 0 0, fun g hg => ⟨by rw [k.2.2 4 g 0 (by omega)], fun _ => ⟨k.2.2 5 g 0 (by omega), k.2.2 6 g 0 (by omega), k.2.2 7 g 0 (by omega), by
  unfold w_f
  rw [show n_s v g = n_s u g from k.n 4 g, show q_g v 0 g = q_g u 0 g from funext fun j => k.g 0 g j]⟩⟩⟩
/-- what disputes are about -/
def WfQ (u : Si) : Prop := ∀ d, d < n_d u → 0 < q_i u 14 d 0 ∧ 0 < q_i u 15 d 0
theorem Wr.tr {M M2 M3 : Me} {h : Nat} (a : Wr M M2 h) (b : Wr M2 M3 h) : Wr M M3 h := ⟨a.1.tr b.1, b.2.1.trans a.2.1, b.2.2.1.trans a.2.2.1, b.2.2.2.1.trans a.2.2.2.1, b.2.2.2.2.1.trans a.2.2.2.2.1, a.2.2.2.2.2.1.tr b.2.2.2.2.2.1, fun q => b.2.2.2.2.2.2 (a.2.2.2.2.2.2 q)⟩
theorem PdF.mk {u : Si} {d e : Nat} {c : Int32} : PdF u (mkB u d e c) := ((PdF.i (v := c) 16 d 0 (by decide)).tr (PdF.i (v := c) 11 e 0 (by decide))).tr (PdF.i (v := 1) 12 e 0 (by decide))
theorem chD_0 {u : Si} {d : Nat} {z : Int32} (h : 0 < q_i u 14 d 0 ∧ 0 < q_i u 15 d 0) : 0 < chD u d z := by
  by_cases q : z = 0
  · rw [show chD u d z = q_i u 14 d 0 from if_pos q]; exact h.1
  · rw [show chD u d z = q_i u 15 d 0 from if_neg q]; exact h.2
theorem in01 {z : Int32} (h : ¬ (¬ z < 0 ∧ ¬ 1 < z)) : ¬ z = 0 ∧ ¬ z = 1 := ⟨fun q => h (by rw [q]; decide), fun q => h (by rw [q]; decide)⟩
theorem in01n {z : Int32} (h : ¬ z < 0 ∧ ¬ 1 < z) : ¬ (¬ z = 0 ∧ ¬ z = 1) := fun q => by
  obtain ⟨j, hj, rfl⟩ : rgI z 2 := rg_in h.1 (fun w => h.2 (Int32.lt_of_lt_of_le (by decide) w)) (by omega)
  rcases (show j = 0 ∨ j = 1 by omega) with rfl | rfl
  · exact q.1 rfl
  · exact q.2 rfl
theorem toInt64_inj {a b : Int32} (h : a.toInt64 = b.toInt64) : a = b := by
  have := congrArg Int64.toInt32 h
  rwa [Int32.toInt32_toInt64, Int32.toInt32_toInt64] at this
set_option maxHeartbeats 4000000 in
set_option maxRecDepth 100000 in
theorem c_X11_settleAll {l : Launch} {G : Gd} {M : Me} {h w0 : Nat} {u v0 : Si} {g : Sg} {t : Int32} (hW : Wt M) (ht : m_t M h = 12) (hA : LA (rwM M h) v0) (hP : LPd (rwM M h) u) (hn6 : n_p u ≤ 6) (hS : WfS v0) (hT : WfT v0) (hw0 : w0 < n_e v0) (hg : q_g v0 1 w0 0 = g) (ht0 : 0 < t) : CQ (Qi G (fun r M2 => r = fC (stT g t) (ctT g t) v0 (n_f v0) ∧ Wr M M2 h ∧ LA (rwM M2 h) (fU (stT g t) v0 (n_f v0)) ∧ LPd (rwM M2 h) u)) l G yX11_settleAll cX11_settleAll 7 ((some .int)) 3 63 0 0 [.ref h, .int (nI w0), .int t] M := by
  refine c_of ([some (.ref h), some (.int (nI w0)), some (.int t), none, none, none, none] : Lo) RX11 "settleAll" (by decide) rfl rfl (Nat.le_of_ble_eq_true rfl) rfl (fun p e s m below meth c hC nw => ?_)
  have u1 := hA.1.1
  have u2 := hA.1.2.1
  have u3 := hA.1.2.2.1
  have u4 := hA.1.2.2.2.1
  have c5 := hA.1.2.2.2.2
  have loopB : ∀ (i : Nat), i < n_f v0 → (∀ M1 : Me, Wr M M1 h → LA (rwM M1 h) (fU (stT g t) v0 (i + 1)) → LPd (rwM M1 h) u → V p l e (rmk 3 63 0 0) s m ([.ref h, .int (nI w0), .int t] : List Value).toArray below meth c 7 G (MQ below (Qi G (fun r M2 => r = fC (stT g t) (ctT g t) v0 (n_f v0) ∧ Wr M M2 h ∧ LA (rwM M2 h) (fU (stT g t) v0 (n_f v0)) ∧ LPd (rwM M2 h) u)) ([.ref h, .int (nI w0), .int t] : List Value).toArray s 0 0 (fr_ G)) M1 0 0 107 ([some (.ref h), some (.int (nI w0)), some (.int t), some (.int (fC (stT g t) (ctT g t) v0 (i + 1))), some (.int (nI i)), none, none] : Lo) []) → ∀ (k j : Nat) (M1 : Me), j + k = 13 → j ≤ n_s v0 i → (¬ iH v0 i → j = 0) → Wr M M1 h → LA (rwM M1 h) (fU (stB i g t) (fU (stT g t) v0 i) j) → LPd (rwM M1 h) u → V p l e (rmk 3 63 0 0) s m ([.ref h, .int (nI w0), .int t] : List Value).toArray below meth c 7 G (MQ below (Qi G (fun r M2 => r = fC (stT g t) (ctT g t) v0 (n_f v0) ∧ Wr M M2 h ∧ LA (rwM M2 h) (fU (stT g t) v0 (n_f v0)) ∧ LPd (rwM M2 h) u)) ([.ref h, .int (nI w0), .int t] : List Value).toArray s 0 0 (fr_ G)) M1 0 0 21 ([some (.ref h), some (.int (nI w0)), some (.int t), some (.int (fC (stT g t) (ctT g t) v0 i + fC (stB i g t) (ctB i g t) (fU (stT g t) v0 i) j)), some (.int (nI i)), some (.int (nI j)), none] : Lo) [] := by
    intro i hi cont k
    have h12i := c5 i hi
    induction k with
    | zero => intro j M1 w1 w2; omega
    | succ k ih =>
      intro j M1 w1 w2 hj0 hwr hl hp
      have hW1 : Wt M1 := hwr.2.2.2.2.2.2 hW
      have ht1 : m_t M1 h = 12 := (hwr.1.1.2.1 h).trans ht
      have hwz1 := wz_31 hW1 (wf_276 hW1 ht1)
      have hKW : Kp v0 (fU (stT g t) v0 i) := Kp.fU (stT_kp g t) i
      have hKX : Kp v0 (fU (stB i g t) (fU (stT g t) v0 i) j) := hKW.tr (Kp.fU (stB_kp i g t) j)
      have ens : ∀ f, n_s (fU (stB i g t) (fU (stT g t) v0 i) j) f = n_s v0 f := fun f => hKX.n 4 f
      have enf : n_f (fU (stB i g t) (fU (stT g t) v0 i) j) = n_f v0 := hKX.n 0 0
      have ene : n_e (fU (stB i g t) (fU (stT g t) v0 i) j) = n_e v0 := hKX.n 2 0
      have hiX : i < n_f (fU (stB i g t) (fU (stT g t) v0 i) j) := by rw [enf]; exact hi
      have hTX : WfT (fU (stB i g t) (fU (stT g t) v0 i) j) := (hT.fT ht0 i).fB ht0 j
      have hSX : WfS (fU (stB i g t) (fU (stT g t) v0 i) j) := hS.kp hKX
      have e4X : q_i (fU (stB i g t) (fU (stT g t) v0 i) j) 4 i 0 = q_i v0 4 i 0 := hKX.2.2 4 i 0 (by omega)
      refine v_iload hC dX11_settleAll_21 rfl ?_
      refine v_aload_n hC dX11_settleAll_23 rfl rfl ?_
      refine v_iload hC dX11_settleAll_24 rfl ?_
      refine cVi1 hC (c_X11_many hW1 ht1 hl hiX) yv_X11_many rfl ht1 mw_5_15 ⟨Nat.le_of_ble_eq_true rfl, Nat.le_of_ble_eq_true rfl⟩ ⟨Nat.le_of_ble_eq_true rfl, Nat.le_of_ble_eq_true rfl⟩ (Nat.le_of_ble_eq_true rfl) dX11_settleAll_26 (fun r26 M28 hq => ?_)
      obtain ⟨rfl, hm⟩ := hq
      have hm2 := hm.symm
      clear hm
      subst hm2
      rw [ens]
      refine v_icmp_ge hC dX11_settleAll_29 (tgt := 107) (by decide) (fun h29 => ?_) (fun h29 => ?_)
      · have hj := lp_ge h29
        have e4 : q_i (fU (stT g t) v0 i) 4 i 0 = q_i v0 4 i 0 := hKW.2.2 4 i 0 (by omega)
        have en4 : n_s (fU (stT g t) v0 i) i = n_s v0 i := hKW.n 4 i
        have eI : iH (fU (stT g t) v0 i) i ↔ iH v0 i := by unfold iH; rw [e4]
        have hfin : (fU (stB i g t) (fU (stT g t) v0 i) j) = fU (stT g t) v0 (i + 1) ∧ fC (stT g t) (ctT g t) v0 i + fC (stB i g t) (ctB i g t) (fU (stT g t) v0 i) j = fC (stT g t) (ctT g t) v0 (i + 1) := by
          by_cases q : iH v0 i
          · have hje : j = n_s v0 i := by
              first
                | omega
                | exact absurd (show iH (fU (stB i g t) (fU (stT g t) v0 i) j) i by unfold iH; rw [e4X]; exact q) g35
            refine ⟨?_, ?_⟩
            · show _ = stT g t i (fU (stT g t) v0 i)
              have z : stT g t i (fU (stT g t) v0 i) = fU (stB i g t) (fU (stT g t) v0 i) (n_s v0 i) := by
                show (if iH (fU (stT g t) v0 i) i then fU (stB i g t) (fU (stT g t) v0 i) (n_s (fU (stT g t) v0 i) i) else (fU (stT g t) v0 i)) = _
                rw [if_pos (eI.mpr q), en4]
              rw [z, hje]
            · show _ = fC (stT g t) (ctT g t) v0 i + ctT g t i (fU (stT g t) v0 i)
              have z : ctT g t i (fU (stT g t) v0 i) = fC (stB i g t) (ctB i g t) (fU (stT g t) v0 i) (n_s v0 i) := by
                show (if iH (fU (stT g t) v0 i) i then fC (stB i g t) (ctB i g t) (fU (stT g t) v0 i) (n_s (fU (stT g t) v0 i) i) else 0) = _
                rw [if_pos (eI.mpr q), en4]
              rw [z, hje]
          · have hje : j = 0 := hj0 q
            subst hje
            refine ⟨?_, ?_⟩
            · show (fU (stT g t) v0 i) = stT g t i (fU (stT g t) v0 i)
              exact (if_neg (fun z => q (eI.mp z))).symm
            · show fC (stT g t) (ctT g t) v0 i + 0 = fC (stT g t) (ctT g t) v0 i + ctT g t i (fU (stT g t) v0 i)
              rw [show ctT g t i (fU (stT g t) v0 i) = 0 from if_neg (fun z => q (eI.mp z))]
        refine v_drop 5 ?_
        rw [hfin.2]
        exact cont M1 hwr (by rw [← hfin.1]; exact hl) hp
      · have hj := lp_lt h29
        refine v_aload_n hC dX11_settleAll_32 rfl rfl ?_
        refine v_iload hC dX11_settleAll_33 rfl ?_
        refine cVi1 hC (c_X11_isInHand hW1 ht1 hl hSX hiX) yv_X11_isInHand rfl ht1 mw_5_59 ⟨Nat.le_of_ble_eq_true rfl, Nat.le_of_ble_eq_true rfl⟩ ⟨Nat.le_of_ble_eq_true rfl, Nat.le_of_ble_eq_true rfl⟩ (Nat.le_of_ble_eq_true rfl) dX11_settleAll_35 (fun r35 M37 hq => ?_)
        obtain ⟨hm, hq2⟩ := hq
        have hm2 := hm.symm
        clear hm
        subst hm2
        obtain ⟨g35, rfl⟩ | ⟨g35, rfl⟩ := hq2
        · refine v_if_eq hC dX11_settleAll_38 (tgt := 107) (by decide) (fun hx => absurd hx (by decide)) (fun _ => ?_)
          refine v_aload_n hC dX11_settleAll_41 rfl rfl ?_
          refine v_iload hC dX11_settleAll_42 rfl ?_
          refine v_iload hC dX11_settleAll_44 rfl ?_
          refine cVi2 hC (c_X11_segmentAt ht1) yv_X11_segmentAt rfl ht1 mw_5_19 ⟨Nat.le_of_ble_eq_true rfl, Nat.le_of_ble_eq_true rfl⟩ ⟨Nat.le_of_ble_eq_true rfl, Nat.le_of_ble_eq_true rfl⟩ (Nat.le_of_ble_eq_true rfl) dX11_settleAll_46 (fun r46 M48 hq => ?_)
          obtain ⟨rfl, hm⟩ := hq
          have hm2 := hm.symm
          clear hm
          subst hm2
          refine v_ist6 hC dX11_settleAll_49 (by decide) (kk := ?_)
          refine v_aload_n hC dX11_settleAll_51 rfl rfl ?_
          refine v_iload hC dX11_settleAll_52 rfl ?_
          refine cVi1 hC (c_X11_hasTarget hW1 ht1 hl hTX hiX (by rw [ens]; exact hj)) yv_X11_hasTarget rfl ht1 mw_5_68 ⟨Nat.le_of_ble_eq_true rfl, Nat.le_of_ble_eq_true rfl⟩ ⟨Nat.le_of_ble_eq_true rfl, Nat.le_of_ble_eq_true rfl⟩ (Nat.le_of_ble_eq_true rfl) dX11_settleAll_54 (fun r54 M56 hq => ?_)
          obtain ⟨hm, hq2⟩ := hq
          have hm2 := hm.symm
          clear hm
          subst hm2
          obtain ⟨g54, rfl⟩ | ⟨g54, rfl⟩ := hq2
          · refine v_if_eq hC dX11_settleAll_57 (tgt := 101) (by decide) (fun hx => absurd hx (by decide)) (fun _ => ?_)
            refine v_aload_n hC dX11_settleAll_60 rfl rfl ?_
            refine gf_11_0 hC ht1 (wf_276 hW1 ht1) mw_4_120 dX11_settleAll_61 ?_
            refine v_iload hC dX11_settleAll_64 rfl ?_
            refine v_bipush (v := 9) hC dX11_settleAll_66 (by decide) ?_
            refine v_iadd hC dX11_settleAll_68 ?_
            rw [show nI (606 + 11 * (12 * i + j)) + 9 = nI (606 + 11 * (12 * i + j) + 9) from nI_add _ 9]
            refine v_lald 31 hC (wf_276 hW1 ht1) (by decide) (by decide) (ix_c hwz1 (by omega)) dX11_settleAll_69 ?_
            rw [show m_l M1 31 (m_r M1 276 h 0) (606 + 11 * (12 * i + j) + 9) = (q_i (fU (stB i g t) (fU (stT g t) v0 i) j) 9 i j).toInt64 from (hl.s2 hiX (by rw [ens]; exact hj)).1.trans (if_neg (fun q => g54 q.2))]
            refine v_iload_n hC dX11_settleAll_70 rfl rfl ?_
            refine v_i2l hC dX11_settleAll_71 ?_
            refine v_lcmp hC dX11_settleAll_72 ?_
            refine v_if_eq hC dX11_settleAll_73 (tgt := 101) (by decide) (fun h73 => ?_) (fun h73 => ?_)
            · have h73 : q_i (fU (stB i g t) (fU (stT g t) v0 i) j) 9 i j = t := toInt64_inj ((lg_cmp_eq _ _).mp h73)
              first
                | (have zz : ¬ ¬ q_i (fU (stB i g t) (fU (stT g t) v0 i) j) 9 i j = 0 := g54
                   have ze : fC (stB i g t) (ctB i g t) (fU (stT g t) v0 i) (j + 1) = fC (stB i g t) (ctB i g t) (fU (stT g t) v0 i) j + 0 := congrArg _ (if_neg (fun q => zz q.1.1))
                   rw [Int32.add_zero] at ze
                   rw [← ze])
                | (have zz : q_i (fU (stB i g t) (fU (stT g t) v0 i) j) 9 i j = t := h73
                   have ze : fC (stB i g t) (ctB i g t) (fU (stT g t) v0 i) (j + 1) = fC (stB i g t) (ctB i g t) (fU (stT g t) v0 i) j + 0 := congrArg _ (if_neg (fun q => q.1.2 zz))
                   rw [Int32.add_zero] at ze
                   rw [← ze])
                | (have zz : ¬ q_g (fU (stB i g t) (fU (stT g t) v0 i) j) 0 i j = g := ga
                   have ze : fC (stB i g t) (ctB i g t) (fU (stT g t) v0 i) (j + 1) = fC (stB i g t) (ctB i g t) (fU (stT g t) v0 i) j + 0 := congrArg _ (if_neg (fun q => zz q.2))
                   rw [Int32.add_zero] at ze
                   rw [← ze])
                | (have zz : q_g (fU (stB i g t) (fU (stT g t) v0 i) j) 0 i j = g := ga
                   have ze : fC (stB i g t) (ctB i g t) (fU (stT g t) v0 i) (j + 1) = fC (stB i g t) (ctB i g t) (fU (stT g t) v0 i) j + 1 := congrArg _ (if_pos ⟨⟨g54, h73⟩, zz⟩)
                   rw [show fC (stT g t) (ctT g t) v0 i + fC (stB i g t) (ctB i g t) (fU (stT g t) v0 i) j + Int32.ofInt 1 = fC (stT g t) (ctT g t) v0 i + fC (stB i g t) (ctB i g t) (fU (stT g t) v0 i) (j + 1) from by rw [ze, ← Int32.add_assoc]; rfl])
              refine v_inc5 hC dX11_settleAll_101 ((nI_succ j).symm) (by decide) (kk := ?_)
              refine v_goto hC dX11_settleAll_104 (tgt := 21) (by decide) ?_
              refine v_drop 6 ?_
              have hj1 : ¬ iH v0 i → j + 1 = 0 := fun q => absurd g35 (fun z => q (by rw [iH, e4X] at z; exact z))
              first
                | exact ih (j + 1) M1 (by omega) (by omega) hj1 hwr (by rw [show (fU (stB i g t) (fU (stT g t) v0 i) (j + 1)) = (fU (stB i g t) (fU (stT g t) v0 i) j) from if_neg (fun q => by first | exact g54 q.1.1 | exact q.1.2 h73 | exact ga q.2)]; exact hl) hp
                | exact ih (j + 1) _ (by omega) (by omega) hj1 hwr.sl.sl (by
                    rw [rwM_w, rwM_w, show (fU (stB i g t) (fU (stT g t) v0 i) (j + 1)) = u_i (u_i (fU (stB i g t) (fU (stT g t) v0 i) j) 9 i j t) 10 i j 4 from if_pos ⟨⟨g54, h73⟩, ga⟩]
                    exact hl.give (by omega) (by omega) (fun q => by rw [q] at ht0; exact absurd ht0 (by decide))) (by
                    rw [rwM_w, rwM_w]
                    exact hp.give hn6 (by omega) (by omega))
            · have h73 : ¬ q_i (fU (stB i g t) (fU (stT g t) v0 i) j) 9 i j = t := fun q => h73 ((lg_cmp_eq _ _).mpr (by rw [q]))
              refine v_aload_n hC dX11_settleAll_76 rfl rfl ?_
              refine v_iload hC dX11_settleAll_77 rfl ?_
              refine v_aload_n hC dX11_settleAll_79 rfl rfl ?_
              refine v_iload_n hC dX11_settleAll_80 rfl rfl ?_
              refine cVi1 hC (c_X11_entryAt ht1) yv_X11_entryAt rfl ht1 mw_5_35 ⟨Nat.le_of_ble_eq_true rfl, Nat.le_of_ble_eq_true rfl⟩ ⟨Nat.le_of_ble_eq_true rfl, Nat.le_of_ble_eq_true rfl⟩ (Nat.le_of_ble_eq_true rfl) dX11_settleAll_81 (fun r81 M83 hq => ?_)
              obtain ⟨rfl, hm⟩ := hq
              have hm2 := hm.symm
              clear hm
              subst hm2
              refine cVi2 hC (c_X11_areAlike hW1 ht1 (hl.sg hiX (by rw [ens]; exact hj)) (hl.eg (by rw [ene]; exact hw0)) (by omega) (by omega)) yv_X11_areAlike rfl ht1 mw_5_92 ⟨Nat.le_of_ble_eq_true rfl, Nat.le_of_ble_eq_true rfl⟩ ⟨Nat.le_of_ble_eq_true rfl, Nat.le_of_ble_eq_true rfl⟩ (Nat.le_of_ble_eq_true rfl) dX11_settleAll_84 (fun r84 M86 hq => ?_)
              obtain ⟨hm, hq2⟩ := hq
              have hm2 := hm.symm
              clear hm
              subst hm2
              obtain ⟨g84, rfl⟩ | ⟨g84, rfl⟩ := hq2
              · rw [show q_g (fU (stB i g t) (fU (stT g t) v0 i) j) 1 w0 0 = g from (hKX.g 1 w0 0).trans hg] at g84
                have ga := g84
                refine v_if_eq hC dX11_settleAll_87 (tgt := 101) (by decide) (fun hx => absurd hx (by decide)) (fun _ => ?_)
                refine v_aload_n hC dX11_settleAll_90 rfl rfl ?_
                refine v_iload hC dX11_settleAll_91 rfl ?_
                refine v_iload_n hC dX11_settleAll_93 rfl rfl ?_
                refine v_iconst (v := 4) hC dX11_settleAll_94 (by decide) ?_
                refine cVv3 hC (c_X11_give hW1 ht1 (by omega)) yv_X11_give rfl ht1 mw_5_115 ⟨Nat.le_of_ble_eq_true rfl, Nat.le_of_ble_eq_true rfl⟩ ⟨Nat.le_of_ble_eq_true rfl, Nat.le_of_ble_eq_true rfl⟩ (Nat.le_of_ble_eq_true rfl) dX11_settleAll_95 (fun M97 hq => ?_)
                subst hq
                refine v_inc3 hC dX11_settleAll_98 (rfl) (by decide) (kk := ?_)
                first
                  | (have zz : ¬ ¬ q_i (fU (stB i g t) (fU (stT g t) v0 i) j) 9 i j = 0 := g54
                     have ze : fC (stB i g t) (ctB i g t) (fU (stT g t) v0 i) (j + 1) = fC (stB i g t) (ctB i g t) (fU (stT g t) v0 i) j + 0 := congrArg _ (if_neg (fun q => zz q.1.1))
                     rw [Int32.add_zero] at ze
                     rw [← ze])
                  | (have zz : q_i (fU (stB i g t) (fU (stT g t) v0 i) j) 9 i j = t := h73
                     have ze : fC (stB i g t) (ctB i g t) (fU (stT g t) v0 i) (j + 1) = fC (stB i g t) (ctB i g t) (fU (stT g t) v0 i) j + 0 := congrArg _ (if_neg (fun q => q.1.2 zz))
                     rw [Int32.add_zero] at ze
                     rw [← ze])
                  | (have zz : ¬ q_g (fU (stB i g t) (fU (stT g t) v0 i) j) 0 i j = g := ga
                     have ze : fC (stB i g t) (ctB i g t) (fU (stT g t) v0 i) (j + 1) = fC (stB i g t) (ctB i g t) (fU (stT g t) v0 i) j + 0 := congrArg _ (if_neg (fun q => zz q.2))
                     rw [Int32.add_zero] at ze
                     rw [← ze])
                  | (have zz : q_g (fU (stB i g t) (fU (stT g t) v0 i) j) 0 i j = g := ga
                     have ze : fC (stB i g t) (ctB i g t) (fU (stT g t) v0 i) (j + 1) = fC (stB i g t) (ctB i g t) (fU (stT g t) v0 i) j + 1 := congrArg _ (if_pos ⟨⟨g54, h73⟩, zz⟩)
                     rw [show fC (stT g t) (ctT g t) v0 i + fC (stB i g t) (ctB i g t) (fU (stT g t) v0 i) j + Int32.ofInt 1 = fC (stT g t) (ctT g t) v0 i + fC (stB i g t) (ctB i g t) (fU (stT g t) v0 i) (j + 1) from by rw [ze, ← Int32.add_assoc]; rfl])
                refine v_inc5 hC dX11_settleAll_101 ((nI_succ j).symm) (by decide) (kk := ?_)
                refine v_goto hC dX11_settleAll_104 (tgt := 21) (by decide) ?_
                refine v_drop 6 ?_
                have hj1 : ¬ iH v0 i → j + 1 = 0 := fun q => absurd g35 (fun z => q (by rw [iH, e4X] at z; exact z))
                first
                  | exact ih (j + 1) M1 (by omega) (by omega) hj1 hwr (by rw [show (fU (stB i g t) (fU (stT g t) v0 i) (j + 1)) = (fU (stB i g t) (fU (stT g t) v0 i) j) from if_neg (fun q => by first | exact g54 q.1.1 | exact q.1.2 h73 | exact ga q.2)]; exact hl) hp
                  | exact ih (j + 1) _ (by omega) (by omega) hj1 hwr.sl.sl (by
                      rw [rwM_w, rwM_w, show (fU (stB i g t) (fU (stT g t) v0 i) (j + 1)) = u_i (u_i (fU (stB i g t) (fU (stT g t) v0 i) j) 9 i j t) 10 i j 4 from if_pos ⟨⟨g54, h73⟩, ga⟩]
                      exact hl.give (by omega) (by omega) (fun q => by rw [q] at ht0; exact absurd ht0 (by decide))) (by
                      rw [rwM_w, rwM_w]
                      exact hp.give hn6 (by omega) (by omega))
              · rw [show q_g (fU (stB i g t) (fU (stT g t) v0 i) j) 1 w0 0 = g from (hKX.g 1 w0 0).trans hg] at g84
                have ga := g84
                refine v_if_eq hC dX11_settleAll_87 (tgt := 101) (by decide) (fun _ => ?_) (fun hx => absurd hx (by decide))
                first
                  | (have zz : ¬ ¬ q_i (fU (stB i g t) (fU (stT g t) v0 i) j) 9 i j = 0 := g54
                     have ze : fC (stB i g t) (ctB i g t) (fU (stT g t) v0 i) (j + 1) = fC (stB i g t) (ctB i g t) (fU (stT g t) v0 i) j + 0 := congrArg _ (if_neg (fun q => zz q.1.1))
                     rw [Int32.add_zero] at ze
                     rw [← ze])
                  | (have zz : q_i (fU (stB i g t) (fU (stT g t) v0 i) j) 9 i j = t := h73
                     have ze : fC (stB i g t) (ctB i g t) (fU (stT g t) v0 i) (j + 1) = fC (stB i g t) (ctB i g t) (fU (stT g t) v0 i) j + 0 := congrArg _ (if_neg (fun q => q.1.2 zz))
                     rw [Int32.add_zero] at ze
                     rw [← ze])
                  | (have zz : ¬ q_g (fU (stB i g t) (fU (stT g t) v0 i) j) 0 i j = g := ga
                     have ze : fC (stB i g t) (ctB i g t) (fU (stT g t) v0 i) (j + 1) = fC (stB i g t) (ctB i g t) (fU (stT g t) v0 i) j + 0 := congrArg _ (if_neg (fun q => zz q.2))
                     rw [Int32.add_zero] at ze
                     rw [← ze])
                  | (have zz : q_g (fU (stB i g t) (fU (stT g t) v0 i) j) 0 i j = g := ga
                     have ze : fC (stB i g t) (ctB i g t) (fU (stT g t) v0 i) (j + 1) = fC (stB i g t) (ctB i g t) (fU (stT g t) v0 i) j + 1 := congrArg _ (if_pos ⟨⟨g54, h73⟩, zz⟩)
                     rw [show fC (stT g t) (ctT g t) v0 i + fC (stB i g t) (ctB i g t) (fU (stT g t) v0 i) j + Int32.ofInt 1 = fC (stT g t) (ctT g t) v0 i + fC (stB i g t) (ctB i g t) (fU (stT g t) v0 i) (j + 1) from by rw [ze, ← Int32.add_assoc]; rfl])
                refine v_inc5 hC dX11_settleAll_101 ((nI_succ j).symm) (by decide) (kk := ?_)
                refine v_goto hC dX11_settleAll_104 (tgt := 21) (by decide) ?_
                refine v_drop 6 ?_
                have hj1 : ¬ iH v0 i → j + 1 = 0 := fun q => absurd g35 (fun z => q (by rw [iH, e4X] at z; exact z))
                first
                  | exact ih (j + 1) M1 (by omega) (by omega) hj1 hwr (by rw [show (fU (stB i g t) (fU (stT g t) v0 i) (j + 1)) = (fU (stB i g t) (fU (stT g t) v0 i) j) from if_neg (fun q => by first | exact g54 q.1.1 | exact q.1.2 h73 | exact ga q.2)]; exact hl) hp
                  | exact ih (j + 1) _ (by omega) (by omega) hj1 hwr.sl.sl (by
                      rw [rwM_w, rwM_w, show (fU (stB i g t) (fU (stT g t) v0 i) (j + 1)) = u_i (u_i (fU (stB i g t) (fU (stT g t) v0 i) j) 9 i j t) 10 i j 4 from if_pos ⟨⟨g54, h73⟩, ga⟩]
                      exact hl.give (by omega) (by omega) (fun q => by rw [q] at ht0; exact absurd ht0 (by decide))) (by
                      rw [rwM_w, rwM_w]
                      exact hp.give hn6 (by omega) (by omega))
          · refine v_if_eq hC dX11_settleAll_57 (tgt := 101) (by decide) (fun _ => ?_) (fun hx => absurd hx (by decide))
            first
              | (have zz : ¬ ¬ q_i (fU (stB i g t) (fU (stT g t) v0 i) j) 9 i j = 0 := g54
                 have ze : fC (stB i g t) (ctB i g t) (fU (stT g t) v0 i) (j + 1) = fC (stB i g t) (ctB i g t) (fU (stT g t) v0 i) j + 0 := congrArg _ (if_neg (fun q => zz q.1.1))
                 rw [Int32.add_zero] at ze
                 rw [← ze])
              | (have zz : q_i (fU (stB i g t) (fU (stT g t) v0 i) j) 9 i j = t := h73
                 have ze : fC (stB i g t) (ctB i g t) (fU (stT g t) v0 i) (j + 1) = fC (stB i g t) (ctB i g t) (fU (stT g t) v0 i) j + 0 := congrArg _ (if_neg (fun q => q.1.2 zz))
                 rw [Int32.add_zero] at ze
                 rw [← ze])
              | (have zz : ¬ q_g (fU (stB i g t) (fU (stT g t) v0 i) j) 0 i j = g := ga
                 have ze : fC (stB i g t) (ctB i g t) (fU (stT g t) v0 i) (j + 1) = fC (stB i g t) (ctB i g t) (fU (stT g t) v0 i) j + 0 := congrArg _ (if_neg (fun q => zz q.2))
                 rw [Int32.add_zero] at ze
                 rw [← ze])
              | (have zz : q_g (fU (stB i g t) (fU (stT g t) v0 i) j) 0 i j = g := ga
                 have ze : fC (stB i g t) (ctB i g t) (fU (stT g t) v0 i) (j + 1) = fC (stB i g t) (ctB i g t) (fU (stT g t) v0 i) j + 1 := congrArg _ (if_pos ⟨⟨g54, h73⟩, zz⟩)
                 rw [show fC (stT g t) (ctT g t) v0 i + fC (stB i g t) (ctB i g t) (fU (stT g t) v0 i) j + Int32.ofInt 1 = fC (stT g t) (ctT g t) v0 i + fC (stB i g t) (ctB i g t) (fU (stT g t) v0 i) (j + 1) from by rw [ze, ← Int32.add_assoc]; rfl])
            refine v_inc5 hC dX11_settleAll_101 ((nI_succ j).symm) (by decide) (kk := ?_)
            refine v_goto hC dX11_settleAll_104 (tgt := 21) (by decide) ?_
            refine v_drop 6 ?_
            have hj1 : ¬ iH v0 i → j + 1 = 0 := fun q => absurd g35 (fun z => q (by rw [iH, e4X] at z; exact z))
            first
              | exact ih (j + 1) M1 (by omega) (by omega) hj1 hwr (by rw [show (fU (stB i g t) (fU (stT g t) v0 i) (j + 1)) = (fU (stB i g t) (fU (stT g t) v0 i) j) from if_neg (fun q => by first | exact g54 q.1.1 | exact q.1.2 h73 | exact ga q.2)]; exact hl) hp
              | exact ih (j + 1) _ (by omega) (by omega) hj1 hwr.sl.sl (by
                  rw [rwM_w, rwM_w, show (fU (stB i g t) (fU (stT g t) v0 i) (j + 1)) = u_i (u_i (fU (stB i g t) (fU (stT g t) v0 i) j) 9 i j t) 10 i j 4 from if_pos ⟨⟨g54, h73⟩, ga⟩]
                  exact hl.give (by omega) (by omega) (fun q => by rw [q] at ht0; exact absurd ht0 (by decide))) (by
                  rw [rwM_w, rwM_w]
                  exact hp.give hn6 (by omega) (by omega))
        · refine v_if_eq hC dX11_settleAll_38 (tgt := 107) (by decide) (fun _ => ?_) (fun hx => absurd hx (by decide))
          have e4 : q_i (fU (stT g t) v0 i) 4 i 0 = q_i v0 4 i 0 := hKW.2.2 4 i 0 (by omega)
          have en4 : n_s (fU (stT g t) v0 i) i = n_s v0 i := hKW.n 4 i
          have eI : iH (fU (stT g t) v0 i) i ↔ iH v0 i := by unfold iH; rw [e4]
          have hfin : (fU (stB i g t) (fU (stT g t) v0 i) j) = fU (stT g t) v0 (i + 1) ∧ fC (stT g t) (ctT g t) v0 i + fC (stB i g t) (ctB i g t) (fU (stT g t) v0 i) j = fC (stT g t) (ctT g t) v0 (i + 1) := by
            by_cases q : iH v0 i
            · have hje : j = n_s v0 i := by
                first
                  | omega
                  | exact absurd (show iH (fU (stB i g t) (fU (stT g t) v0 i) j) i by unfold iH; rw [e4X]; exact q) g35
              refine ⟨?_, ?_⟩
              · show _ = stT g t i (fU (stT g t) v0 i)
                have z : stT g t i (fU (stT g t) v0 i) = fU (stB i g t) (fU (stT g t) v0 i) (n_s v0 i) := by
                  show (if iH (fU (stT g t) v0 i) i then fU (stB i g t) (fU (stT g t) v0 i) (n_s (fU (stT g t) v0 i) i) else (fU (stT g t) v0 i)) = _
                  rw [if_pos (eI.mpr q), en4]
                rw [z, hje]
              · show _ = fC (stT g t) (ctT g t) v0 i + ctT g t i (fU (stT g t) v0 i)
                have z : ctT g t i (fU (stT g t) v0 i) = fC (stB i g t) (ctB i g t) (fU (stT g t) v0 i) (n_s v0 i) := by
                  show (if iH (fU (stT g t) v0 i) i then fC (stB i g t) (ctB i g t) (fU (stT g t) v0 i) (n_s (fU (stT g t) v0 i) i) else 0) = _
                  rw [if_pos (eI.mpr q), en4]
                rw [z, hje]
            · have hje : j = 0 := hj0 q
              subst hje
              refine ⟨?_, ?_⟩
              · show (fU (stT g t) v0 i) = stT g t i (fU (stT g t) v0 i)
                exact (if_neg (fun z => q (eI.mp z))).symm
              · show fC (stT g t) (ctT g t) v0 i + 0 = fC (stT g t) (ctT g t) v0 i + ctT g t i (fU (stT g t) v0 i)
                rw [show ctT g t i (fU (stT g t) v0 i) = 0 from if_neg (fun z => q (eI.mp z))]
          refine v_drop 5 ?_
          rw [hfin.2]
          exact cont M1 hwr (by rw [← hfin.1]; exact hl) hp
  have loopA : ∀ (k i : Nat) (M1 : Me), i + k = 9 → i ≤ n_f v0 → Wr M M1 h → LA (rwM M1 h) (fU (stT g t) v0 i) → LPd (rwM M1 h) u → V p l e (rmk 3 63 0 0) s m ([.ref h, .int (nI w0), .int t] : List Value).toArray below meth c 7 G (MQ below (Qi G (fun r M2 => r = fC (stT g t) (ctT g t) v0 (n_f v0) ∧ Wr M M2 h ∧ LA (rwM M2 h) (fU (stT g t) v0 (n_f v0)) ∧ LPd (rwM M2 h) u)) ([.ref h, .int (nI w0), .int t] : List Value).toArray s 0 0 (fr_ G)) M1 0 0 5 ([some (.ref h), some (.int (nI w0)), some (.int t), some (.int (fC (stT g t) (ctT g t) v0 i)), some (.int (nI i)), none, none] : Lo) [] := by
    intro k
    induction k with
    | zero => intro i M1 w1 w2; omega
    | succ k ih =>
      intro i M1 w1 w2 hwr hl hp
      have hW1 : Wt M1 := hwr.2.2.2.2.2.2 hW
      have ht1 : m_t M1 h = 12 := (hwr.1.1.2.1 h).trans ht
      have hwz1 := wz_31 hW1 (wf_276 hW1 ht1)
      have hKW : Kp v0 (fU (stT g t) v0 i) := Kp.fU (stT_kp g t) i
      have enf : n_f (fU (stT g t) v0 i) = n_f v0 := hKW.n 0 0
      refine v_iload hC dX11_settleAll_5 rfl ?_
      refine v_i2l hC dX11_settleAll_7 ?_
      rw [nI_l (by omega)]
      refine v_aload_n hC dX11_settleAll_8 rfl rfl ?_
      refine gf_11_0 hC ht1 (wf_276 hW1 ht1) mw_4_120 dX11_settleAll_9 ?_
      refine v_iconst (v := 0) hC dX11_settleAll_12 (by decide) ?_
      refine v_lald 31 hC (wf_276 hW1 ht1) (by decide) (by decide) (ix_q (j := 0) hwz1 rfl) dX11_settleAll_13 ?_
      rw [show m_l M1 31 (m_r M1 276 h 0) 0 = _ from hl.c0, enf]
      refine v_lcmp hC dX11_settleAll_14 ?_
      refine v_if_ge hC dX11_settleAll_15 (tgt := 113) (by decide) (fun h15 => ?_) (fun h15 => ?_)
      · have hi := lc_ge h15
        refine v_iload_n hC dX11_settleAll_113 rfl rfl ?_
        refine v_iret hC dX11_settleAll_114 ?_
        have hie : i = n_f v0 := by omega
        subst hie
        exact ⟨rfl, hwr, hl, hp⟩
      · have hi := lc_lt h15
        refine v_iconst (v := 0) hC dX11_settleAll_18 (by decide) ?_
        refine v_ist5 hC dX11_settleAll_19 (by decide) (kk := ?_)
        rw [show fC (stT g t) (ctT g t) v0 i = fC (stT g t) (ctT g t) v0 i + fC (stB i g t) (ctB i g t) (fU (stT g t) v0 i) 0 from (Int32.add_zero _).symm]
        refine loopB i hi (fun M2 hwr2 hl2 hp2 => ?_) 13 0 M1 (by omega) (Nat.zero_le _) (fun _ => rfl) hwr hl hp
        refine v_inc4 hC dX11_settleAll_107 ((nI_succ i).symm) (by decide) (kk := ?_)
        refine v_goto hC dX11_settleAll_110 (tgt := 5) (by decide) ?_
        exact ih (i + 1) _ (by omega) (by omega) hwr2 hl2 hp2
  refine v_iconst (v := 0) hC dX11_settleAll_0 (by decide) ?_
  refine v_ist3 hC dX11_settleAll_1 (by decide) (kk := ?_)
  refine v_iconst (v := 0) hC dX11_settleAll_2 (by decide) ?_
  refine v_ist4 hC dX11_settleAll_3 (by decide) (kk := ?_)
  exact loopA 9 0 M (by omega) (by omega) Wr.rf hA hP

set_option maxHeartbeats 4000000 in
set_option maxRecDepth 100000 in
theorem c_X11_settle {l : Launch} {G : Gd} {M : Me} {h : Nat} {x : Xs} {y z : Int32} (hW : Wt M) (hX : AR M h x) (hS : WfS (x_u x)) (hT : WfT (x_u x)) (hD6 : WfD (x_u x)) (hQ : WfQ (x_u x)) : CQ (Qi G (fun r M2 => r = (d_settle (x_u x) y z).1 ∧ AR M2 h (acX x (d_settle (x_u x) y z).2) ∧ On M M2 ∧ Wt M2 ∧ Ta M M2 h)) l G yX11_settle cX11_settle 6 ((some .int)) 4 89 0 0 [.ref h, .int y, .int z] M := by
  refine c_of ([some (.ref h), some (.int y), some (.int z), none, none, none] : Lo) RX11 "settle" (by decide) rfl rfl (Nat.le_of_ble_eq_true rfl) rfl (fun p e s m below meth c hC nw => ?_)
  have ht := hX.1
  have hA := hX.2.1.1
  have u1 := hA.1.1
  have u2 := hA.1.2.1
  have u3 := hA.1.2.2.1
  have u4 := hA.1.2.2.2.1
  have hwz := wz_31 hW (wf_276 hW ht)
  refine v_aload_n hC dX11_settle_0 rfl rfl ?_
  refine v_iload_n hC dX11_settle_1 rfl rfl ?_
  refine cVi1 hC (c_X11_noDispute hW ht hA) yv_X11_noDispute rfl ht mw_5_185 ⟨Nat.le_of_ble_eq_true rfl, Nat.le_of_ble_eq_true rfl⟩ ⟨Nat.le_of_ble_eq_true rfl, Nat.le_of_ble_eq_true rfl⟩ (Nat.le_of_ble_eq_true rfl) dX11_settle_2 (fun r2 M4 hq => ?_)
  obtain ⟨hm, hq2⟩ := hq
  have hm2 := hm.symm
  clear hm
  subst hm2
  obtain ⟨g2, rfl⟩ | ⟨g2, rfl⟩ := hq2
  · refine v_if_eq hC dX11_settle_5 (tgt := 10) (by decide) (fun _ => ?_) (fun hx => absurd hx (by decide))
    obtain ⟨d, hd, rfl⟩ := g2
    refine v_iload_n hC dX11_settle_10 rfl rfl ?_
    refine v_iconst (v := 0) hC dX11_settle_11 (by decide) ?_
    refine v_iconst (v := 1) hC dX11_settle_12 (by decide) ?_
    refine cSi3 hC (c_X11_in ) ys_X11_in mw_4_181 ⟨Nat.le_of_ble_eq_true rfl, Nat.le_of_ble_eq_true rfl⟩ ⟨Nat.le_of_ble_eq_true rfl, Nat.le_of_ble_eq_true rfl⟩ (Nat.le_of_ble_eq_true rfl) dX11_settle_13 (fun r13 M15 hq => ?_)
    obtain ⟨hm, hq2⟩ := hq
    have hm2 := hm.symm
    clear hm
    subst hm2
    obtain ⟨g13, rfl⟩ | ⟨g13, rfl⟩ := hq2
    · refine v_if_ne hC dX11_settle_16 (tgt := 22) (by decide) (fun _ => ?_) (fun hx => absurd hx (by decide))
      refine v_aload_n hC dX11_settle_22 rfl rfl ?_
      refine v_iload_n hC dX11_settle_23 rfl rfl ?_
      refine cVi1 hC (c_X11_disputeAt ht) yv_X11_disputeAt rfl ht mw_5_135 ⟨Nat.le_of_ble_eq_true rfl, Nat.le_of_ble_eq_true rfl⟩ ⟨Nat.le_of_ble_eq_true rfl, Nat.le_of_ble_eq_true rfl⟩ (Nat.le_of_ble_eq_true rfl) dX11_settle_24 (fun r24 M26 hq => ?_)
      obtain ⟨rfl, hm⟩ := hq
      have hm2 := hm.symm
      clear hm
      subst hm2
      refine v_ist3 hC dX11_settle_27 (by decide) (kk := ?_)
      refine v_aload_n hC dX11_settle_28 rfl rfl ?_
      refine gf_11_0 hC ht (wf_276 hW ht) mw_4_120 dX11_settle_29 ?_
      refine v_iload_n hC dX11_settle_32 rfl rfl ?_
      refine v_iconst (v := 3) hC dX11_settle_33 (by decide) ?_
      refine v_iadd hC dX11_settle_34 ?_
      rw [show nI (116 + 5 * d) + 3 = nI (116 + 5 * d + 3) from nI_add _ 3]
      refine v_lald 31 hC (wf_276 hW ht) (by decide) (by decide) (ix_c hwz (by omega)) dX11_settle_35 ?_
      rw [show m_l M 31 (m_r M 276 h 0) (116 + 5 * d + 3) = _ from (hA.d5 hd).2.2.2.1]
      refine v_lconst (v := 1) hC dX11_settle_36 (by decide) ?_
      refine v_lcmp hC dX11_settle_37 ?_
      refine v_if_ne hC dX11_settle_38 (tgt := 44) (by decide) (fun h38 => ?_) (fun h38 => ?_)
      · have h38 : q_i (x_u x) 16 d 0 = 0 := Decidable.byContradiction fun q => by
          rw [if_neg q] at h38
          exact h38 (by decide)
        refine v_aload_n hC dX11_settle_44 rfl rfl ?_
        refine cVv0 hC (c_X11_record hW hX) yv_X11_record rfl ht mw_4_173 ⟨Nat.le_of_ble_eq_true rfl, Nat.le_of_ble_eq_true rfl⟩ ⟨Nat.le_of_ble_eq_true rfl, Nat.le_of_ble_eq_true rfl⟩ (Nat.le_of_ble_eq_true rfl) dX11_settle_45 (fun M47 hq => ?_)
        obtain ⟨hX9, hOn9, hW9, hTa9⟩ := hq
        have ht9 := hX9.1
        have hL9 := hX9.pu
        have hwz9 := wz_31 hW9 (wf_276 hW9 ht9)
        refine v_aload_n hC dX11_settle_48 rfl rfl ?_
        refine v_iload_n hC dX11_settle_49 rfl rfl ?_
        refine v_iconst (v := 0) hC dX11_settle_50 (by decide) ?_
        refine v_iadd hC dX11_settle_51 ?_
        obtain ⟨w0, hw0, ew0⟩ := hD6 d hd
        rw [show nI (116 + 5 * d) + 0 = nI (116 + 5 * d) from nI_add _ 0]
        refine cVi1 hC (c_X11_number hW9 ht9 (by omega)) yv_X11_number rfl ht9 mw_4_165 ⟨Nat.le_of_ble_eq_true rfl, Nat.le_of_ble_eq_true rfl⟩ ⟨Nat.le_of_ble_eq_true rfl, Nat.le_of_ble_eq_true rfl⟩ (Nat.le_of_ble_eq_true rfl) dX11_settle_52 (fun r52 M54 hq => ?_)
        obtain ⟨rfl, hm⟩ := hq
        have hm2 := hm.symm
        clear hm
        subst hm2
        rw [show (rwM M47 h (116 + 5 * d)).toInt32 = nI w0 from by rw [show rwM M47 h (116 + 5 * d) = _ from (hL9.1.d5 hd).1, Int32.toInt32_toInt64, ew0]]
        refine v_ist4 hC dX11_settle_55 (by decide) (kk := ?_)
        have dummy : True := trivial
        refine v_aload_n hC dX11_settle_57 rfl rfl ?_
        refine v_iload_n hC dX11_settle_58 rfl rfl ?_
        refine v_iload_n hC dX11_settle_59 rfl rfl ?_
        refine v_if_ne hC dX11_settle_60 (tgt := 67) (by decide) (fun h60 => ?_) (fun h60 => ?_)
        · refine v_iconst (v := 2) hC dX11_settle_67 (by decide) ?_
          refine v_iadd hC dX11_settle_68 ?_
          first
            | rw [show nI (116 + 5 * d) + 1 = nI (116 + 5 * d + 1) from nI_add _ 1]
            | rw [show nI (116 + 5 * d) + 2 = nI (116 + 5 * d + 2) from nI_add _ 2]
          refine cVi1 hC (c_X11_number hW9 ht9 (by omega)) yv_X11_number rfl ht9 mw_4_165 ⟨Nat.le_of_ble_eq_true rfl, Nat.le_of_ble_eq_true rfl⟩ ⟨Nat.le_of_ble_eq_true rfl, Nat.le_of_ble_eq_true rfl⟩ (Nat.le_of_ble_eq_true rfl) dX11_settle_69 (fun r69 M71 hq => ?_)
          obtain ⟨rfl, hm⟩ := hq
          have hm2 := hm.symm
          clear hm
          subst hm2
          first
            | rw [show (rwM M47 h (116 + 5 * d + 1)).toInt32 = chD (x_u x) d z from by rw [show rwM M47 h (116 + 5 * d + 1) = _ from (hL9.1.d5 hd).2.1, Int32.toInt32_toInt64]; exact (if_pos h60).symm]
            | rw [show (rwM M47 h (116 + 5 * d + 2)).toInt32 = chD (x_u x) d z from by rw [show rwM M47 h (116 + 5 * d + 2) = _ from (hL9.1.d5 hd).2.2.1, Int32.toInt32_toInt64]; exact (if_neg h60).symm]
          refine v_ist5 hC dX11_settle_72 (by decide) (kk := ?_)
          refine v_aload_n hC dX11_settle_74 rfl rfl ?_
          refine gf_11_0 hC ht9 (wf_276 hW9 ht9) mw_4_120 dX11_settle_75 ?_
          refine v_iload_n hC dX11_settle_78 rfl rfl ?_
          refine v_iconst (v := 3) hC dX11_settle_79 (by decide) ?_
          refine v_iadd hC dX11_settle_80 ?_
          rw [show nI (116 + 5 * d) + 3 = nI (116 + 5 * d + 3) from nI_add _ 3]
          refine v_lconst (v := 1) hC dX11_settle_81 (by decide) ?_
          refine v_last 31 hC (wf_276 hW9 ht9) (by decide) (by decide) (ix_c hwz9 (by omega)) dX11_settle_82 ?_
          refine v_aload_n hC dX11_settle_83 rfl rfl ?_
          refine gf_11_0 hC ht9 (wf_276 hW9 ht9) mw_4_120 dX11_settle_84 ?_
          refine v_iload_n hC dX11_settle_87 rfl rfl ?_
          refine v_iconst (v := 4) hC dX11_settle_88 (by decide) ?_
          refine v_iadd hC dX11_settle_89 ?_
          rw [show nI (116 + 5 * d) + 4 = nI (116 + 5 * d + 4) from nI_add _ 4]
          refine v_iload hC dX11_settle_90 rfl ?_
          refine v_i2l hC dX11_settle_92 ?_
          refine v_last 31 hC (wf_276 hW9 ht9) (by decide) (by decide) (ix_c hwz9 (by omega)) dX11_settle_93 ?_
          refine v_aload_n hC dX11_settle_94 rfl rfl ?_
          refine gf_11_0 hC ht9 (wf_276 hW9 ht9) mw_4_120 dX11_settle_95 ?_
          refine v_aload_n hC dX11_settle_98 rfl rfl ?_
          refine v_iload hC dX11_settle_99 rfl ?_
          refine cVi1 hC (c_X11_entryAt ht9) yv_X11_entryAt rfl ht9 mw_5_35 ⟨Nat.le_of_ble_eq_true rfl, Nat.le_of_ble_eq_true rfl⟩ ⟨Nat.le_of_ble_eq_true rfl, Nat.le_of_ble_eq_true rfl⟩ (Nat.le_of_ble_eq_true rfl) dX11_settle_101 (fun r101 M103 hq => ?_)
          obtain ⟨rfl, hm⟩ := hq
          have hm2 := hm.symm
          clear hm
          subst hm2
          refine v_bipush (v := 9) hC dX11_settle_104 (by decide) ?_
          refine v_iadd hC dX11_settle_106 ?_
          rw [show nI (166 + 11 * w0) + 9 = nI (166 + 11 * w0 + 9) from nI_add _ 9]
          refine v_iload hC dX11_settle_107 rfl ?_
          refine v_i2l hC dX11_settle_109 ?_
          refine v_last 31 hC (wf_276 hW9 ht9) (by decide) (by decide) (ix_c hwz9 (by omega)) dX11_settle_110 ?_
          refine v_aload_n hC dX11_settle_111 rfl rfl ?_
          refine gf_11_0 hC ht9 (wf_276 hW9 ht9) mw_4_120 dX11_settle_112 ?_
          refine v_aload_n hC dX11_settle_115 rfl rfl ?_
          refine v_iload hC dX11_settle_116 rfl ?_
          refine cVi1 hC (c_X11_entryAt ht9) yv_X11_entryAt rfl ht9 mw_5_35 ⟨Nat.le_of_ble_eq_true rfl, Nat.le_of_ble_eq_true rfl⟩ ⟨Nat.le_of_ble_eq_true rfl, Nat.le_of_ble_eq_true rfl⟩ (Nat.le_of_ble_eq_true rfl) dX11_settle_118 (fun r118 M120 hq => ?_)
          obtain ⟨rfl, hm⟩ := hq
          have hm2 := hm.symm
          clear hm
          subst hm2
          refine v_bipush (v := 10) hC dX11_settle_121 (by decide) ?_
          refine v_iadd hC dX11_settle_123 ?_
          rw [show nI (166 + 11 * w0) + 10 = nI (166 + 11 * w0 + 10) from nI_add _ 10]
          refine v_lconst (v := 1) hC dX11_settle_124 (by decide) ?_
          refine v_last 31 hC (wf_276 hW9 ht9) (by decide) (by decide) (ix_c hwz9 (by omega)) dX11_settle_125 ?_
          have hc : 0 < chD (x_u x) d z := chD_0 (hQ d hd)
          have hc0 : ¬ chD (x_u x) d z = 0 := fun q => by rw [q] at hc; exact absurd hc (by decide)
          have hc11 : ∀ k, 11 ≤ k → k ≤ 12 → cpR k w0 0 := fun k q1 q2 => Or.inr (Or.inr (Or.inr (Or.inr (Or.inl ⟨q1, q2, by omega, rfl⟩))))
          have hA9 : LA (rwM (s_l (s_l (s_l (s_l M47 31 (m_r M47 276 h 0) (116 + 5 * d + 3) 1) 31 (m_r (s_l M47 31 (m_r M47 276 h 0) (116 + 5 * d + 3) 1) 276 h 0) (116 + 5 * d + 4) (chD (x_u x) d z).toInt64) 31 (m_r (s_l (s_l M47 31 (m_r M47 276 h 0) (116 + 5 * d + 3) 1) 31 (m_r (s_l M47 31 (m_r M47 276 h 0) (116 + 5 * d + 3) 1) 276 h 0) (116 + 5 * d + 4) (chD (x_u x) d z).toInt64) 276 h 0) (166 + 11 * w0 + 9) (chD (x_u x) d z).toInt64) 31 (m_r (s_l (s_l (s_l M47 31 (m_r M47 276 h 0) (116 + 5 * d + 3) 1) 31 (m_r (s_l M47 31 (m_r M47 276 h 0) (116 + 5 * d + 3) 1) 276 h 0) (116 + 5 * d + 4) (chD (x_u x) d z).toInt64) 31 (m_r (s_l (s_l M47 31 (m_r M47 276 h 0) (116 + 5 * d + 3) 1) 31 (m_r (s_l M47 31 (m_r M47 276 h 0) (116 + 5 * d + 3) 1) 276 h 0) (116 + 5 * d + 4) (chD (x_u x) d z).toInt64) 276 h 0) (166 + 11 * w0 + 9) (chD (x_u x) d z).toInt64) 276 h 0) (166 + 11 * w0 + 10) 1) h) (mkB (x_u x) d w0 (chD (x_u x) d z)) := by
            rw [rwM_w, rwM_w, rwM_w, rwM_w, show 116 + 5 * d + 3 = pl 23 d 0 by simp [pl, pB_, pA_, pJ_]; omega, show 116 + 5 * d + 4 = pl 16 d 0 by simp [pl, pB_, pA_, pJ_]; omega, show 166 + 11 * w0 + 9 = pl 11 w0 0 by simp [pl, pB_, pA_, pJ_]; omega, show 166 + 11 * w0 + 10 = pl 12 w0 0 by simp [pl, pB_, pA_, pJ_]; omega]
            have a1 := hL9.1.w16 (v := chD (x_u x) d z) d (by omega)
            rw [if_neg hc0, show eb 16 (chD (x_u x) d z) = (chD (x_u x) d z).toInt64 from if_neg (fun q => hc0 q.2)] at a1
            have a3 := (a1.w (v := chD (x_u x) d z) 11 w0 0 (hc11 11 (by decide) (by decide)) (by decide) (by decide)).w (v := 1) 12 w0 0 (hc11 12 (by decide) (by decide)) (by decide) (by decide)
            rw [show eb 11 (chD (x_u x) d z) = (chD (x_u x) d z).toInt64 from eb_o (by decide) (by decide), show eb 12 1 = 1 by decide] at a3
            exact a3
          have hP9 : LPd (rwM (s_l (s_l (s_l (s_l M47 31 (m_r M47 276 h 0) (116 + 5 * d + 3) 1) 31 (m_r (s_l M47 31 (m_r M47 276 h 0) (116 + 5 * d + 3) 1) 276 h 0) (116 + 5 * d + 4) (chD (x_u x) d z).toInt64) 31 (m_r (s_l (s_l M47 31 (m_r M47 276 h 0) (116 + 5 * d + 3) 1) 31 (m_r (s_l M47 31 (m_r M47 276 h 0) (116 + 5 * d + 3) 1) 276 h 0) (116 + 5 * d + 4) (chD (x_u x) d z).toInt64) 276 h 0) (166 + 11 * w0 + 9) (chD (x_u x) d z).toInt64) 31 (m_r (s_l (s_l (s_l M47 31 (m_r M47 276 h 0) (116 + 5 * d + 3) 1) 31 (m_r (s_l M47 31 (m_r M47 276 h 0) (116 + 5 * d + 3) 1) 276 h 0) (116 + 5 * d + 4) (chD (x_u x) d z).toInt64) 31 (m_r (s_l (s_l M47 31 (m_r M47 276 h 0) (116 + 5 * d + 3) 1) 31 (m_r (s_l M47 31 (m_r M47 276 h 0) (116 + 5 * d + 3) 1) 276 h 0) (116 + 5 * d + 4) (chD (x_u x) d z).toInt64) 276 h 0) (166 + 11 * w0 + 9) (chD (x_u x) d z).toInt64) 276 h 0) (166 + 11 * w0 + 10) 1) h) (x_u x) := by
            rw [rwM_w, rwM_w, rwM_w, rwM_w, show 116 + 5 * d + 3 = pl 23 d 0 by simp [pl, pB_, pA_, pJ_]; omega, show 116 + 5 * d + 4 = pl 16 d 0 by simp [pl, pB_, pA_, pJ_]; omega, show 166 + 11 * w0 + 9 = pl 11 w0 0 by simp [pl, pB_, pA_, pJ_]; omega, show 166 + 11 * w0 + 10 = pl 12 w0 0 by simp [pl, pB_, pA_, pJ_]; omega]
            exact (((hL9.2.off 23 d 0 u2 (cX_23 (by omega)) (by decide)).off 16 d 0 u2 (Or.inl (Or.inr (Or.inr (Or.inr (Or.inr (Or.inr (Or.inl ⟨by decide, by decide, by omega, rfl⟩))))))) (by decide)).off 11 w0 0 u2 (Or.inl (hc11 11 (by decide) (by decide))) (by decide)).off 12 w0 0 u2 (Or.inl (hc11 12 (by decide) (by decide))) (by decide)
          have hWe : Wt (s_l (s_l (s_l (s_l M47 31 (m_r M47 276 h 0) (116 + 5 * d + 3) 1) 31 (m_r (s_l M47 31 (m_r M47 276 h 0) (116 + 5 * d + 3) 1) 276 h 0) (116 + 5 * d + 4) (chD (x_u x) d z).toInt64) 31 (m_r (s_l (s_l M47 31 (m_r M47 276 h 0) (116 + 5 * d + 3) 1) 31 (m_r (s_l M47 31 (m_r M47 276 h 0) (116 + 5 * d + 3) 1) 276 h 0) (116 + 5 * d + 4) (chD (x_u x) d z).toInt64) 276 h 0) (166 + 11 * w0 + 9) (chD (x_u x) d z).toInt64) 31 (m_r (s_l (s_l (s_l M47 31 (m_r M47 276 h 0) (116 + 5 * d + 3) 1) 31 (m_r (s_l M47 31 (m_r M47 276 h 0) (116 + 5 * d + 3) 1) 276 h 0) (116 + 5 * d + 4) (chD (x_u x) d z).toInt64) 31 (m_r (s_l (s_l M47 31 (m_r M47 276 h 0) (116 + 5 * d + 3) 1) 31 (m_r (s_l M47 31 (m_r M47 276 h 0) (116 + 5 * d + 3) 1) 276 h 0) (116 + 5 * d + 4) (chD (x_u x) d z).toInt64) 276 h 0) (166 + 11 * w0 + 9) (chD (x_u x) d z).toInt64) 276 h 0) (166 + 11 * w0 + 10) 1) := hW9
          have hte : m_t (s_l (s_l (s_l (s_l M47 31 (m_r M47 276 h 0) (116 + 5 * d + 3) 1) 31 (m_r (s_l M47 31 (m_r M47 276 h 0) (116 + 5 * d + 3) 1) 276 h 0) (116 + 5 * d + 4) (chD (x_u x) d z).toInt64) 31 (m_r (s_l (s_l M47 31 (m_r M47 276 h 0) (116 + 5 * d + 3) 1) 31 (m_r (s_l M47 31 (m_r M47 276 h 0) (116 + 5 * d + 3) 1) 276 h 0) (116 + 5 * d + 4) (chD (x_u x) d z).toInt64) 276 h 0) (166 + 11 * w0 + 9) (chD (x_u x) d z).toInt64) 31 (m_r (s_l (s_l (s_l M47 31 (m_r M47 276 h 0) (116 + 5 * d + 3) 1) 31 (m_r (s_l M47 31 (m_r M47 276 h 0) (116 + 5 * d + 3) 1) 276 h 0) (116 + 5 * d + 4) (chD (x_u x) d z).toInt64) 31 (m_r (s_l (s_l M47 31 (m_r M47 276 h 0) (116 + 5 * d + 3) 1) 31 (m_r (s_l M47 31 (m_r M47 276 h 0) (116 + 5 * d + 3) 1) 276 h 0) (116 + 5 * d + 4) (chD (x_u x) d z).toInt64) 276 h 0) (166 + 11 * w0 + 9) (chD (x_u x) d z).toInt64) 276 h 0) (166 + 11 * w0 + 10) 1) h = 12 := ht9
          have hSe : WfS (mkB (x_u x) d w0 (chD (x_u x) d z)) := fun f hf => by
            rw [show q_i (mkB (x_u x) d w0 (chD (x_u x) d z)) 4 f 0 = q_i (x_u x) 4 f 0 from (q_ik (by decide)).trans ((q_ik (by decide)).trans (q_ik (by decide)))]
            exact hS f hf
          have hTe : WfT (mkB (x_u x) d w0 (chD (x_u x) d z)) := fun f s hf hs => by
            rw [show q_i (mkB (x_u x) d w0 (chD (x_u x) d z)) 9 f s = q_i (x_u x) 9 f s from (q_ik (by decide)).trans ((q_ik (by decide)).trans (q_ik (by decide))), show q_i (mkB (x_u x) d w0 (chD (x_u x) d z)) 10 f s = q_i (x_u x) 10 f s from (q_ik (by decide)).trans ((q_ik (by decide)).trans (q_ik (by decide)))]
            exact hT f s hf hs
          refine v_aload_n hC dX11_settle_126 rfl rfl ?_
          refine v_iload hC dX11_settle_127 rfl ?_
          refine v_iload hC dX11_settle_129 rfl ?_
          refine cVi2 hC (c_X11_settleAll hWe hte hA9 hP9 u2 hSe hTe (show w0 < n_e (x_u x) from hw0) rfl hc) yv_X11_settleAll rfl ht9 mw_5_189 ⟨Nat.le_of_ble_eq_true rfl, Nat.le_of_ble_eq_true rfl⟩ ⟨Nat.le_of_ble_eq_true rfl, Nat.le_of_ble_eq_true rfl⟩ (Nat.le_of_ble_eq_true rfl) dX11_settle_131 (fun r131 M133 hq => ?_)
          obtain ⟨rfl, hwr9, hl9, hp9⟩ := hq
          refine v_iret hC dX11_settle_134 ?_
          have ek : (q_i (x_u x) 13 d 0).toNatClampNeg = w0 := by rw [ew0, nI_clamp (by omega)]
          have hD : d_settle (x_u x) (nI d) z = (decC (x_u x) d w0 z, some (decU (x_u x) d w0 z)) := by
            rw [d_settle, inN_s hd]; show (if _ then _ else _) = _
            rw [if_neg (in01n g13), if_neg (fun q => q h38), ek]
          rw [hD]
          refine ⟨rfl, Wr.end hX9 (Wr.tr (by repeat (first | exact Wr.rf | refine Wr.sl ?_)) hwr9) hOn9 hW9 hTa9 ⟨hl9, hp9.same ((PdF.mk).tr (PdF.kp (Kp.fU (stT_kp _ _) _))) ?_⟩⟩
          show (decU (x_u x) d w0 z).1 1 0 = (x_u x).1 1 0
          unfold decU
          rw [(Kp.fU (stT_kp _ _) _).1]; rfl
        · refine v_iconst (v := 1) hC dX11_settle_63 (by decide) ?_
          refine v_goto hC dX11_settle_64 (tgt := 68) (by decide) ?_
          refine v_iadd hC dX11_settle_68 ?_
          first
            | rw [show nI (116 + 5 * d) + 1 = nI (116 + 5 * d + 1) from nI_add _ 1]
            | rw [show nI (116 + 5 * d) + 2 = nI (116 + 5 * d + 2) from nI_add _ 2]
          refine cVi1 hC (c_X11_number hW9 ht9 (by omega)) yv_X11_number rfl ht9 mw_4_165 ⟨Nat.le_of_ble_eq_true rfl, Nat.le_of_ble_eq_true rfl⟩ ⟨Nat.le_of_ble_eq_true rfl, Nat.le_of_ble_eq_true rfl⟩ (Nat.le_of_ble_eq_true rfl) dX11_settle_69 (fun r69 M71 hq => ?_)
          obtain ⟨rfl, hm⟩ := hq
          have hm2 := hm.symm
          clear hm
          subst hm2
          first
            | rw [show (rwM M47 h (116 + 5 * d + 1)).toInt32 = chD (x_u x) d z from by rw [show rwM M47 h (116 + 5 * d + 1) = _ from (hL9.1.d5 hd).2.1, Int32.toInt32_toInt64]; exact (if_pos h60).symm]
            | rw [show (rwM M47 h (116 + 5 * d + 2)).toInt32 = chD (x_u x) d z from by rw [show rwM M47 h (116 + 5 * d + 2) = _ from (hL9.1.d5 hd).2.2.1, Int32.toInt32_toInt64]; exact (if_neg h60).symm]
          refine v_ist5 hC dX11_settle_72 (by decide) (kk := ?_)
          refine v_aload_n hC dX11_settle_74 rfl rfl ?_
          refine gf_11_0 hC ht9 (wf_276 hW9 ht9) mw_4_120 dX11_settle_75 ?_
          refine v_iload_n hC dX11_settle_78 rfl rfl ?_
          refine v_iconst (v := 3) hC dX11_settle_79 (by decide) ?_
          refine v_iadd hC dX11_settle_80 ?_
          rw [show nI (116 + 5 * d) + 3 = nI (116 + 5 * d + 3) from nI_add _ 3]
          refine v_lconst (v := 1) hC dX11_settle_81 (by decide) ?_
          refine v_last 31 hC (wf_276 hW9 ht9) (by decide) (by decide) (ix_c hwz9 (by omega)) dX11_settle_82 ?_
          refine v_aload_n hC dX11_settle_83 rfl rfl ?_
          refine gf_11_0 hC ht9 (wf_276 hW9 ht9) mw_4_120 dX11_settle_84 ?_
          refine v_iload_n hC dX11_settle_87 rfl rfl ?_
          refine v_iconst (v := 4) hC dX11_settle_88 (by decide) ?_
          refine v_iadd hC dX11_settle_89 ?_
          rw [show nI (116 + 5 * d) + 4 = nI (116 + 5 * d + 4) from nI_add _ 4]
          refine v_iload hC dX11_settle_90 rfl ?_
          refine v_i2l hC dX11_settle_92 ?_
          refine v_last 31 hC (wf_276 hW9 ht9) (by decide) (by decide) (ix_c hwz9 (by omega)) dX11_settle_93 ?_
          refine v_aload_n hC dX11_settle_94 rfl rfl ?_
          refine gf_11_0 hC ht9 (wf_276 hW9 ht9) mw_4_120 dX11_settle_95 ?_
          refine v_aload_n hC dX11_settle_98 rfl rfl ?_
          refine v_iload hC dX11_settle_99 rfl ?_
          refine cVi1 hC (c_X11_entryAt ht9) yv_X11_entryAt rfl ht9 mw_5_35 ⟨Nat.le_of_ble_eq_true rfl, Nat.le_of_ble_eq_true rfl⟩ ⟨Nat.le_of_ble_eq_true rfl, Nat.le_of_ble_eq_true rfl⟩ (Nat.le_of_ble_eq_true rfl) dX11_settle_101 (fun r101 M103 hq => ?_)
          obtain ⟨rfl, hm⟩ := hq
          have hm2 := hm.symm
          clear hm
          subst hm2
          refine v_bipush (v := 9) hC dX11_settle_104 (by decide) ?_
          refine v_iadd hC dX11_settle_106 ?_
          rw [show nI (166 + 11 * w0) + 9 = nI (166 + 11 * w0 + 9) from nI_add _ 9]
          refine v_iload hC dX11_settle_107 rfl ?_
          refine v_i2l hC dX11_settle_109 ?_
          refine v_last 31 hC (wf_276 hW9 ht9) (by decide) (by decide) (ix_c hwz9 (by omega)) dX11_settle_110 ?_
          refine v_aload_n hC dX11_settle_111 rfl rfl ?_
          refine gf_11_0 hC ht9 (wf_276 hW9 ht9) mw_4_120 dX11_settle_112 ?_
          refine v_aload_n hC dX11_settle_115 rfl rfl ?_
          refine v_iload hC dX11_settle_116 rfl ?_
          refine cVi1 hC (c_X11_entryAt ht9) yv_X11_entryAt rfl ht9 mw_5_35 ⟨Nat.le_of_ble_eq_true rfl, Nat.le_of_ble_eq_true rfl⟩ ⟨Nat.le_of_ble_eq_true rfl, Nat.le_of_ble_eq_true rfl⟩ (Nat.le_of_ble_eq_true rfl) dX11_settle_118 (fun r118 M120 hq => ?_)
          obtain ⟨rfl, hm⟩ := hq
          have hm2 := hm.symm
          clear hm
          subst hm2
          refine v_bipush (v := 10) hC dX11_settle_121 (by decide) ?_
          refine v_iadd hC dX11_settle_123 ?_
          rw [show nI (166 + 11 * w0) + 10 = nI (166 + 11 * w0 + 10) from nI_add _ 10]
          refine v_lconst (v := 1) hC dX11_settle_124 (by decide) ?_
          refine v_last 31 hC (wf_276 hW9 ht9) (by decide) (by decide) (ix_c hwz9 (by omega)) dX11_settle_125 ?_
          have hc : 0 < chD (x_u x) d z := chD_0 (hQ d hd)
          have hc0 : ¬ chD (x_u x) d z = 0 := fun q => by rw [q] at hc; exact absurd hc (by decide)
          have hc11 : ∀ k, 11 ≤ k → k ≤ 12 → cpR k w0 0 := fun k q1 q2 => Or.inr (Or.inr (Or.inr (Or.inr (Or.inl ⟨q1, q2, by omega, rfl⟩))))
          have hA9 : LA (rwM (s_l (s_l (s_l (s_l M47 31 (m_r M47 276 h 0) (116 + 5 * d + 3) 1) 31 (m_r (s_l M47 31 (m_r M47 276 h 0) (116 + 5 * d + 3) 1) 276 h 0) (116 + 5 * d + 4) (chD (x_u x) d z).toInt64) 31 (m_r (s_l (s_l M47 31 (m_r M47 276 h 0) (116 + 5 * d + 3) 1) 31 (m_r (s_l M47 31 (m_r M47 276 h 0) (116 + 5 * d + 3) 1) 276 h 0) (116 + 5 * d + 4) (chD (x_u x) d z).toInt64) 276 h 0) (166 + 11 * w0 + 9) (chD (x_u x) d z).toInt64) 31 (m_r (s_l (s_l (s_l M47 31 (m_r M47 276 h 0) (116 + 5 * d + 3) 1) 31 (m_r (s_l M47 31 (m_r M47 276 h 0) (116 + 5 * d + 3) 1) 276 h 0) (116 + 5 * d + 4) (chD (x_u x) d z).toInt64) 31 (m_r (s_l (s_l M47 31 (m_r M47 276 h 0) (116 + 5 * d + 3) 1) 31 (m_r (s_l M47 31 (m_r M47 276 h 0) (116 + 5 * d + 3) 1) 276 h 0) (116 + 5 * d + 4) (chD (x_u x) d z).toInt64) 276 h 0) (166 + 11 * w0 + 9) (chD (x_u x) d z).toInt64) 276 h 0) (166 + 11 * w0 + 10) 1) h) (mkB (x_u x) d w0 (chD (x_u x) d z)) := by
            rw [rwM_w, rwM_w, rwM_w, rwM_w, show 116 + 5 * d + 3 = pl 23 d 0 by simp [pl, pB_, pA_, pJ_]; omega, show 116 + 5 * d + 4 = pl 16 d 0 by simp [pl, pB_, pA_, pJ_]; omega, show 166 + 11 * w0 + 9 = pl 11 w0 0 by simp [pl, pB_, pA_, pJ_]; omega, show 166 + 11 * w0 + 10 = pl 12 w0 0 by simp [pl, pB_, pA_, pJ_]; omega]
            have a1 := hL9.1.w16 (v := chD (x_u x) d z) d (by omega)
            rw [if_neg hc0, show eb 16 (chD (x_u x) d z) = (chD (x_u x) d z).toInt64 from if_neg (fun q => hc0 q.2)] at a1
            have a3 := (a1.w (v := chD (x_u x) d z) 11 w0 0 (hc11 11 (by decide) (by decide)) (by decide) (by decide)).w (v := 1) 12 w0 0 (hc11 12 (by decide) (by decide)) (by decide) (by decide)
            rw [show eb 11 (chD (x_u x) d z) = (chD (x_u x) d z).toInt64 from eb_o (by decide) (by decide), show eb 12 1 = 1 by decide] at a3
            exact a3
          have hP9 : LPd (rwM (s_l (s_l (s_l (s_l M47 31 (m_r M47 276 h 0) (116 + 5 * d + 3) 1) 31 (m_r (s_l M47 31 (m_r M47 276 h 0) (116 + 5 * d + 3) 1) 276 h 0) (116 + 5 * d + 4) (chD (x_u x) d z).toInt64) 31 (m_r (s_l (s_l M47 31 (m_r M47 276 h 0) (116 + 5 * d + 3) 1) 31 (m_r (s_l M47 31 (m_r M47 276 h 0) (116 + 5 * d + 3) 1) 276 h 0) (116 + 5 * d + 4) (chD (x_u x) d z).toInt64) 276 h 0) (166 + 11 * w0 + 9) (chD (x_u x) d z).toInt64) 31 (m_r (s_l (s_l (s_l M47 31 (m_r M47 276 h 0) (116 + 5 * d + 3) 1) 31 (m_r (s_l M47 31 (m_r M47 276 h 0) (116 + 5 * d + 3) 1) 276 h 0) (116 + 5 * d + 4) (chD (x_u x) d z).toInt64) 31 (m_r (s_l (s_l M47 31 (m_r M47 276 h 0) (116 + 5 * d + 3) 1) 31 (m_r (s_l M47 31 (m_r M47 276 h 0) (116 + 5 * d + 3) 1) 276 h 0) (116 + 5 * d + 4) (chD (x_u x) d z).toInt64) 276 h 0) (166 + 11 * w0 + 9) (chD (x_u x) d z).toInt64) 276 h 0) (166 + 11 * w0 + 10) 1) h) (x_u x) := by
            rw [rwM_w, rwM_w, rwM_w, rwM_w, show 116 + 5 * d + 3 = pl 23 d 0 by simp [pl, pB_, pA_, pJ_]; omega, show 116 + 5 * d + 4 = pl 16 d 0 by simp [pl, pB_, pA_, pJ_]; omega, show 166 + 11 * w0 + 9 = pl 11 w0 0 by simp [pl, pB_, pA_, pJ_]; omega, show 166 + 11 * w0 + 10 = pl 12 w0 0 by simp [pl, pB_, pA_, pJ_]; omega]
            exact (((hL9.2.off 23 d 0 u2 (cX_23 (by omega)) (by decide)).off 16 d 0 u2 (Or.inl (Or.inr (Or.inr (Or.inr (Or.inr (Or.inr (Or.inl ⟨by decide, by decide, by omega, rfl⟩))))))) (by decide)).off 11 w0 0 u2 (Or.inl (hc11 11 (by decide) (by decide))) (by decide)).off 12 w0 0 u2 (Or.inl (hc11 12 (by decide) (by decide))) (by decide)
          have hWe : Wt (s_l (s_l (s_l (s_l M47 31 (m_r M47 276 h 0) (116 + 5 * d + 3) 1) 31 (m_r (s_l M47 31 (m_r M47 276 h 0) (116 + 5 * d + 3) 1) 276 h 0) (116 + 5 * d + 4) (chD (x_u x) d z).toInt64) 31 (m_r (s_l (s_l M47 31 (m_r M47 276 h 0) (116 + 5 * d + 3) 1) 31 (m_r (s_l M47 31 (m_r M47 276 h 0) (116 + 5 * d + 3) 1) 276 h 0) (116 + 5 * d + 4) (chD (x_u x) d z).toInt64) 276 h 0) (166 + 11 * w0 + 9) (chD (x_u x) d z).toInt64) 31 (m_r (s_l (s_l (s_l M47 31 (m_r M47 276 h 0) (116 + 5 * d + 3) 1) 31 (m_r (s_l M47 31 (m_r M47 276 h 0) (116 + 5 * d + 3) 1) 276 h 0) (116 + 5 * d + 4) (chD (x_u x) d z).toInt64) 31 (m_r (s_l (s_l M47 31 (m_r M47 276 h 0) (116 + 5 * d + 3) 1) 31 (m_r (s_l M47 31 (m_r M47 276 h 0) (116 + 5 * d + 3) 1) 276 h 0) (116 + 5 * d + 4) (chD (x_u x) d z).toInt64) 276 h 0) (166 + 11 * w0 + 9) (chD (x_u x) d z).toInt64) 276 h 0) (166 + 11 * w0 + 10) 1) := hW9
          have hte : m_t (s_l (s_l (s_l (s_l M47 31 (m_r M47 276 h 0) (116 + 5 * d + 3) 1) 31 (m_r (s_l M47 31 (m_r M47 276 h 0) (116 + 5 * d + 3) 1) 276 h 0) (116 + 5 * d + 4) (chD (x_u x) d z).toInt64) 31 (m_r (s_l (s_l M47 31 (m_r M47 276 h 0) (116 + 5 * d + 3) 1) 31 (m_r (s_l M47 31 (m_r M47 276 h 0) (116 + 5 * d + 3) 1) 276 h 0) (116 + 5 * d + 4) (chD (x_u x) d z).toInt64) 276 h 0) (166 + 11 * w0 + 9) (chD (x_u x) d z).toInt64) 31 (m_r (s_l (s_l (s_l M47 31 (m_r M47 276 h 0) (116 + 5 * d + 3) 1) 31 (m_r (s_l M47 31 (m_r M47 276 h 0) (116 + 5 * d + 3) 1) 276 h 0) (116 + 5 * d + 4) (chD (x_u x) d z).toInt64) 31 (m_r (s_l (s_l M47 31 (m_r M47 276 h 0) (116 + 5 * d + 3) 1) 31 (m_r (s_l M47 31 (m_r M47 276 h 0) (116 + 5 * d + 3) 1) 276 h 0) (116 + 5 * d + 4) (chD (x_u x) d z).toInt64) 276 h 0) (166 + 11 * w0 + 9) (chD (x_u x) d z).toInt64) 276 h 0) (166 + 11 * w0 + 10) 1) h = 12 := ht9
          have hSe : WfS (mkB (x_u x) d w0 (chD (x_u x) d z)) := fun f hf => by
            rw [show q_i (mkB (x_u x) d w0 (chD (x_u x) d z)) 4 f 0 = q_i (x_u x) 4 f 0 from (q_ik (by decide)).trans ((q_ik (by decide)).trans (q_ik (by decide)))]
            exact hS f hf
          have hTe : WfT (mkB (x_u x) d w0 (chD (x_u x) d z)) := fun f s hf hs => by
            rw [show q_i (mkB (x_u x) d w0 (chD (x_u x) d z)) 9 f s = q_i (x_u x) 9 f s from (q_ik (by decide)).trans ((q_ik (by decide)).trans (q_ik (by decide))), show q_i (mkB (x_u x) d w0 (chD (x_u x) d z)) 10 f s = q_i (x_u x) 10 f s from (q_ik (by decide)).trans ((q_ik (by decide)).trans (q_ik (by decide)))]
            exact hT f s hf hs
          refine v_aload_n hC dX11_settle_126 rfl rfl ?_
          refine v_iload hC dX11_settle_127 rfl ?_
          refine v_iload hC dX11_settle_129 rfl ?_
          refine cVi2 hC (c_X11_settleAll hWe hte hA9 hP9 u2 hSe hTe (show w0 < n_e (x_u x) from hw0) rfl hc) yv_X11_settleAll rfl ht9 mw_5_189 ⟨Nat.le_of_ble_eq_true rfl, Nat.le_of_ble_eq_true rfl⟩ ⟨Nat.le_of_ble_eq_true rfl, Nat.le_of_ble_eq_true rfl⟩ (Nat.le_of_ble_eq_true rfl) dX11_settle_131 (fun r131 M133 hq => ?_)
          obtain ⟨rfl, hwr9, hl9, hp9⟩ := hq
          refine v_iret hC dX11_settle_134 ?_
          have ek : (q_i (x_u x) 13 d 0).toNatClampNeg = w0 := by rw [ew0, nI_clamp (by omega)]
          have hD : d_settle (x_u x) (nI d) z = (decC (x_u x) d w0 z, some (decU (x_u x) d w0 z)) := by
            rw [d_settle, inN_s hd]; show (if _ then _ else _) = _
            rw [if_neg (in01n g13), if_neg (fun q => q h38), ek]
          rw [hD]
          refine ⟨rfl, Wr.end hX9 (Wr.tr (by repeat (first | exact Wr.rf | refine Wr.sl ?_)) hwr9) hOn9 hW9 hTa9 ⟨hl9, hp9.same ((PdF.mk).tr (PdF.kp (Kp.fU (stT_kp _ _) _))) ?_⟩⟩
          show (decU (x_u x) d w0 z).1 1 0 = (x_u x).1 1 0
          unfold decU
          rw [(Kp.fU (stT_kp _ _) _).1]; rfl
      · have h38 : ¬ q_i (x_u x) 16 d 0 = 0 := fun q => by
          rw [if_pos q] at h38
          exact absurd h38 (by decide)
        refine v_bipush (v := (-4)) hC dX11_settle_41 (by decide) ?_
        refine v_iret hC dX11_settle_43 ?_
        have hD : d_settle (x_u x) (nI d) z = (-4, none) := by rw [d_settle, inN_s hd]; show (if _ then _ else _) = _; rw [if_neg (in01n g13)]; exact if_pos h38
        rw [hD]; exact ⟨rfl, hX, On.rf, hW, Ta.rf⟩
    · refine v_if_ne hC dX11_settle_16 (tgt := 22) (by decide) (fun hx => absurd hx (by decide)) (fun _ => ?_)
      refine v_bipush (v := (-2)) hC dX11_settle_19 (by decide) ?_
      refine v_iret hC dX11_settle_21 ?_
      have hD : d_settle (x_u x) (nI d) z = (-2, none) := by rw [d_settle, inN_s hd]; exact if_pos (in01 g13)
      rw [hD]; exact ⟨rfl, hX, On.rf, hW, Ta.rf⟩
  · refine v_if_eq hC dX11_settle_5 (tgt := 10) (by decide) (fun hx => absurd hx (by decide)) (fun _ => ?_)
    refine v_iconst (v := (-1)) hC dX11_settle_8 (by decide) ?_
    refine v_iret hC dX11_settle_9 ?_
    have hD : d_settle (x_u x) y z = (-1, none) := by rw [d_settle, inN_o g2]
    rw [hD]; exact ⟨rfl, hX, On.rf, hW, Ta.rf⟩
