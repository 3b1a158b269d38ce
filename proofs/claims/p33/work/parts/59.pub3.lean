theorem u_ck {u : Si} {k a j k2 a2 j2 : Nat} {v w : Int32} (h : k2 ≠ k) : u_i (u_i u k a j v) k2 a2 j2 w = u_i (u_i u k2 a2 j2 w) k a j v := u_ic (fun z => h z.1)
theorem ndB_e {u : Si} {f s e : Nat} {t y w : Int32} : ndB (u_i (u_i u 9 f s t) 10 f s y) e w = ndB u e w := rfl
theorem alN_e {u : Si} {f s : Nat} {t y : Int32} {g : Sg} : alN (u_i (u_i u 9 f s t) 10 f s y) g = alN u g := rfl
theorem lrn_n (u : Si) (g : Sg) (t : Int32) : n_f (lrnU u g t) = n_f u := by
  unfold lrnU
  split
  · rfl
  · split <;> rfl
theorem rm_1 {u : Si} {g : Sg} {t : Int32} (h : rmB u g t = true) (q : alN u g = none) : n_e u < 40 := by
  rw [rmB, q] at h; exact of_decide_eq_true h
theorem rm_2 {u : Si} {g : Sg} {t : Int32} {e : Nat} (h : rmB u g t = true) (q : alN u g = some e) (q2 : ndB u e t = true) : n_d u < 10 := by
  rw [rmB, q] at h
  rcases Bool.or_eq_true_iff.mp h with z | z
  · rw [q2] at z; cases z
  · exact of_decide_eq_true z
theorem SgR.kt {M : Me} {a : Nat} {g : Sg} (h : SgR M a g) : m_t M a = 7 := h.1
set_option maxHeartbeats 4000000 in
set_option maxRecDepth 100000 in
theorem c_X10_take {l : Launch} {G : Gd} {M : Me} {h n : Nat} {x : Xs} {y z : Int32} (hW : Wt M) (hB : BR M h n x) (hz : hzU (x_u x)) (hO : WfO (x_u x)) : CQ (Qi G (fun r M2 => r = (d_take (x_u x) y z).1 ∧ BR M2 h n (acX x (d_take (x_u x) y z).2) ∧ Tk M M2 n ∧ Cf M M2 h n ∧ Wt M2)) l G yX10_take cX10_take 4 ((some .int)) 6 143 0 0 [.ref h, .int y, .int z] M := by
  refine c_of ([some (.ref h), some (.int y), some (.int z), none] : Lo) RX10 "take" (by decide) rfl rfl (Nat.le_of_ble_eq_true rfl) rfl (fun p e s m below meth c hC nw => ?_)
  have hR := hB.2.1
  have hnn := hB.1.1.2.2.2.2.2.2
  have hu := hR.2.1
  have u1 := hu.1
  have u2 := hu.2.1
  have u3 := hu.2.2.1
  have u4 := hu.2.2.2.1
  refine v_aload_n hC dX10_take_0 rfl rfl ?_
  refine gf_10_1 hC hB.1.1.1 (wf_261 hW hB.1.1.1) mw_2_79 dX10_take_1 ?_
  first | rw [hB.1.2.1.2.1] | erw [hB.1.2.1.2.1]
  refine v_iload_n hC dX10_take_4 rfl rfl ?_
  refine cVi1 hC (c_X7_hasFile hR.1.1.1 hR.2.2.2.1.1 hu.1) yv_X7_hasFile rfl hB.1.2.2.1.1.1.1 mw_2_193 ⟨Nat.le_of_ble_eq_true rfl, Nat.le_of_ble_eq_true rfl⟩ ⟨Nat.le_of_ble_eq_true rfl, Nat.le_of_ble_eq_true rfl⟩ (Nat.le_of_ble_eq_true rfl) dX10_take_5 (fun r5 M7 hq => ?_)
  obtain ⟨hm, hq2⟩ := hq
  have hm2 := hm.symm
  clear hm
  subst hm2
  obtain ⟨g5, rfl⟩ | ⟨g5, rfl⟩ := hq2
  · refine v_if_eq hC dX10_take_8 (tgt := 22) (by decide) (fun hx => absurd hx (by decide)) (fun _ => ?_)
    refine v_aload_n hC dX10_take_11 rfl rfl ?_
    refine gf_10_1 hC hB.1.1.1 (wf_261 hW hB.1.1.1) mw_2_79 dX10_take_12 ?_
    first | rw [hB.1.2.1.2.1] | erw [hB.1.2.1.2.1]
    refine v_iload_n hC dX10_take_15 rfl rfl ?_
    refine cVi1 hC (c_X7_hasPerson hR.1.1.1 hR.2.2.2.1.2.1 hu.2.1) yv_X7_hasPerson rfl hB.1.2.2.1.1.1.1 mw_2_143 ⟨Nat.le_of_ble_eq_true rfl, Nat.le_of_ble_eq_true rfl⟩ ⟨Nat.le_of_ble_eq_true rfl, Nat.le_of_ble_eq_true rfl⟩ (Nat.le_of_ble_eq_true rfl) dX10_take_16 (fun r16 M18 hq => ?_)
    obtain ⟨hm, hq2⟩ := hq
    have hm2 := hm.symm
    clear hm
    subst hm2
    obtain ⟨g16, rfl⟩ | ⟨g16, rfl⟩ := hq2
    · refine v_if_ne hC dX10_take_19 (tgt := 24) (by decide) (fun _ => ?_) (fun hx => absurd hx (by decide))
      obtain ⟨f, hf, rfl⟩ := g5
      obtain ⟨p0, hp0, rfl⟩ := g16
      have h8 : f < 8 := by have := hu.1; omega
      have hF : m_t M (cA (n + 7) 4 f) = 10 := by rw [← ly_F2 hR.1 h8]; exact we_51 hW (wf_215 hW hR.1.1.1) h8
      have h6 : p0 < 6 := by omega
      have h12s := hu.2.2.2.2 f hf
      refine v_aload_n hC dX10_take_24 rfl rfl ?_
      refine gf_10_1 hC hB.1.1.1 (wf_261 hW hB.1.1.1) mw_2_79 dX10_take_25 ?_
      first | rw [hB.1.2.1.2.1] | erw [hB.1.2.1.2.1]
      refine gf_7_3 hC hB.1.2.2.1.1.1.1 (wf_215 hW hB.1.2.2.1.1.1.1) mw_2_35 dX10_take_28 ?_
      refine v_iload_n hC dX10_take_31 rfl rfl ?_
      refine v_aald 51 _ hC (wf_215 hW hB.1.2.2.1.1.1.1) (by decide) rfl (ix_c (wz_51 hW (wf_215 hW hR.1.1.1)) h8) (we_51 hW (wf_215 hW hB.1.2.2.1.1.1.1) (by omega)) dX10_take_32 ?_
      rw [ly_F2 hR.1 h8]
      refine v_ast3 hC dX10_take_33 (by decide) (kk := ?_)
      refine v_aload_n hC dX10_take_34 rfl rfl ?_
      refine gf_9_0 hC hF mw_1_131 dX10_take_35 ?_
      rw [(hR.f42 hf).1]
      refine v_if_ne hC dX10_take_38 (tgt := 48) (by decide) (fun h38 => ?_) (fun h38 => ?_)
      · refine v_bipush (v := (-4)) hC dX10_take_48 (by decide) ?_
        refine v_iret hC dX10_take_50 ?_
        have hD : d_take (x_u x) (nI f) (nI p0) = (-4, none) := by rw [d_take, inN_s hf, inN_s hp0]; exact if_pos (by first | exact Or.inl h38 | exact Or.inr ((nI_eq (b := 0) (by omega) (by decide)).mp h45))
        rw [hD]; exact ⟨rfl, hB, Tk.rf, Cf.rf, hW⟩
      · refine v_aload_n hC dX10_take_41 rfl rfl ?_
        refine gf_9_5 hC hF mw_1_146 dX10_take_42 ?_
        rw [hR.2.2.2.2.1 f hf]
        refine v_if_ne hC dX10_take_45 (tgt := 51) (by decide) (fun h45 => ?_) (fun h45 => ?_)
        · refine v_aload_n hC dX10_take_51 rfl rfl ?_
          refine gf_10_3 hC hB.1.1.1 (wf_263 hW hB.1.1.1) mw_2_81 dX10_take_52 ?_
          first | rw [hB.1.2.1.2.2.2.1] | erw [hB.1.2.1.2.2.2.1]
          refine v_aload_n hC dX10_take_55 rfl rfl ?_
          refine gf_10_1 hC hB.1.1.1 (wf_261 hW hB.1.1.1) mw_2_79 dX10_take_56 ?_
          first | rw [hB.1.2.1.2.1] | erw [hB.1.2.1.2.1]
          refine cVv1 hC (c_X2_push hW hB hz) yv_X2_push rfl hB.1.1.2.2.2.1 mw_2_98 ⟨Nat.le_of_ble_eq_true rfl, Nat.le_of_ble_eq_true rfl⟩ ⟨Nat.le_of_ble_eq_true rfl, Nat.le_of_ble_eq_true rfl⟩ (Nat.le_of_ble_eq_true rfl) dX10_take_59 (fun M61 hq => ?_)
          obtain ⟨hB2, hcf2, hW2, htk2, hx2, hsk2⟩ := hq
          have nw2 := hx2.nw nw
          have hkt2 := hx2.kt
          have hR2 := hB2.pushed
          have hnn2 := hB2.1.1.2.2.2.2.2.2
          refine v_aload_n hC dX10_take_62 rfl rfl ?_
          refine v_aload_n hC dX10_take_63 rfl rfl ?_
          refine gf_10_1 hC (hkt2.u hB.1.1.1) (wf_261 hW2 (hkt2.u hB.1.1.1)) mw_2_79 dX10_take_64 ?_
          first | rw [hB2.1.2.1.2.1] | erw [hB2.1.2.1.2.1]
          refine v_iload_n hC dX10_take_67 rfl rfl ?_
          refine v_aload_n hC dX10_take_68 rfl rfl ?_
          refine gf_10_1 hC (hkt2.u hB.1.1.1) (wf_261 hW2 (hkt2.u hB.1.1.1)) mw_2_79 dX10_take_69 ?_
          first | rw [hB2.1.2.1.2.1] | erw [hB2.1.2.1.2.1]
          refine gf_7_1 hC hB2.1.2.2.1.1.1.1 (wf_213 hW2 hB2.1.2.2.1.1.1.1) mw_2_31 dX10_take_72 ?_
          refine v_iload_n hC dX10_take_75 rfl rfl ?_
          refine v_aald 50 _ hC (wf_213 hW2 hB2.1.2.2.1.1.1.1) (by decide) rfl (ix_c (wz_50 hW2 (wf_213 hW2 hR2.1.1.1)) h6) (we_50 hW2 (wf_213 hW2 hB2.1.2.2.1.1.1.1) (by omega)) dX10_take_76 ?_
          rw [ly_P2 hR2.1 h6]
          refine gf_5_0 hC (by rw [← ly_P2 hR2.1 h6]; exact we_50 hW2 (wf_213 hW2 hR2.1.1.1) h6) mw_1_104 dX10_take_77 ?_
          rw [(hR2.pe2 hp0).1]
          refine cVi2 hC (c_X7_priceFor hW2 hB2.1.2.2.1.1.1.1 hR2 hO hf) yv_X7_priceFor rfl hB2.1.2.2.1.1.1.1 mw_3_38 ⟨Nat.le_of_ble_eq_true rfl, Nat.le_of_ble_eq_true rfl⟩ ⟨Nat.le_of_ble_eq_true rfl, Nat.le_of_ble_eq_true rfl⟩ (Nat.le_of_ble_eq_true rfl) dX10_take_80 (fun r80 M82 hq => ?_)
          obtain ⟨rfl, b9, rfl⟩ := hq
          have hR4 : CR (s_c M61 b9) (n + 7) (x_u x) := hR2.sc
          have hrc : Rg M61 (s_c M61 b9) (n + 7) := Rg.rf.bx ⟨b9, rfl⟩
          refine pf_9_3 hC (hkt2.u hF) mw_1_140 dX10_take_83 ?_
          refine v_aload_n hC dX10_take_86 rfl rfl ?_
          refine v_iconst (v := 1) hC dX10_take_87 (by decide) ?_
          refine pf_9_0 hC (hkt2.u hF) mw_1_131 dX10_take_88 ?_
          refine v_aload_n hC dX10_take_91 rfl rfl ?_
          refine v_iload_n hC dX10_take_92 rfl rfl ?_
          refine pf_9_1 hC (hkt2.u hF) mw_1_134 dX10_take_93 ?_
          have r4 := cA_r (S := n + 7) (cp_f h8 4 (by decide) (by decide))
          have hM5 : m_t M61 (n + 7 + 43) = 5 := by rw [← ly_M hR2.1]; exact wf_218 hW2 hR2.1.1.1
          have hR5 := CR.wA (v := nI p0) 5 f 0 (CR.wA (v := 1) 4 f 0 (CR.wA (v := prc (x_u x) f (q_i (x_u x) 1 p0 0)) 7 f 0 hR4 (cp_f h8 7 (by decide) (by decide)) rfl) (cp_f h8 4 (by decide) (by decide)) (A := cA (n + 7) 4 f) rfl) (cp_f h8 5 (by decide) (by decide)) (A := cA (n + 7) 4 f) rfl
          have hr5 := ((hrc.si r4 (k := 247) (j := 0) (v := prc (x_u x) f (q_i (x_u x) 1 p0 0)) (by decide)).si r4 (k := 244) (j := 0) (v := 1) (by decide)).si r4 (k := 245) (j := 0) (v := nI p0) (by decide)
          refine v_aload_n hC dX10_take_96 rfl rfl ?_
          refine gf_10_1 hC (hkt2.u hB.1.1.1) (wf_261 hW2 (hkt2.u hB.1.1.1)) mw_2_79 dX10_take_97 ?_
          first | rw [hB2.1.2.1.2.1] | erw [hB2.1.2.1.2.1]
          refine gf_7_6 hC hB2.1.2.2.1.1.1.1 (wf_218 hW2 hB2.1.2.2.1.1.1.1) mw_2_41 dX10_take_100 ?_
          erw [ly_M hR2.1]
          refine v_aload_n hC dX10_take_103 rfl rfl ?_
          refine cVv1 hC (c_X4_fillFromEntries hW2 hM5 (hkt2.u hF) hR5 hf) yv_X4_fillFromEntries rfl hM5 mw_3_79 ⟨Nat.le_of_ble_eq_true rfl, Nat.le_of_ble_eq_true rfl⟩ ⟨Nat.le_of_ble_eq_true rfl, Nat.le_of_ble_eq_true rfl⟩ (Nat.le_of_ble_eq_true rfl) dX10_take_104 (fun M106 hq => ?_)
          obtain ⟨hR3, hr3x, hx3⟩ := hq
          have hr3 := hr5.tr hr3x
          have hW3 : Wt M106 := Wt.fx (M := s_c M61 b9) hW2 hx3
          have hkt3 : Kt M61 M106 := fun a _ => hx3.2.1 a
          have kp5 := Kp.fU (v := u_i (u_i (u_i (x_u x) 7 f 0 (prc (x_u x) f (q_i (x_u x) 1 p0 0))) 4 f 0 1) 5 f 0 (nI p0)) (stM_kp f) (n_s (x_u x) f)
          have hfv : f < n_f (fU (stM f) (u_i (u_i (u_i (x_u x) 7 f 0 (prc (x_u x) f (q_i (x_u x) 1 p0 0))) 4 f 0 1) 5 f 0 (nI p0)) (n_s (x_u x) f)) := by show f < q_n _ 0 0; rw [kp5.n]; exact hf
          have e7 : m_i M106 247 (cA (n + 7) 4 f) 0 = prc (x_u x) f (q_i (x_u x) 1 p0 0) := ((hR3.f42 hfv).2.2.2.1).trans ((kp5.2.2 7 f 0 (by decide)).trans ((q_ik (by decide)).trans ((q_ik (by decide)).trans q_ie)))
          refine v_aload_n hC dX10_take_107 rfl rfl ?_
          refine gf_9_3 hC (hkt3.u (hkt2.u hF)) mw_1_140 dX10_take_108 ?_
          rw [e7]
          refine v_iret hC dX10_take_111 ?_
          have hD : d_take (x_u x) (nI f) (nI p0) = (prc (x_u x) f (q_i (x_u x) 1 p0 0), some (takeU (x_u x) f p0)) := by rw [d_take, inN_s hf, inN_s hp0]; exact if_neg (fun q => q.elim (fun q => q h38) (fun q => h45 (by rw [q]; rfl)))
          rw [hD]; exact ⟨rfl, hB2.act nw2 hW2 hr3 hR3, Tk.tr htk2 (hr3.tk hnn2 (Nat.le_refl _)), hcf2.tr (hr3.cf (Nat.le_refl _) (by omega)), hW3⟩
        · refine v_bipush (v := (-4)) hC dX10_take_48 (by decide) ?_
          refine v_iret hC dX10_take_50 ?_
          have hD : d_take (x_u x) (nI f) (nI p0) = (-4, none) := by rw [d_take, inN_s hf, inN_s hp0]; exact if_pos (by first | exact Or.inl h38 | exact Or.inr ((nI_eq (b := 0) (by omega) (by decide)).mp h45))
          rw [hD]; exact ⟨rfl, hB, Tk.rf, Cf.rf, hW⟩
    · refine v_if_ne hC dX10_take_19 (tgt := 24) (by decide) (fun hx => absurd hx (by decide)) (fun _ => ?_)
      refine v_iconst (v := (-1)) hC dX10_take_22 (by decide) ?_
      refine v_iret hC dX10_take_23 ?_
      have hD : d_take (x_u x) y z = (-1, none) := by
        rw [d_take]
        first
          | rw [inN_o g5]
          | (rw [inN_o g16]
             split
             · rename_i q; cases q
             · rfl)
      rw [hD]; exact ⟨rfl, hB, Tk.rf, Cf.rf, hW⟩
  · refine v_if_eq hC dX10_take_8 (tgt := 22) (by decide) (fun _ => ?_) (fun hx => absurd hx (by decide))
    refine v_iconst (v := (-1)) hC dX10_take_22 (by decide) ?_
    refine v_iret hC dX10_take_23 ?_
    have hD : d_take (x_u x) y z = (-1, none) := by
      rw [d_take]
      first
        | rw [inN_o g5]
        | (rw [inN_o g16]
           split
           · rename_i q; cases q
           · rfl)
    rw [hD]; exact ⟨rfl, hB, Tk.rf, Cf.rf, hW⟩

set_option maxHeartbeats 4000000 in
set_option maxRecDepth 100000 in
theorem c_X10_translate {l : Launch} {G : Gd} {M : Me} {h n : Nat} {x : Xs} {y z w : Int32} (hW : Wt M) (hB : BR M h n x) (hz : hzU (x_u x)) : CQ (Qi G (fun r M2 => r = (d_translate (x_u x) y z w).1 ∧ BR M2 h n (acX x (d_translate (x_u x) y z w).2) ∧ Tk M M2 n ∧ Cf M M2 h n ∧ Wt M2)) l G yX10_translate cX10_translate 6 ((some .int)) 4 88 0 0 [.ref h, .int y, .int z, .int w] M := by
  refine c_of ([some (.ref h), some (.int y), some (.int z), some (.int w), none, none] : Lo) RX10 "translate" (by decide) rfl rfl (Nat.le_of_ble_eq_true rfl) rfl (fun p e s m below meth c hC nw => ?_)
  have hR := hB.2.1
  have hnn := hB.1.1.2.2.2.2.2.2
  have hu := hR.2.1
  have u1 := hu.1
  have u2 := hu.2.1
  have u3 := hu.2.2.1
  have u4 := hu.2.2.2.1
  refine v_aload_n hC dX10_translate_0 rfl rfl ?_
  refine gf_10_1 hC hB.1.1.1 (wf_261 hW hB.1.1.1) mw_2_79 dX10_translate_1 ?_
  first | rw [hB.1.2.1.2.1] | erw [hB.1.2.1.2.1]
  refine v_iload_n hC dX10_translate_4 rfl rfl ?_
  refine v_iload_n hC dX10_translate_5 rfl rfl ?_
  refine cVi2 hC (c_X7_hasSegment hW hR.1.1.1 hR) yv_X7_hasSegment rfl hB.1.2.2.1.1.1.1 mw_3_93 ⟨Nat.le_of_ble_eq_true rfl, Nat.le_of_ble_eq_true rfl⟩ ⟨Nat.le_of_ble_eq_true rfl, Nat.le_of_ble_eq_true rfl⟩ (Nat.le_of_ble_eq_true rfl) dX10_translate_6 (fun r6 M8 hq => ?_)
  obtain ⟨hm, hq2⟩ := hq
  have hm2 := hm.symm
  clear hm
  subst hm2
  obtain ⟨g6, rfl⟩ | ⟨g6, rfl⟩ := hq2
  · refine v_if_ne hC dX10_translate_9 (tgt := 14) (by decide) (fun _ => ?_) (fun hx => absurd hx (by decide))
    obtain ⟨f, t, hf, ht9, rfl, rfl⟩ := g6
    have h8 : f < 8 := by have := hu.1; omega
    have hF : m_t M (cA (n + 7) 4 f) = 10 := by rw [← ly_F2 hR.1 h8]; exact we_51 hW (wf_215 hW hR.1.1.1) h8
    have h12s := hu.2.2.2.2 f hf
    have h12 : t < 12 := by omega
    have hG : SgR M (m_r M 52 (m_r M 250 (cA (n + 7) 4 f) 0) t) (q_g (x_u x) 0 f t) := (hR.fs2 hf).2.2 t ht9
    refine v_iload_n hC dX10_translate_14 rfl rfl ?_
    refine cSi1 hC (c_X10_isTarget ) ys_X10_isTarget mw_2_226 ⟨Nat.le_of_ble_eq_true rfl, Nat.le_of_ble_eq_true rfl⟩ ⟨Nat.le_of_ble_eq_true rfl, Nat.le_of_ble_eq_true rfl⟩ (Nat.le_of_ble_eq_true rfl) dX10_translate_15 (fun r15 M17 hq => ?_)
    obtain ⟨hm, hq2⟩ := hq
    have hm2 := hm.symm
    clear hm
    subst hm2
    obtain ⟨g15, rfl⟩ | ⟨g15, rfl⟩ := hq2
    · refine v_if_ne hC dX10_translate_18 (tgt := 24) (by decide) (fun _ => ?_) (fun hx => absurd hx (by decide))
      refine v_aload_n hC dX10_translate_24 rfl rfl ?_
      refine gf_10_1 hC hB.1.1.1 (wf_261 hW hB.1.1.1) mw_2_79 dX10_translate_25 ?_
      first | rw [hB.1.2.1.2.1] | erw [hB.1.2.1.2.1]
      refine gf_7_3 hC hB.1.2.2.1.1.1.1 (wf_215 hW hB.1.2.2.1.1.1.1) mw_2_35 dX10_translate_28 ?_
      refine v_iload_n hC dX10_translate_31 rfl rfl ?_
      refine v_aald 51 _ hC (wf_215 hW hB.1.2.2.1.1.1.1) (by decide) rfl (ix_c (wz_51 hW (wf_215 hW hR.1.1.1)) h8) (we_51 hW (wf_215 hW hB.1.2.2.1.1.1.1) (by omega)) dX10_translate_32 ?_
      rw [ly_F2 hR.1 h8]
      refine v_ast4 hC dX10_translate_33 (by decide) (kk := ?_)
      refine v_aload hC dX10_translate_35 rfl ?_
      refine gf_9_6 hC hF (wf_250 hW hF) mw_1_151 dX10_translate_37 ?_
      refine v_iload_n hC dX10_translate_40 rfl rfl ?_
      refine v_aald 52 _ hC (wf_250 hW hF) (by decide) rfl (ix_c (wz_52 hW (wf_250 hW hF)) h12) hG.1 dX10_translate_41 ?_
      refine v_ast5 hC dX10_translate_42 (by decide) (kk := ?_)
      refine v_aload hC dX10_translate_44 rfl ?_
      refine gf_9_0 hC hF mw_1_131 dX10_translate_46 ?_
      rw [(hR.f42 hf).1]
      refine v_iconst (v := 1) hC dX10_translate_49 (by decide) ?_
      refine v_icmp_ne hC dX10_translate_50 (tgt := 69) (by decide) (fun h50 => ?_) (fun h50 => ?_)
      · refine v_bipush (v := (-4)) hC dX10_translate_69 (by decide) ?_
        refine v_iret hC dX10_translate_71 ?_
        have hD : d_translate (x_u x) (nI f) (nI t) w = (-4, none) := by rw [d_translate, inN_s hf]; show (match inN (nI t) (n_s (x_u x) f) with | none => _ | some s => _) = _; rw [inN_s ht9 (by omega)]; exact (if_neg (fun q => q g15)).trans (if_pos (by first | exact Or.inl h50 | exact Or.inr ((stO_b (by omega)).mp g63)))
        rw [hD]; exact ⟨rfl, hB, Tk.rf, Cf.rf, hW⟩
      · refine v_aload_n hC dX10_translate_53 rfl rfl ?_
        refine gf_10_1 hC hB.1.1.1 (wf_261 hW hB.1.1.1) mw_2_79 dX10_translate_54 ?_
        first | rw [hB.1.2.1.2.1] | erw [hB.1.2.1.2.1]
        refine gf_7_6 hC hB.1.2.2.1.1.1.1 (wf_218 hW hB.1.2.2.1.1.1.1) mw_2_41 dX10_translate_57 ?_
        refine v_aload hC dX10_translate_60 rfl ?_
        refine v_iload_n hC dX10_translate_62 rfl rfl ?_
        refine cVi2 hC (c_X4_isSettledOtherwise hW (wf_218 hW hR.1.1.1) hR hG) yv_X4_isSettledOtherwise rfl (wf_218 hW hB.1.2.2.1.1.1.1) mw_3_97 ⟨Nat.le_of_ble_eq_true rfl, Nat.le_of_ble_eq_true rfl⟩ ⟨Nat.le_of_ble_eq_true rfl, Nat.le_of_ble_eq_true rfl⟩ (Nat.le_of_ble_eq_true rfl) dX10_translate_63 (fun r63 M65 hq => ?_)
        obtain ⟨hm, hq2⟩ := hq
        have hm2 := hm.symm
        clear hm
        subst hm2
        obtain ⟨g63, rfl⟩ | ⟨g63, rfl⟩ := hq2
        · refine v_if_eq hC dX10_translate_66 (tgt := 72) (by decide) (fun hx => absurd hx (by decide)) (fun _ => ?_)
          refine v_bipush (v := (-4)) hC dX10_translate_69 (by decide) ?_
          refine v_iret hC dX10_translate_71 ?_
          have hD : d_translate (x_u x) (nI f) (nI t) w = (-4, none) := by rw [d_translate, inN_s hf]; show (match inN (nI t) (n_s (x_u x) f) with | none => _ | some s => _) = _; rw [inN_s ht9 (by omega)]; exact (if_neg (fun q => q g15)).trans (if_pos (by first | exact Or.inl h50 | exact Or.inr ((stO_b (by omega)).mp g63)))
          rw [hD]; exact ⟨rfl, hB, Tk.rf, Cf.rf, hW⟩
        · refine v_if_eq hC dX10_translate_66 (tgt := 72) (by decide) (fun _ => ?_) (fun hx => absurd hx (by decide))
          refine v_aload_n hC dX10_translate_72 rfl rfl ?_
          refine gf_10_1 hC hB.1.1.1 (wf_261 hW hB.1.1.1) mw_2_79 dX10_translate_73 ?_
          first | rw [hB.1.2.1.2.1] | erw [hB.1.2.1.2.1]
          refine gf_7_6 hC hB.1.2.2.1.1.1.1 (wf_218 hW hB.1.2.2.1.1.1.1) mw_2_41 dX10_translate_76 ?_
          refine v_aload hC dX10_translate_79 rfl ?_
          refine v_iload_n hC dX10_translate_81 rfl rfl ?_
          refine cVi2 hC (c_X4_hasRoomFor hW (wf_218 hW hR.1.1.1) hR hG) yv_X4_hasRoomFor rfl (wf_218 hW hB.1.2.2.1.1.1.1) mw_3_101 ⟨Nat.le_of_ble_eq_true rfl, Nat.le_of_ble_eq_true rfl⟩ ⟨Nat.le_of_ble_eq_true rfl, Nat.le_of_ble_eq_true rfl⟩ (Nat.le_of_ble_eq_true rfl) dX10_translate_82 (fun r82 M84 hq => ?_)
          obtain ⟨hm, hq2⟩ := hq
          have hm2 := hm.symm
          clear hm
          subst hm2
          obtain ⟨g82, rfl⟩ | ⟨g82, rfl⟩ := hq2
          · refine v_if_ne hC dX10_translate_85 (tgt := 91) (by decide) (fun _ => ?_) (fun hx => absurd hx (by decide))
            refine v_aload hC dX10_translate_91 rfl ?_
            refine gf_9_7 hC hF (wf_251 hW hF) mw_1_154 dX10_translate_93 ?_
            refine v_iload_n hC dX10_translate_96 rfl rfl ?_
            refine v_iald 24 hC (wf_251 hW hF) (by decide) (by decide) (ix_c (wz_24 hW (wf_251 hW hF)) h12) dX10_translate_97 ?_
            rw [(hR.ft2 hf ht9).1]
            refine v_iload_n hC dX10_translate_98 rfl rfl ?_
            refine v_icmp_ne hC dX10_translate_99 (tgt := 105) (by decide) (fun h99 => ?_) (fun h99 => ?_)
            · have hrm := (room_b (by omega) (by omega)).mp g82
              refine v_aload_n hC dX10_translate_105 rfl rfl ?_
              refine gf_10_3 hC hB.1.1.1 (wf_263 hW hB.1.1.1) mw_2_81 dX10_translate_106 ?_
              first | rw [hB.1.2.1.2.2.2.1] | erw [hB.1.2.1.2.2.2.1]
              refine v_aload_n hC dX10_translate_109 rfl rfl ?_
              refine gf_10_1 hC hB.1.1.1 (wf_261 hW hB.1.1.1) mw_2_79 dX10_translate_110 ?_
              first | rw [hB.1.2.1.2.1] | erw [hB.1.2.1.2.1]
              refine cVv1 hC (c_X2_push hW hB hz) yv_X2_push rfl hB.1.1.2.2.2.1 mw_2_98 ⟨Nat.le_of_ble_eq_true rfl, Nat.le_of_ble_eq_true rfl⟩ ⟨Nat.le_of_ble_eq_true rfl, Nat.le_of_ble_eq_true rfl⟩ (Nat.le_of_ble_eq_true rfl) dX10_translate_113 (fun M115 hq => ?_)
              obtain ⟨hB2, hcf2, hW2, htk2, hx2, hsk2⟩ := hq
              have nw2 := hx2.nw nw
              have hkt2 := hx2.kt
              have hR2 := hB2.pushed
              have hnn2 := hB2.1.1.2.2.2.2.2.2
              have hG2 : SgR M115 (m_r M 52 (m_r M 250 (cA (n + 7) 4 f) 0) t) (q_g (x_u x) 0 f t) := hsk2 _ _ hG
              refine v_aload hC dX10_translate_116 rfl ?_
              refine v_iload_n hC dX10_translate_118 rfl rfl ?_
              refine v_iload_n hC dX10_translate_119 rfl rfl ?_
              refine v_iconst (v := 1) hC dX10_translate_120 (by decide) ?_
              refine cVv3 hC (c_X9_putTarget hW2 (hkt2.u hF) h12) yv_X9_putTarget rfl (hkt2.u hF) mw_3_117 ⟨Nat.le_of_ble_eq_true rfl, Nat.le_of_ble_eq_true rfl⟩ ⟨Nat.le_of_ble_eq_true rfl, Nat.le_of_ble_eq_true rfl⟩ (Nat.le_of_ble_eq_true rfl) dX10_translate_121 (fun M123 hq => ?_)
              subst hq
              rw [(ly_T2 hR2.1 h8).1, (ly_T2 hR2.1 h8).2.1]
              have hM5 : m_t M115 (n + 7 + 43) = 5 := by rw [← ly_M hR2.1]; exact wf_218 hW2 hR2.1.1.1
              have hR4 := CR.wA (v := 1) 10 f t (CR.wA (v := w) 9 f t hR2 (cp_s h8 h12 9 (by decide) (by decide)) rfl) (cp_s h8 h12 10 (by decide) (by decide)) rfl
              have hr4 := ((Rg.rf (M := M115)).si (cA_r (S := n + 7) (cp_s h8 h12 9 (by decide) (by decide))) (k := 24) (j := t) (v := w) (by decide)).si (cA_r (S := n + 7) (cp_s h8 h12 10 (by decide) (by decide))) (k := 25) (j := t) (v := 1) (by decide)
              refine v_aload_n hC dX10_translate_124 rfl rfl ?_
              refine gf_10_1 hC (hkt2.u hB.1.1.1) (wf_261 hW2 (hkt2.u hB.1.1.1)) mw_2_79 dX10_translate_125 ?_
              first | rw [hB2.1.2.1.2.1] | erw [hB2.1.2.1.2.1]
              refine gf_7_6 hC hB2.1.2.2.1.1.1.1 (wf_218 hW2 hB2.1.2.2.1.1.1.1) mw_2_41 dX10_translate_128 ?_
              erw [ly_M hR2.1]
              refine v_aload hC dX10_translate_131 rfl ?_
              refine v_iload_n hC dX10_translate_133 rfl rfl ?_
              refine cVv2 hC (c_X4_learn hW2 hM5 hR4 ((hG2.si (by decide) (by decide)).si (by decide) (by decide)) (fun q => rm_1 (g := (q_g (x_u x) 0 f t)) hrm q) (fun e2 q q2 => rm_2 (g := (q_g (x_u x) 0 f t)) hrm q q2)) yv_X4_learn rfl hM5 mw_3_118 ⟨Nat.le_of_ble_eq_true rfl, Nat.le_of_ble_eq_true rfl⟩ ⟨Nat.le_of_ble_eq_true rfl, Nat.le_of_ble_eq_true rfl⟩ (Nat.le_of_ble_eq_true rfl) dX10_translate_134 (fun M136 hq => ?_)
              obtain ⟨hR5, hr5x, hW5⟩ := hq
              have hr5 := hr4.tr hr5x
              have hB5 := hB2.act nw2 hW2 hr5 hR5
              have hkt5 : Kt M115 M136 := fun a ha => (hr5.2 a (nw2 a ha)).1
              refine v_iconst (v := 1) hC dX10_translate_137 (by decide) ?_
              refine v_aload_n hC dX10_translate_138 rfl rfl ?_
              refine gf_10_1 hC (hkt5.u (hkt2.u hB.1.1.1)) (wf_261 hW5 (hkt5.u (hkt2.u hB.1.1.1))) mw_2_79 dX10_translate_139 ?_
              first | rw [hB5.1.2.1.2.1] | erw [hB5.1.2.1.2.1]
              refine v_aload hC dX10_translate_142 rfl ?_
              refine v_iload_n hC dX10_translate_144 rfl rfl ?_
              refine cVi2 hC (c_X7_spreadTarget hW5 hR5.1.1.1 hR5 (hG2.rg nw2 hW2 hr5)) yv_X7_spreadTarget rfl hB5.1.2.2.1.1.1.1 mw_3_124 ⟨Nat.le_of_ble_eq_true rfl, Nat.le_of_ble_eq_true rfl⟩ ⟨Nat.le_of_ble_eq_true rfl, Nat.le_of_ble_eq_true rfl⟩ (Nat.le_of_ble_eq_true rfl) dX10_translate_145 (fun r145 M147 hq => ?_)
              obtain ⟨hr9, hR3, hr3x, hx3⟩ := hq
              rw [show n_f (lrnU (u_i (u_i (x_u x) 9 f t w) 10 f t 1) (q_g (x_u x) 0 f t) w) = n_f (x_u x) from lrn_n _ _ _] at hr9 hR3
              subst hr9
              have hr3 := hr5.tr hr3x
              have hW3 := hW5.fx hx3
              refine v_iadd hC dX10_translate_148 ?_
              refine v_iret hC dX10_translate_149 ?_
              have hD : d_translate (x_u x) (nI f) (nI t) w = (1 + trnC (x_u x) f t w, some (trnU (x_u x) f t w)) := by rw [d_translate, inN_s hf]; show (match inN (nI t) (n_s (x_u x) f) with | none => _ | some s => _) = _; rw [inN_s ht9 (by omega)]; exact (if_neg (fun q => q g15)).trans ((if_neg (fun q => q.elim (fun q => q h50) (fun q => g63 ((stO_b (by omega)).mpr q)))).trans ((if_neg (fun q => Bool.noConfusion (q.symm.trans hrm))).trans (if_neg h99)))
              rw [hD]; exact ⟨rfl, hB2.act nw2 hW2 hr3 hR3, Tk.tr htk2 (hr3.tk hnn2 (Nat.le_refl _)), hcf2.tr (hr3.cf (Nat.le_refl _) (by omega)), hW3⟩
            · refine v_bipush (v := (-5)) hC dX10_translate_102 (by decide) ?_
              refine v_iret hC dX10_translate_104 ?_
              have hD : d_translate (x_u x) (nI f) (nI t) w = (-5, none) := by rw [d_translate, inN_s hf]; show (match inN (nI t) (n_s (x_u x) f) with | none => _ | some s => _) = _; rw [inN_s ht9 (by omega)]; exact (if_neg (fun q => q g15)).trans ((if_neg (fun q => q.elim (fun q => q h50) (fun q => g63 ((stO_b (by omega)).mpr q)))).trans ((if_neg (fun q => Bool.noConfusion (q.symm.trans ((room_b (by omega) (by omega)).mp g82)))).trans (if_pos h99)))
              rw [hD]; exact ⟨rfl, hB, Tk.rf, Cf.rf, hW⟩
          · refine v_if_ne hC dX10_translate_85 (tgt := 91) (by decide) (fun hx => absurd hx (by decide)) (fun _ => ?_)
            refine v_bipush (v := (-3)) hC dX10_translate_88 (by decide) ?_
            refine v_iret hC dX10_translate_90 ?_
            have hD : d_translate (x_u x) (nI f) (nI t) w = (-3, none) := by rw [d_translate, inN_s hf]; show (match inN (nI t) (n_s (x_u x) f) with | none => _ | some s => _) = _; rw [inN_s ht9 (by omega)]; exact (if_neg (fun q => q g15)).trans ((if_neg (fun q => q.elim (fun q => q h50) (fun q => g63 ((stO_b (by omega)).mpr q)))).trans (if_pos (by cases z8 : rmB (x_u x) (q_g (x_u x) 0 f t) w with | false => rfl | true => exact absurd ((room_b (by omega) (by omega)).mpr z8) g82)))
            rw [hD]; exact ⟨rfl, hB, Tk.rf, Cf.rf, hW⟩
    · refine v_if_ne hC dX10_translate_18 (tgt := 24) (by decide) (fun hx => absurd hx (by decide)) (fun _ => ?_)
      refine v_bipush (v := (-2)) hC dX10_translate_21 (by decide) ?_
      refine v_iret hC dX10_translate_23 ?_
      have hD : d_translate (x_u x) (nI f) (nI t) w = (-2, none) := by rw [d_translate, inN_s hf]; show (match inN (nI t) (n_s (x_u x) f) with | none => _ | some s => _) = _; rw [inN_s ht9 (by omega)]; exact if_pos g15
      rw [hD]; exact ⟨rfl, hB, Tk.rf, Cf.rf, hW⟩
  · refine v_if_ne hC dX10_translate_9 (tgt := 14) (by decide) (fun hx => absurd hx (by decide)) (fun _ => ?_)
    refine v_iconst (v := (-1)) hC dX10_translate_12 (by decide) ?_
    refine v_iret hC dX10_translate_13 ?_
    have hD : d_translate (x_u x) y z w = (-1, none) := by
      rw [d_translate]
      by_cases w1 : rgI y (n_f (x_u x))
      · obtain ⟨f, hf, rfl⟩ := w1
        rw [inN_s hf]
        by_cases w2 : rgI z (n_s (x_u x) f)
        · obtain ⟨t, ht9, rfl⟩ := w2
          exact absurd ⟨f, t, hf, ht9, rfl, rfl⟩ g6
        · show (match inN z (n_s (x_u x) f) with | none => _ | some s => _) = _
          rw [inN_o w2 (by have := hu.2.2.2.2 f hf; omega)]
      · rw [inN_o w1]
    rw [hD]; exact ⟨rfl, hB, Tk.rf, Cf.rf, hW⟩
