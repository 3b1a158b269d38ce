set_option maxHeartbeats 4000000 in
set_option maxRecDepth 100000 in
theorem c_X10_isBand {l : Launch} {G : Gd} {M : Me} {x : Int32}  : CQ (Qi G (fun r M2 => M2 = M ∧ (rgI x 6 ∧ r = 1 ∨ ¬ rgI x 6 ∧ r = 0))) l G yX10_isBand cX10_isBand 1 ((some .boolean)) 0 0 0 0 [.int x] M := by
  refine c_of ([some (.int x)] : Lo) RX10 "isBand" (by decide) rfl rfl (Nat.le_of_ble_eq_true rfl) rfl (fun p e s m below meth c hC nw => ?_)
  refine v_iload_n hC dX10_isBand_0 rfl rfl ?_
  refine v_if_lt hC dX10_isBand_1 (tgt := 14) (by decide) (fun h1 => ?_) (fun h1 => ?_)
  · refine v_iconst (v := 0) hC dX10_isBand_14 (by decide) ?_
    refine v_zret hC (Or.inl rfl) dX10_isBand_15 ?_
    exact ⟨rfl, Or.inr ⟨by first | exact rg_lo h1 (by decide) | exact rg_hi h7 (by decide), rfl⟩⟩
  · refine v_iload_n hC dX10_isBand_4 rfl rfl ?_
    refine v_bipush (v := 6) hC dX10_isBand_5 (by decide) ?_
    refine v_icmp_ge hC dX10_isBand_7 (tgt := 14) (by decide) (fun h7 => ?_) (fun h7 => ?_)
    · refine v_iconst (v := 0) hC dX10_isBand_14 (by decide) ?_
      refine v_zret hC (Or.inl rfl) dX10_isBand_15 ?_
      exact ⟨rfl, Or.inr ⟨by first | exact rg_lo h1 (by decide) | exact rg_hi h7 (by decide), rfl⟩⟩
    · refine v_iconst (v := 1) hC dX10_isBand_10 (by decide) ?_
      refine v_goto hC dX10_isBand_11 (tgt := 15) (by decide) ?_
      refine v_zret hC (Or.inr rfl) dX10_isBand_15 ?_
      exact ⟨rfl, Or.inl ⟨rg_in h1 h7 (by decide), rfl⟩⟩

set_option maxHeartbeats 4000000 in
set_option maxRecDepth 100000 in
theorem c_X10_isTarget {l : Launch} {G : Gd} {M : Me} {x : Int32}  : CQ (Qi G (fun r M2 => M2 = M ∧ (tgI x ∧ r = 1 ∨ ¬ tgI x ∧ r = 0))) l G yX10_isTarget cX10_isTarget 1 ((some .boolean)) 0 0 0 0 [.int x] M := by
  refine c_of ([some (.int x)] : Lo) RX10 "isTarget" (by decide) rfl rfl (Nat.le_of_ble_eq_true rfl) rfl (fun p e s m below meth c hC nw => ?_)
  refine v_iload_n hC dX10_isTarget_0 rfl rfl ?_
  refine v_iconst (v := 1) hC dX10_isTarget_1 (by decide) ?_
  refine v_icmp_lt hC dX10_isTarget_2 (tgt := 16) (by decide) (fun h2 => ?_) (fun h2 => ?_)
  · refine v_iconst (v := 0) hC dX10_isTarget_16 (by decide) ?_
    refine v_zret hC (Or.inl rfl) dX10_isTarget_17 ?_
    exact ⟨rfl, Or.inr ⟨fun q => by first | exact q.1 h2 | exact q.2 h9, rfl⟩⟩
  · refine v_iload_n hC dX10_isTarget_5 rfl rfl ?_
    refine v_sipush (v := 999) hC dX10_isTarget_6 (by decide) ?_
    refine v_icmp_gt hC dX10_isTarget_9 (tgt := 16) (by decide) (fun h9 => ?_) (fun h9 => ?_)
    · refine v_iconst (v := 0) hC dX10_isTarget_16 (by decide) ?_
      refine v_zret hC (Or.inl rfl) dX10_isTarget_17 ?_
      exact ⟨rfl, Or.inr ⟨fun q => by first | exact q.1 h2 | exact q.2 h9, rfl⟩⟩
    · refine v_iconst (v := 1) hC dX10_isTarget_12 (by decide) ?_
      refine v_goto hC dX10_isTarget_13 (tgt := 17) (by decide) ?_
      refine v_zret hC (Or.inr rfl) dX10_isTarget_17 ?_
      exact ⟨rfl, Or.inl ⟨⟨h2, h9⟩, rfl⟩⟩

set_option maxHeartbeats 4000000 in
set_option maxRecDepth 100000 in
theorem c_X10_addPerson {l : Launch} {G : Gd} {M : Me} {h n : Nat} {x : Xs} {y : Int32} (hW : Wt M) (hB : BR M h n x) (hz : hzU (x_u x)) : CQ (Qi G (fun r M2 => r = (d_addPerson (x_u x) y).1 ∧ BR M2 h n (acX x (d_addPerson (x_u x) y).2) ∧ Tk M M2 n ∧ Cf M M2 h n ∧ Wt M2)) l G yX10_addPerson cX10_addPerson 2 ((some .int)) 4 88 0 0 [.ref h, .int y] M := by
  refine c_of ([some (.ref h), some (.int y)] : Lo) RX10 "addPerson" (by decide) rfl rfl (Nat.le_of_ble_eq_true rfl) rfl (fun p e s m below meth c hC nw => ?_)
  have hR := hB.2.1
  have hnn := hB.1.1.2.2.2.2.2.2
  have hu := hR.2.1
  have u1 := hu.1
  have u2 := hu.2.1
  have u3 := hu.2.2.1
  have u4 := hu.2.2.2.1
  refine v_iload_n hC dX10_addPerson_0 rfl rfl ?_
  refine v_iconst (v := 1) hC dX10_addPerson_1 (by decide) ?_
  refine v_icmp_lt hC dX10_addPerson_2 (tgt := 11) (by decide) (fun h2 => ?_) (fun h2 => ?_)
  · refine v_bipush (v := (-2)) hC dX10_addPerson_11 (by decide) ?_
    refine v_iret hC dX10_addPerson_13 ?_
    have hD : d_addPerson (x_u x) y = (-2, none) := by first | exact if_pos (Or.inl h2) | exact if_pos (Or.inr (i_nle h8))
    rw [hD]; exact ⟨rfl, hB, Tk.rf, Cf.rf, hW⟩
  · refine v_iload_n hC dX10_addPerson_5 rfl rfl ?_
    refine v_bipush (v := 50) hC dX10_addPerson_6 (by decide) ?_
    refine v_icmp_le hC dX10_addPerson_8 (tgt := 14) (by decide) (fun h8 => ?_) (fun h8 => ?_)
    · refine v_aload_n hC dX10_addPerson_14 rfl rfl ?_
      refine gf_10_1 hC hB.1.1.1 (wf_261 hW hB.1.1.1) mw_2_79 dX10_addPerson_15 ?_
      first | rw [hB.1.2.1.2.1] | erw [hB.1.2.1.2.1]
      refine gf_7_2 hC hB.1.2.2.1.1.1.1 mw_2_33 dX10_addPerson_18 ?_
      rw [hR.2.2.2.1.2.1]
      refine v_bipush (v := 6) hC dX10_addPerson_21 (by decide) ?_
      refine v_icmp_lt hC dX10_addPerson_23 (tgt := 29) (by decide) (fun h23 => ?_) (fun h23 => ?_)
      · have hk : n_p (x_u x) < 6 := lp_gt (i := 6) h23 (by have := hu.2.1; omega)
        refine v_aload_n hC dX10_addPerson_29 rfl rfl ?_
        refine gf_10_3 hC hB.1.1.1 (wf_263 hW hB.1.1.1) mw_2_81 dX10_addPerson_30 ?_
        first | rw [hB.1.2.1.2.2.2.1] | erw [hB.1.2.1.2.2.2.1]
        refine v_aload_n hC dX10_addPerson_33 rfl rfl ?_
        refine gf_10_1 hC hB.1.1.1 (wf_261 hW hB.1.1.1) mw_2_79 dX10_addPerson_34 ?_
        first | rw [hB.1.2.1.2.1] | erw [hB.1.2.1.2.1]
        refine cVv1 hC (c_X2_push hW hB hz) yv_X2_push rfl hB.1.1.2.2.2.1 mw_2_98 ⟨Nat.le_of_ble_eq_true rfl, Nat.le_of_ble_eq_true rfl⟩ ⟨Nat.le_of_ble_eq_true rfl, Nat.le_of_ble_eq_true rfl⟩ (Nat.le_of_ble_eq_true rfl) dX10_addPerson_37 (fun M39 hq => ?_)
        obtain ⟨hB2, hcf2, hW2, htk2, hx2, hsk2⟩ := hq
        have nw2 := hx2.nw nw
        have hkt2 := hx2.kt
        have hR2 := hB2.pushed
        have hnn2 := hB2.1.1.2.2.2.2.2.2
        refine v_aload_n hC dX10_addPerson_40 rfl rfl ?_
        refine gf_10_1 hC (hkt2.u hB.1.1.1) (wf_261 hW2 (hkt2.u hB.1.1.1)) mw_2_79 dX10_addPerson_41 ?_
        first | rw [hB2.1.2.1.2.1] | erw [hB2.1.2.1.2.1]
        refine v_iload_n hC dX10_addPerson_44 rfl rfl ?_
        refine cVi1 hC (c_X7_hire hW2 hB2.1.2.2.1.1.1.1 hR2 hk) yv_X7_hire rfl hB2.1.2.2.1.1.1.1 mw_2_134 ⟨Nat.le_of_ble_eq_true rfl, Nat.le_of_ble_eq_true rfl⟩ ⟨Nat.le_of_ble_eq_true rfl, Nat.le_of_ble_eq_true rfl⟩ (Nat.le_of_ble_eq_true rfl) dX10_addPerson_45 (fun r45 M47 hq => ?_)
        obtain ⟨rfl, hR3, hr3, hW3⟩ := hq
        refine v_iret hC dX10_addPerson_48 ?_
        have hD : d_addPerson (x_u x) y = (nI (n_p (x_u x)), some (hireU (x_u x) y)) := by rw [d_addPerson, if_neg (fun q => q.elim h2 (fun q => i_ab q h8)), if_pos hk]
        rw [hD]; exact ⟨rfl, hB2.act nw2 hW2 hr3 hR3, Tk.tr htk2 (hr3.tk hnn2 (Nat.le_refl _)), hcf2.tr (hr3.cf (Nat.le_refl _) (by omega)), hW3⟩
      · refine v_bipush (v := (-3)) hC dX10_addPerson_26 (by decide) ?_
        refine v_iret hC dX10_addPerson_28 ?_
        have hD : d_addPerson (x_u x) y = (-3, none) := by rw [d_addPerson, if_neg (fun q => q.elim h2 (fun q => i_ab q h8)), if_neg (fun q => h23 (nI_lt (a := n_p (x_u x)) (b := 6) q (by decide)))]
        rw [hD]; exact ⟨rfl, hB, Tk.rf, Cf.rf, hW⟩
    · refine v_bipush (v := (-2)) hC dX10_addPerson_11 (by decide) ?_
      refine v_iret hC dX10_addPerson_13 ?_
      have hD : d_addPerson (x_u x) y = (-2, none) := by first | exact if_pos (Or.inl h2) | exact if_pos (Or.inr (i_nle h8))
      rw [hD]; exact ⟨rfl, hB, Tk.rf, Cf.rf, hW⟩

set_option maxHeartbeats 4000000 in
set_option maxRecDepth 100000 in
theorem c_X10_newFile {l : Launch} {G : Gd} {M : Me} {h n : Nat} {x : Xs}  (hW : Wt M) (hB : BR M h n x) (hz : hzU (x_u x)) : CQ (Qi G (fun r M2 => r = (d_newFile (x_u x)).1 ∧ BR M2 h n (acX x (d_newFile (x_u x)).2) ∧ Tk M M2 n ∧ Cf M M2 h n ∧ Wt M2)) l G yX10_newFile cX10_newFile 1 ((some .int)) 4 88 0 0 [.ref h] M := by
  refine c_of ([some (.ref h)] : Lo) RX10 "newFile" (by decide) rfl rfl (Nat.le_of_ble_eq_true rfl) rfl (fun p e s m below meth c hC nw => ?_)
  have hR := hB.2.1
  have hnn := hB.1.1.2.2.2.2.2.2
  have hu := hR.2.1
  have u1 := hu.1
  have u2 := hu.2.1
  have u3 := hu.2.2.1
  have u4 := hu.2.2.2.1
  refine v_aload_n hC dX10_newFile_0 rfl rfl ?_
  refine gf_10_1 hC hB.1.1.1 (wf_261 hW hB.1.1.1) mw_2_79 dX10_newFile_1 ?_
  first | rw [hB.1.2.1.2.1] | erw [hB.1.2.1.2.1]
  refine gf_7_4 hC hB.1.2.2.1.1.1.1 mw_2_37 dX10_newFile_4 ?_
  rw [hR.2.2.2.1.1]
  refine v_bipush (v := 8) hC dX10_newFile_7 (by decide) ?_
  refine v_icmp_lt hC dX10_newFile_9 (tgt := 15) (by decide) (fun h9 => ?_) (fun h9 => ?_)
  · have hk : n_f (x_u x) < 8 := lp_gt (i := 8) h9 (by have := hu.1; omega)
    refine v_aload_n hC dX10_newFile_15 rfl rfl ?_
    refine gf_10_3 hC hB.1.1.1 (wf_263 hW hB.1.1.1) mw_2_81 dX10_newFile_16 ?_
    first | rw [hB.1.2.1.2.2.2.1] | erw [hB.1.2.1.2.2.2.1]
    refine v_aload_n hC dX10_newFile_19 rfl rfl ?_
    refine gf_10_1 hC hB.1.1.1 (wf_261 hW hB.1.1.1) mw_2_79 dX10_newFile_20 ?_
    first | rw [hB.1.2.1.2.1] | erw [hB.1.2.1.2.1]
    refine cVv1 hC (c_X2_push hW hB hz) yv_X2_push rfl hB.1.1.2.2.2.1 mw_2_98 ⟨Nat.le_of_ble_eq_true rfl, Nat.le_of_ble_eq_true rfl⟩ ⟨Nat.le_of_ble_eq_true rfl, Nat.le_of_ble_eq_true rfl⟩ (Nat.le_of_ble_eq_true rfl) dX10_newFile_23 (fun M25 hq => ?_)
    obtain ⟨hB2, hcf2, hW2, htk2, hx2, hsk2⟩ := hq
    have nw2 := hx2.nw nw
    have hkt2 := hx2.kt
    have hR2 := hB2.pushed
    have hnn2 := hB2.1.1.2.2.2.2.2.2
    refine v_aload_n hC dX10_newFile_26 rfl rfl ?_
    refine gf_10_1 hC (hkt2.u hB.1.1.1) (wf_261 hW2 (hkt2.u hB.1.1.1)) mw_2_79 dX10_newFile_27 ?_
    first | rw [hB2.1.2.1.2.1] | erw [hB2.1.2.1.2.1]
    refine cVi0 hC (c_X7_addFile hW2 hB2.1.2.2.1.1.1.1 hR2 hk) yv_X7_addFile rfl hB2.1.2.2.1.1.1.1 mw_2_184 ⟨Nat.le_of_ble_eq_true rfl, Nat.le_of_ble_eq_true rfl⟩ ⟨Nat.le_of_ble_eq_true rfl, Nat.le_of_ble_eq_true rfl⟩ (Nat.le_of_ble_eq_true rfl) dX10_newFile_30 (fun r30 M32 hq => ?_)
    obtain ⟨rfl, hR3, hr3, hW3⟩ := hq
    refine v_iret hC dX10_newFile_33 ?_
    have hD : d_newFile (x_u x) = (nI (n_f (x_u x)), some (fileU (x_u x))) := by rw [d_newFile, if_pos hk]
    rw [hD]; exact ⟨rfl, hB2.act nw2 hW2 hr3 hR3, Tk.tr htk2 (hr3.tk hnn2 (Nat.le_refl _)), hcf2.tr (hr3.cf (Nat.le_refl _) (by omega)), hW3⟩
  · refine v_bipush (v := (-3)) hC dX10_newFile_12 (by decide) ?_
    refine v_iret hC dX10_newFile_14 ?_
    have hD : d_newFile (x_u x) = (-3, none) := by rw [d_newFile, if_neg (fun q => h9 (nI_lt (a := n_f (x_u x)) (b := 8) q (by decide)))]
    rw [hD]; exact ⟨rfl, hB, Tk.rf, Cf.rf, hW⟩

set_option maxHeartbeats 4000000 in
set_option maxRecDepth 100000 in
theorem c_X10_setShare {l : Launch} {G : Gd} {M : Me} {h n : Nat} {x : Xs} {y z : Int32} (hW : Wt M) (hB : BR M h n x) (hz : hzU (x_u x)) : CQ (Qi G (fun r M2 => r = (d_setShare (x_u x) y z).1 ∧ BR M2 h n (acX x (d_setShare (x_u x) y z).2) ∧ Tk M M2 n ∧ Cf M M2 h n ∧ Wt M2)) l G yX10_setShare cX10_setShare 4 ((some .int)) 4 88 0 0 [.ref h, .int y, .int z] M := by
  refine c_of ([some (.ref h), some (.int y), some (.int z), none] : Lo) RX10 "setShare" (by decide) rfl rfl (Nat.le_of_ble_eq_true rfl) rfl (fun p e s m below meth c hC nw => ?_)
  have hR := hB.2.1
  have hnn := hB.1.1.2.2.2.2.2.2
  have hu := hR.2.1
  have u1 := hu.1
  have u2 := hu.2.1
  have u3 := hu.2.2.1
  have u4 := hu.2.2.2.1
  refine v_iload_n hC dX10_setShare_0 rfl rfl ?_
  refine cSi1 hC (c_X10_isBand ) ys_X10_isBand mw_2_165 ⟨Nat.le_of_ble_eq_true rfl, Nat.le_of_ble_eq_true rfl⟩ ⟨Nat.le_of_ble_eq_true rfl, Nat.le_of_ble_eq_true rfl⟩ (Nat.le_of_ble_eq_true rfl) dX10_setShare_1 (fun r1 M3 hq => ?_)
  obtain ⟨hm, hq2⟩ := hq
  have hm2 := hm.symm
  clear hm
  subst hm2
  obtain ⟨g1, rfl⟩ | ⟨g1, rfl⟩ := hq2
  · refine v_if_eq hC dX10_setShare_4 (tgt := 17) (by decide) (fun hx => absurd hx (by decide)) (fun _ => ?_)
    obtain ⟨b1, hb1, rfl⟩ := g1
    refine v_iload_n hC dX10_setShare_7 rfl rfl ?_
    refine v_if_lt hC dX10_setShare_8 (tgt := 17) (by decide) (fun h8 => ?_) (fun h8 => ?_)
    · refine v_bipush (v := (-2)) hC dX10_setShare_17 (by decide) ?_
      refine v_iret hC dX10_setShare_19 ?_
      first
        | (have hD : d_setShare (x_u x) y z = (-2, none) := by rw [d_setShare, inN_o g1]
           rw [hD]; exact ⟨rfl, hB, Tk.rf, Cf.rf, hW⟩)
        | (have hD : d_setShare (x_u x) (nI b1) z = (-2, none) := by rw [d_setShare, inN_s hb1]; exact if_pos (by first | exact Or.inl h8 | exact Or.inr (i_nle h14))
           rw [hD]; exact ⟨rfl, hB, Tk.rf, Cf.rf, hW⟩)
    · refine v_iload_n hC dX10_setShare_11 rfl rfl ?_
      refine v_bipush (v := 100) hC dX10_setShare_12 (by decide) ?_
      refine v_icmp_le hC dX10_setShare_14 (tgt := 20) (by decide) (fun h14 => ?_) (fun h14 => ?_)
      · refine v_aload_n hC dX10_setShare_20 rfl rfl ?_
        refine gf_10_1 hC hB.1.1.1 (wf_261 hW hB.1.1.1) mw_2_79 dX10_setShare_21 ?_
        first | rw [hB.1.2.1.2.1] | erw [hB.1.2.1.2.1]
        refine gf_7_0 hC hB.1.2.2.1.1.1.1 (wf_212 hW hB.1.2.2.1.1.1.1) mw_2_29 dX10_setShare_24 ?_
        rw [ly_H hR.1]
        refine v_iload_n hC dX10_setShare_27 rfl rfl ?_
        refine v_iald 20 hC (by rw [← ly_H hR.1]; exact wf_212 hW hR.1.1.1) (by decide) (by decide) (ix_c (wz_20 hW (by rw [← ly_H hR.1]; exact wf_212 hW hR.1.1.1)) hb1) dX10_setShare_28 ?_
        rw [hR.sh2 hb1]
        refine v_ist3 hC dX10_setShare_29 (by decide) (kk := ?_)
        refine v_iload_n hC dX10_setShare_30 rfl rfl ?_
        refine v_iload_n hC dX10_setShare_31 rfl rfl ?_
        refine v_icmp_ne hC dX10_setShare_32 (tgt := 38) (by decide) (fun h32 => ?_) (fun h32 => ?_)
        · have hS0 : ∀ M1 : Me, Wt M1 → CR M1 (n + 7) (x_u x) → m_t M1 (cA (n + 7) 0 0) = 20 := fun M1 w c => by rw [← ly_H c.1]; exact wf_212 w c.1.1.1
          refine v_aload_n hC dX10_setShare_38 rfl rfl ?_
          refine gf_10_3 hC hB.1.1.1 (wf_263 hW hB.1.1.1) mw_2_81 dX10_setShare_39 ?_
          first | rw [hB.1.2.1.2.2.2.1] | erw [hB.1.2.1.2.2.2.1]
          refine v_aload_n hC dX10_setShare_42 rfl rfl ?_
          refine gf_10_1 hC hB.1.1.1 (wf_261 hW hB.1.1.1) mw_2_79 dX10_setShare_43 ?_
          first | rw [hB.1.2.1.2.1] | erw [hB.1.2.1.2.1]
          refine cVv1 hC (c_X2_push hW hB hz) yv_X2_push rfl hB.1.1.2.2.2.1 mw_2_98 ⟨Nat.le_of_ble_eq_true rfl, Nat.le_of_ble_eq_true rfl⟩ ⟨Nat.le_of_ble_eq_true rfl, Nat.le_of_ble_eq_true rfl⟩ (Nat.le_of_ble_eq_true rfl) dX10_setShare_46 (fun M48 hq => ?_)
          obtain ⟨hB2, hcf2, hW2, htk2, hx2, hsk2⟩ := hq
          have nw2 := hx2.nw nw
          have hkt2 := hx2.kt
          have hR2 := hB2.pushed
          have hnn2 := hB2.1.1.2.2.2.2.2.2
          refine v_aload_n hC dX10_setShare_49 rfl rfl ?_
          refine gf_10_1 hC (hkt2.u hB.1.1.1) (wf_261 hW2 (hkt2.u hB.1.1.1)) mw_2_79 dX10_setShare_50 ?_
          first | rw [hB2.1.2.1.2.1] | erw [hB2.1.2.1.2.1]
          refine gf_7_0 hC hB2.1.2.2.1.1.1.1 (wf_212 hW2 hR2.1.1.1) mw_2_29 dX10_setShare_53 ?_
          rw [ly_H hR2.1]
          refine v_iload_n hC dX10_setShare_56 rfl rfl ?_
          refine v_iload_n hC dX10_setShare_57 rfl rfl ?_
          refine v_iast 20 hC (hS0 _ hW2 hR2) (by decide) (by decide) (ix_c (wz_20 hW2 (hS0 _ hW2 hR2)) hb1) dX10_setShare_58 ?_
          refine v_iload_n hC dX10_setShare_59 rfl rfl ?_
          refine v_iret hC dX10_setShare_60 ?_
          have hr3 : Rg _ (s_i M48 20 (cA (n + 7) 0 0) b1 z) (n + 7) := (Rg.rf (M := M48)).si (cA_r (cp_h hb1)) (by decide)
          have hR3 : CR (s_i M48 20 (cA (n + 7) 0 0) b1 z) (n + 7) (u_i (x_u x) 0 0 b1 z) := CR.wA 0 0 b1 hR2 (cp_h hb1) rfl
          have hD : d_setShare (x_u x) (nI b1) z = (q_i (x_u x) 0 0 b1, some (u_i (x_u x) 0 0 b1 z)) := by rw [d_setShare, inN_s hb1]; show (if _ then _ else _) = _; rw [if_neg (fun q => q.elim h8 (fun q => i_ab q h14)), if_neg h32]
          rw [hD]; exact ⟨rfl, hB2.act nw2 hW2 hr3 hR3, Tk.tr htk2 (hr3.tk hnn2 (Nat.le_refl _)), hcf2.tr (hr3.cf (Nat.le_refl _) (by omega)), hW2⟩
        · refine v_bipush (v := (-5)) hC dX10_setShare_35 (by decide) ?_
          refine v_iret hC dX10_setShare_37 ?_
          have hD : d_setShare (x_u x) (nI b1) z = (-5, none) := by rw [d_setShare, inN_s hb1]; show (if _ then _ else _) = _; rw [if_neg (fun q => q.elim h8 (fun q => i_ab q h14)), if_pos h32]
          rw [hD]; exact ⟨rfl, hB, Tk.rf, Cf.rf, hW⟩
      · refine v_bipush (v := (-2)) hC dX10_setShare_17 (by decide) ?_
        refine v_iret hC dX10_setShare_19 ?_
        first
          | (have hD : d_setShare (x_u x) y z = (-2, none) := by rw [d_setShare, inN_o g1]
             rw [hD]; exact ⟨rfl, hB, Tk.rf, Cf.rf, hW⟩)
          | (have hD : d_setShare (x_u x) (nI b1) z = (-2, none) := by rw [d_setShare, inN_s hb1]; exact if_pos (by first | exact Or.inl h8 | exact Or.inr (i_nle h14))
             rw [hD]; exact ⟨rfl, hB, Tk.rf, Cf.rf, hW⟩)
  · refine v_if_eq hC dX10_setShare_4 (tgt := 17) (by decide) (fun _ => ?_) (fun hx => absurd hx (by decide))
    refine v_bipush (v := (-2)) hC dX10_setShare_17 (by decide) ?_
    refine v_iret hC dX10_setShare_19 ?_
    first
      | (have hD : d_setShare (x_u x) y z = (-2, none) := by rw [d_setShare, inN_o g1]
         rw [hD]; exact ⟨rfl, hB, Tk.rf, Cf.rf, hW⟩)
      | (have hD : d_setShare (x_u x) (nI b1) z = (-2, none) := by rw [d_setShare, inN_s hb1]; exact if_pos (by first | exact Or.inl h8 | exact Or.inr (i_nle h14))
         rw [hD]; exact ⟨rfl, hB, Tk.rf, Cf.rf, hW⟩)
