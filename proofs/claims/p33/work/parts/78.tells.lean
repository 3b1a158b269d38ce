theorem eb_t {k : Nat} {x : Int32} (h : k = 9 ∨ k = 16) : (eb k x).toInt32 = if x = 0 then -5 else x := by
  unfold eb
  by_cases q : x = 0
  · rw [if_pos ⟨h, q⟩, if_pos q]; decide
  · rw [if_neg (fun z => q z.2), if_neg q, Int32.toInt32_toInt64]
/-- who translates a file is known from its taking on -/
def WfA (u : Si) : Prop := ∀ f, f < n_f u → q_i u 4 f 0 = 1 → ∃ a, a < n_p u ∧ q_i u 5 f 0 = nI a
theorem chr_in {g : Sg} {z : Nat} (hz : z < 2 ^ 31) (hl : (txS g).length < 2 ^ 31) : chr g z = match inN (nI z) (txS g).length with
  | some i => nI ((txS g).getD i 0)
  | none => -5 := by
  unfold chr
  by_cases q : z < (txS g).length
  · rw [if_pos q, inN_s q hl]
  · rw [if_neg q, inN_o (fun ⟨j, h1, h2⟩ => q (by rw [(nI_eq hz (by omega)).mp h2]; exact h1)) hl]
theorem txS_le : ∀ (g : Sg), (∀ w ∈ g, w.length ≤ 8) → (txS g).length ≤ 9 * g.length
  | [], _ => Nat.le_refl 0
  | [w], h => by
    have := h w (List.mem_cons_self ..)
    show (w.map (96 + ·)).length ≤ 9 * 1
    rw [List.length_map]; omega
  | w :: v :: g, h => by
    have := h w (List.mem_cons_self ..)
    have ih := txS_le (v :: g) (fun x hx => h x (List.mem_cons_of_mem _ hx))
    show (w.map (96 + ·) ++ 32 :: txS (v :: g)).length ≤ 9 * ((v :: g).length + 1)
    rw [List.length_append, List.length_cons, List.length_map]; omega
set_option maxHeartbeats 4000000 in
set_option maxRecDepth 100000 in
theorem c_X11_person {l : Launch} {G : Gd} {M : Me} {h : Nat} {u : Si} {y z : Int32} (hW : Wt M) (ht : m_t M h = 12) (hA : LA (rwM M h) u) (hP : LPd (rwM M h) u) : CQ (Qi G (fun r M2 => r = e_person u y z ∧ Bd M M2)) l G yX11_person cX11_person 4 ((some .int)) 3 68 0 0 [.ref h, .int y, .int z] M := by
  refine c_of ([some (.ref h), some (.int y), some (.int z), none] : Lo) RX11 "person" (by decide) rfl rfl (Nat.le_of_ble_eq_true rfl) rfl (fun p e s m below meth c hC nw => ?_)
  have u1 := hA.1.1
  have u2 := hA.1.2.1
  have u3 := hA.1.2.2.1
  have u4 := hA.1.2.2.2.1
  have hwz := wz_31 hW (wf_276 hW ht)
  refine v_aload_n hC dX11_person_0 rfl rfl ?_
  refine v_iload_n hC dX11_person_1 rfl rfl ?_
  refine cVi1 hC (c_X11_noPerson hW ht hA) yv_X11_noPerson rfl ht mw_4_194 ⟨Nat.le_of_ble_eq_true rfl, Nat.le_of_ble_eq_true rfl⟩ ⟨Nat.le_of_ble_eq_true rfl, Nat.le_of_ble_eq_true rfl⟩ (Nat.le_of_ble_eq_true rfl) dX11_person_2 (fun r2 M4 hq => ?_)
  obtain ⟨hm, hq2⟩ := hq
  have hm2 := hm.symm
  clear hm
  subst hm2
  obtain ⟨g2, rfl⟩ | ⟨g2, rfl⟩ := hq2
  · refine v_if_eq hC dX11_person_5 (tgt := 10) (by decide) (fun _ => ?_) (fun hx => absurd hx (by decide))
    obtain ⟨p0, hp, rfl⟩ := g2
    have hp6 : p0 < 6 := by omega
    refine v_aload_n hC dX11_person_10 rfl rfl ?_
    refine v_iload_n hC dX11_person_11 rfl rfl ?_
    refine cVi1 hC (c_X11_personBy ht) yv_X11_personBy rfl ht mw_4_185 ⟨Nat.le_of_ble_eq_true rfl, Nat.le_of_ble_eq_true rfl⟩ ⟨Nat.le_of_ble_eq_true rfl, Nat.le_of_ble_eq_true rfl⟩ (Nat.le_of_ble_eq_true rfl) dX11_person_12 (fun r12 M14 hq => ?_)
    obtain ⟨rfl, hm⟩ := hq
    have hm2 := hm.symm
    clear hm
    subst hm2
    refine v_ist3 hC dX11_person_15 (by decide) (kk := ?_)
    refine v_iload_n hC dX11_person_16 rfl rfl ?_
    by_cases e0 : z = 0
    · subst e0
      refine v_tsi hC dX11_person_17 (by decide) (by decide) (off := 47) (by rfl) (tgt := 64) (by decide) ?_
      refine v_aload_n hC dX11_person_64 rfl rfl ?_
      refine v_iload_n hC dX11_person_65 rfl rfl ?_
      refine v_iconst (v := 0) hC dX11_person_66 (by decide) ?_
      refine v_iadd hC dX11_person_67 ?_
      rw [show nI (74 + 7 * p0) + 0 = nI (74 + 7 * p0) from nI_add _ 0]
      refine cVi1 hC (c_X11_number hW ht (by omega)) yv_X11_number rfl ht mw_4_165 ⟨Nat.le_of_ble_eq_true rfl, Nat.le_of_ble_eq_true rfl⟩ ⟨Nat.le_of_ble_eq_true rfl, Nat.le_of_ble_eq_true rfl⟩ (Nat.le_of_ble_eq_true rfl) dX11_person_68 (fun r68 M70 hq => ?_)
      obtain ⟨rfl, hm⟩ := hq
      have hm2 := hm.symm
      clear hm
      subst hm2
      rw [show rwM M h (74 + 7 * p0) = _ from (hA.p3 hp).1]
      rw [Int32.toInt32_toInt64]
      refine v_iret hC dX11_person_71 ?_
      exact ⟨by rw [e_person, inN_s hp]; exact (if_pos rfl).symm, Bd.rf⟩
    by_cases e1 : z = 1
    · subst e1
      refine v_tsi hC dX11_person_17 (by decide) (by decide) (off := 55) (by rfl) (tgt := 72) (by decide) ?_
      refine v_aload_n hC dX11_person_72 rfl rfl ?_
      refine v_iload_n hC dX11_person_73 rfl rfl ?_
      refine v_iconst (v := 1) hC dX11_person_74 (by decide) ?_
      refine v_iadd hC dX11_person_75 ?_
      rw [show nI (74 + 7 * p0) + 1 = nI (74 + 7 * p0 + 1) from nI_add _ 1]
      refine cVi1 hC (c_X11_number hW ht (by omega)) yv_X11_number rfl ht mw_4_165 ⟨Nat.le_of_ble_eq_true rfl, Nat.le_of_ble_eq_true rfl⟩ ⟨Nat.le_of_ble_eq_true rfl, Nat.le_of_ble_eq_true rfl⟩ (Nat.le_of_ble_eq_true rfl) dX11_person_76 (fun r76 M78 hq => ?_)
      obtain ⟨rfl, hm⟩ := hq
      have hm2 := hm.symm
      clear hm
      subst hm2
      rw [show rwM M h (74 + 7 * p0 + 1) = _ from (hA.p3 hp).2.1]
      rw [Int32.toInt32_toInt64]
      refine v_iret hC dX11_person_79 ?_
      exact ⟨by rw [e_person, inN_s hp]; exact ((if_neg (by decide)).trans (if_pos rfl)).symm, Bd.rf⟩
    by_cases e2 : z = 2
    · subst e2
      refine v_tsi hC dX11_person_17 (by decide) (by decide) (off := 63) (by rfl) (tgt := 80) (by decide) ?_
      refine v_aload_n hC dX11_person_80 rfl rfl ?_
      refine v_iload_n hC dX11_person_81 rfl rfl ?_
      refine v_iconst (v := 2) hC dX11_person_82 (by decide) ?_
      refine v_iconst (v := 1) hC dX11_person_83 (by decide) ?_
      refine v_iconst (v := 2) hC dX11_person_84 (by decide) ?_
      refine cVi4 hC (c_X11_filesOf_t hW ht hA) yv_X11_filesOf rfl ht mw_5_197 ⟨Nat.le_of_ble_eq_true rfl, Nat.le_of_ble_eq_true rfl⟩ ⟨Nat.le_of_ble_eq_true rfl, Nat.le_of_ble_eq_true rfl⟩ (Nat.le_of_ble_eq_true rfl) dX11_person_85 (fun r85 M87 hq => ?_)
      obtain ⟨rfl, hm⟩ := hq
      have hm2 := hm.symm
      clear hm
      subst hm2
      refine v_iret hC dX11_person_88 ?_
      exact ⟨by rw [e_person, inN_s hp]; exact ((if_neg (by decide)).trans ((if_neg (by decide)).trans (if_pos rfl))).symm, Bd.rf⟩
    by_cases e3 : z = 3
    · subst e3
      refine v_tsi hC dX11_person_17 (by decide) (by decide) (off := 72) (by rfl) (tgt := 89) (by decide) ?_
      refine v_aload_n hC dX11_person_89 rfl rfl ?_
      refine v_iload_n hC dX11_person_90 rfl rfl ?_
      refine v_iconst (v := 3) hC dX11_person_91 (by decide) ?_
      refine v_iconst (v := 2) hC dX11_person_92 (by decide) ?_
      refine v_iconst (v := 2) hC dX11_person_93 (by decide) ?_
      refine cVi4 hC (c_X11_filesOf_r hW ht hA) yv_X11_filesOf rfl ht mw_5_197 ⟨Nat.le_of_ble_eq_true rfl, Nat.le_of_ble_eq_true rfl⟩ ⟨Nat.le_of_ble_eq_true rfl, Nat.le_of_ble_eq_true rfl⟩ (Nat.le_of_ble_eq_true rfl) dX11_person_94 (fun r94 M96 hq => ?_)
      obtain ⟨rfl, hm⟩ := hq
      have hm2 := hm.symm
      clear hm
      subst hm2
      refine v_iret hC dX11_person_97 ?_
      exact ⟨by rw [e_person, inN_s hp]; exact ((if_neg (by decide)).trans ((if_neg (by decide)).trans ((if_neg (by decide)).trans (if_pos rfl)))).symm, Bd.rf⟩
    by_cases e4 : z = 4
    · subst e4
      refine v_tsi hC dX11_person_17 (by decide) (by decide) (off := 81) (by rfl) (tgt := 98) (by decide) ?_
      refine v_aload_n hC dX11_person_98 rfl rfl ?_
      refine v_iload_n hC dX11_person_99 rfl rfl ?_
      refine v_iconst (v := 4) hC dX11_person_100 (by decide) ?_
      refine v_iadd hC dX11_person_101 ?_
      rw [show nI (74 + 7 * p0) + 4 = nI (74 + 7 * p0 + 4) from nI_add _ 4]
      refine cVi1 hC (c_X11_number hW ht (by omega)) yv_X11_number rfl ht mw_4_165 ⟨Nat.le_of_ble_eq_true rfl, Nat.le_of_ble_eq_true rfl⟩ ⟨Nat.le_of_ble_eq_true rfl, Nat.le_of_ble_eq_true rfl⟩ (Nat.le_of_ble_eq_true rfl) dX11_person_102 (fun r102 M104 hq => ?_)
      obtain ⟨rfl, hm⟩ := hq
      have hm2 := hm.symm
      clear hm
      subst hm2
      rw [show rwM M h (74 + 7 * p0 + 4) = rwM M h (pl 21 p0 0) from congrArg _ (by simp [pl, pB_, pA_, pJ_]; omega), (hP p0 hp).2.1]
      refine v_iret hC dX11_person_105 ?_
      exact ⟨by rw [e_person, inN_s hp]; exact ((if_neg (by decide)).trans ((if_neg (by decide)).trans ((if_neg (by decide)).trans ((if_neg (by decide)).trans (if_pos rfl))))).symm, Bd.rf⟩
    by_cases e5 : z = 5
    · subst e5
      refine v_tsi hC dX11_person_17 (by decide) (by decide) (off := 89) (by rfl) (tgt := 106) (by decide) ?_
      refine v_aload_n hC dX11_person_106 rfl rfl ?_
      refine v_iload_n hC dX11_person_107 rfl rfl ?_
      refine v_iconst (v := 5) hC dX11_person_108 (by decide) ?_
      refine v_iadd hC dX11_person_109 ?_
      rw [show nI (74 + 7 * p0) + 5 = nI (74 + 7 * p0 + 5) from nI_add _ 5]
      refine cVi1 hC (c_X11_number hW ht (by omega)) yv_X11_number rfl ht mw_4_165 ⟨Nat.le_of_ble_eq_true rfl, Nat.le_of_ble_eq_true rfl⟩ ⟨Nat.le_of_ble_eq_true rfl, Nat.le_of_ble_eq_true rfl⟩ (Nat.le_of_ble_eq_true rfl) dX11_person_110 (fun r110 M112 hq => ?_)
      obtain ⟨rfl, hm⟩ := hq
      have hm2 := hm.symm
      clear hm
      subst hm2
      rw [show rwM M h (74 + 7 * p0 + 5) = rwM M h (pl 22 p0 0) from congrArg _ (by simp [pl, pB_, pA_, pJ_]; omega), (hP p0 hp).2.2]
      refine v_iret hC dX11_person_113 ?_
      exact ⟨by rw [e_person, inN_s hp]; exact ((if_neg (by decide)).trans ((if_neg (by decide)).trans ((if_neg (by decide)).trans ((if_neg (by decide)).trans ((if_neg (by decide)).trans (if_pos rfl)))))).symm, Bd.rf⟩
    by_cases e6 : z = 6
    · subst e6
      refine v_tsi hC dX11_person_17 (by decide) (by decide) (off := 97) (by rfl) (tgt := 114) (by decide) ?_
      refine v_aload_n hC dX11_person_114 rfl rfl ?_
      refine v_iload_n hC dX11_person_115 rfl rfl ?_
      refine v_iconst (v := 3) hC dX11_person_116 (by decide) ?_
      refine v_iadd hC dX11_person_117 ?_
      rw [show nI (74 + 7 * p0) + 3 = nI (74 + 7 * p0 + 3) from nI_add _ 3]
      refine cVi1 hC (c_X11_number hW ht (by omega)) yv_X11_number rfl ht mw_4_165 ⟨Nat.le_of_ble_eq_true rfl, Nat.le_of_ble_eq_true rfl⟩ ⟨Nat.le_of_ble_eq_true rfl, Nat.le_of_ble_eq_true rfl⟩ (Nat.le_of_ble_eq_true rfl) dX11_person_118 (fun r118 M120 hq => ?_)
      obtain ⟨rfl, hm⟩ := hq
      have hm2 := hm.symm
      clear hm
      subst hm2
      rw [show rwM M h (74 + 7 * p0 + 3) = rwM M h (pl 20 p0 0) from congrArg _ (by simp [pl, pB_, pA_, pJ_]; omega), (hP p0 hp).1]
      refine v_iret hC dX11_person_121 ?_
      exact ⟨by rw [e_person, inN_s hp]; exact ((if_neg (by decide)).trans ((if_neg (by decide)).trans ((if_neg (by decide)).trans ((if_neg (by decide)).trans ((if_neg (by decide)).trans ((if_neg (by decide)).trans (if_pos rfl))))))).symm, Bd.rf⟩
    by_cases e7 : z = 7
    · subst e7
      refine v_tsi hC dX11_person_17 (by decide) (by decide) (off := 105) (by rfl) (tgt := 122) (by decide) ?_
      refine v_aload_n hC dX11_person_122 rfl rfl ?_
      refine v_iload_n hC dX11_person_123 rfl rfl ?_
      refine v_iconst (v := 2) hC dX11_person_124 (by decide) ?_
      refine v_iadd hC dX11_person_125 ?_
      rw [show nI (74 + 7 * p0) + 2 = nI (74 + 7 * p0 + 2) from nI_add _ 2]
      refine cVi1 hC (c_X11_number hW ht (by omega)) yv_X11_number rfl ht mw_4_165 ⟨Nat.le_of_ble_eq_true rfl, Nat.le_of_ble_eq_true rfl⟩ ⟨Nat.le_of_ble_eq_true rfl, Nat.le_of_ble_eq_true rfl⟩ (Nat.le_of_ble_eq_true rfl) dX11_person_126 (fun r126 M128 hq => ?_)
      obtain ⟨rfl, hm⟩ := hq
      have hm2 := hm.symm
      clear hm
      subst hm2
      rw [show rwM M h (74 + 7 * p0 + 2) = _ from (hA.p3 hp).2.2]
      rw [Int32.toInt32_toInt64]
      refine v_iret hC dX11_person_129 ?_
      exact ⟨by rw [e_person, inN_s hp]; exact ((if_neg (by decide)).trans ((if_neg (by decide)).trans ((if_neg (by decide)).trans ((if_neg (by decide)).trans ((if_neg (by decide)).trans ((if_neg (by decide)).trans ((if_neg (by decide)).trans (if_pos rfl)))))))).symm, Bd.rf⟩
    have hout : z.toInt < 0 ∨ 7 < z.toInt := by
      have q0 := lv_neT e0 (a := 0) rfl
      have q1 := lv_neT e1 (a := 1) rfl
      have q2 := lv_neT e2 (a := 2) rfl
      have q3 := lv_neT e3 (a := 3) rfl
      have q4 := lv_neT e4 (a := 4) rfl
      have q5 := lv_neT e5 (a := 5) rfl
      have q6 := lv_neT e6 (a := 6) rfl
      have q7 := lv_neT e7 (a := 7) rfl
      omega
    refine v_tso hC dX11_person_17 hout (tgt := 130) (by decide) ?_
    refine v_bipush (v := (-2)) hC dX11_person_130 (by decide) ?_
    refine v_iret hC dX11_person_132 ?_
    exact ⟨by rw [e_person, inN_s hp]; exact ((if_neg e0).trans ((if_neg e1).trans ((if_neg e2).trans ((if_neg e3).trans ((if_neg e4).trans ((if_neg e5).trans ((if_neg e6).trans (if_neg e7)))))))).symm, Bd.rf⟩
  · refine v_if_eq hC dX11_person_5 (tgt := 10) (by decide) (fun hx => absurd hx (by decide)) (fun _ => ?_)
    refine v_iconst (v := (-1)) hC dX11_person_8 (by decide) ?_
    refine v_iret hC dX11_person_9 ?_
    exact ⟨((by rw [e_person, inN_o g2] : e_person u y z = -1)).symm, Bd.rf⟩

set_option maxHeartbeats 4000000 in
set_option maxRecDepth 100000 in
theorem c_X11_file {l : Launch} {G : Gd} {M : Me} {h : Nat} {u : Si} {x y : Int32} (hW : Wt M) (ht : m_t M h = 12) (hA : LA (rwM M h) u) (hO : WfO u) (hS : WfS u) (hT : WfT u) : CQ (Qi G (fun r M2 => M2 = M)) l G yX11_file cX11_file 4 ((some .int)) 4 87 0 0 [.ref h, .int x, .int y] M := by
  refine c_of ([some (.ref h), some (.int x), some (.int y), none] : Lo) RX11 "file" (by decide) rfl rfl (Nat.le_of_ble_eq_true rfl) rfl (fun p e s m below meth c hC nw => ?_)
  have u1 := hA.1.1
  have u2 := hA.1.2.1
  have u3 := hA.1.2.2.1
  have u4 := hA.1.2.2.2.1
  have hwz := wz_31 hW (wf_276 hW ht)
  refine v_aload_n hC dX11_file_0 rfl rfl ?_
  refine v_iload_n hC dX11_file_1 rfl rfl ?_
  refine cVi1 hC (c_X11_noFile hW ht hA) yv_X11_noFile rfl ht mw_4_230 ⟨Nat.le_of_ble_eq_true rfl, Nat.le_of_ble_eq_true rfl⟩ ⟨Nat.le_of_ble_eq_true rfl, Nat.le_of_ble_eq_true rfl⟩ (Nat.le_of_ble_eq_true rfl) dX11_file_2 (fun r2 M4 hq => ?_)
  obtain ⟨hm, hq2⟩ := hq
  have hm2 := hm.symm
  clear hm
  subst hm2
  obtain ⟨g2, rfl⟩ | ⟨g2, rfl⟩ := hq2
  · refine v_if_eq hC dX11_file_5 (tgt := 10) (by decide) (fun _ => ?_) (fun hx => absurd hx (by decide))
    obtain ⟨f, hf, rfl⟩ := g2
    have h12f := hA.1.2.2.2.2 f hf
    refine v_aload_n hC dX11_file_10 rfl rfl ?_
    refine v_iload_n hC dX11_file_11 rfl rfl ?_
    refine cVi1 hC (c_X11_fileBy ht) yv_X11_fileBy rfl ht mw_4_222 ⟨Nat.le_of_ble_eq_true rfl, Nat.le_of_ble_eq_true rfl⟩ ⟨Nat.le_of_ble_eq_true rfl, Nat.le_of_ble_eq_true rfl⟩ (Nat.le_of_ble_eq_true rfl) dX11_file_12 (fun r12 M14 hq => ?_)
    obtain ⟨rfl, hm⟩ := hq
    have hm2 := hm.symm
    clear hm
    subst hm2
    refine v_ist3 hC dX11_file_15 (by decide) (kk := ?_)
    refine v_iload_n hC dX11_file_16 rfl rfl ?_
    by_cases e0 : y = 0
    · subst e0
      refine v_tsi hC dX11_file_17 (by decide) (by decide) (off := 55) (by rfl) (tgt := 72) (by decide) ?_
      refine v_aload_n hC dX11_file_72 rfl rfl ?_
      refine v_iload_n hC dX11_file_73 rfl rfl ?_
      refine v_iconst (v := 1) hC dX11_file_74 (by decide) ?_
      refine v_iadd hC dX11_file_75 ?_
      rw [show nI (18 + 7 * f) + 1 = nI (18 + 7 * f + 1) from nI_add _ 1]
      refine cVi1 hC (c_X11_number hW ht (by omega)) yv_X11_number rfl ht mw_4_165 ⟨Nat.le_of_ble_eq_true rfl, Nat.le_of_ble_eq_true rfl⟩ ⟨Nat.le_of_ble_eq_true rfl, Nat.le_of_ble_eq_true rfl⟩ (Nat.le_of_ble_eq_true rfl) dX11_file_76 (fun r76 M78 hq => ?_)
      obtain ⟨rfl, hm⟩ := hq
      have hm2 := hm.symm
      clear hm
      subst hm2
      refine v_iret hC dX11_file_79 ?_
      exact rfl
    by_cases e1 : y = 1
    · subst e1
      refine v_tsi hC dX11_file_17 (by decide) (by decide) (off := 63) (by rfl) (tgt := 80) (by decide) ?_
      refine v_aload_n hC dX11_file_80 rfl rfl ?_
      refine v_iload_n hC dX11_file_81 rfl rfl ?_
      refine v_iconst (v := 0) hC dX11_file_82 (by decide) ?_
      refine v_iadd hC dX11_file_83 ?_
      rw [show nI (18 + 7 * f) + 0 = nI (18 + 7 * f) from nI_add _ 0]
      refine cVi1 hC (c_X11_number hW ht (by omega)) yv_X11_number rfl ht mw_4_165 ⟨Nat.le_of_ble_eq_true rfl, Nat.le_of_ble_eq_true rfl⟩ ⟨Nat.le_of_ble_eq_true rfl, Nat.le_of_ble_eq_true rfl⟩ (Nat.le_of_ble_eq_true rfl) dX11_file_84 (fun r84 M86 hq => ?_)
      obtain ⟨rfl, hm⟩ := hq
      have hm2 := hm.symm
      clear hm
      subst hm2
      refine v_iret hC dX11_file_87 ?_
      exact rfl
    by_cases e2 : y = 2
    · subst e2
      refine v_tsi hC dX11_file_17 (by decide) (by decide) (off := 71) (by rfl) (tgt := 88) (by decide) ?_
      refine v_aload_n hC dX11_file_88 rfl rfl ?_
      refine v_iload_n hC dX11_file_89 rfl rfl ?_
      refine cVi1 hC (c_X11_words hW ht hA hf) yv_X11_words rfl ht mw_5_173 ⟨Nat.le_of_ble_eq_true rfl, Nat.le_of_ble_eq_true rfl⟩ ⟨Nat.le_of_ble_eq_true rfl, Nat.le_of_ble_eq_true rfl⟩ (Nat.le_of_ble_eq_true rfl) dX11_file_90 (fun r90 M92 hq => ?_)
      obtain ⟨rfl, hm⟩ := hq
      have hm2 := hm.symm
      clear hm
      subst hm2
      refine v_iret hC dX11_file_93 ?_
      exact rfl
    by_cases e3 : y = 3
    · subst e3
      refine v_tsi hC dX11_file_17 (by decide) (by decide) (off := 77) (by rfl) (tgt := 94) (by decide) ?_
      refine v_aload_n hC dX11_file_94 rfl rfl ?_
      refine v_iload_n hC dX11_file_95 rfl rfl ?_
      refine cVi1 hC (c_X11_placeOf hW ht hA hO hf) yv_X11_placeOf rfl ht mw_5_47 ⟨Nat.le_of_ble_eq_true rfl, Nat.le_of_ble_eq_true rfl⟩ ⟨Nat.le_of_ble_eq_true rfl, Nat.le_of_ble_eq_true rfl⟩ (Nat.le_of_ble_eq_true rfl) dX11_file_96 (fun r96 M98 hq => ?_)
      obtain ⟨rfl, hm⟩ := hq
      have hm2 := hm.symm
      clear hm
      subst hm2
      refine v_iret hC dX11_file_99 ?_
      exact rfl
    by_cases e4 : y = 4
    · subst e4
      refine v_tsi hC dX11_file_17 (by decide) (by decide) (off := 83) (by rfl) (tgt := 100) (by decide) ?_
      refine v_aload_n hC dX11_file_100 rfl rfl ?_
      refine v_iload_n hC dX11_file_101 rfl rfl ?_
      refine v_iconst (v := 2) hC dX11_file_102 (by decide) ?_
      refine v_iadd hC dX11_file_103 ?_
      rw [show nI (18 + 7 * f) + 2 = nI (18 + 7 * f + 2) from nI_add _ 2]
      refine cVi1 hC (c_X11_number hW ht (by omega)) yv_X11_number rfl ht mw_4_165 ⟨Nat.le_of_ble_eq_true rfl, Nat.le_of_ble_eq_true rfl⟩ ⟨Nat.le_of_ble_eq_true rfl, Nat.le_of_ble_eq_true rfl⟩ (Nat.le_of_ble_eq_true rfl) dX11_file_104 (fun r104 M106 hq => ?_)
      obtain ⟨rfl, hm⟩ := hq
      have hm2 := hm.symm
      clear hm
      subst hm2
      refine v_iret hC dX11_file_107 ?_
      exact rfl
    by_cases e5 : y = 5
    · subst e5
      refine v_tsi hC dX11_file_17 (by decide) (by decide) (off := 91) (by rfl) (tgt := 108) (by decide) ?_
      refine v_aload_n hC dX11_file_108 rfl rfl ?_
      refine v_iload_n hC dX11_file_109 rfl rfl ?_
      refine v_iconst (v := 3) hC dX11_file_110 (by decide) ?_
      refine v_iadd hC dX11_file_111 ?_
      rw [show nI (18 + 7 * f) + 3 = nI (18 + 7 * f + 3) from nI_add _ 3]
      refine cVi1 hC (c_X11_number hW ht (by omega)) yv_X11_number rfl ht mw_4_165 ⟨Nat.le_of_ble_eq_true rfl, Nat.le_of_ble_eq_true rfl⟩ ⟨Nat.le_of_ble_eq_true rfl, Nat.le_of_ble_eq_true rfl⟩ (Nat.le_of_ble_eq_true rfl) dX11_file_112 (fun r112 M114 hq => ?_)
      obtain ⟨rfl, hm⟩ := hq
      have hm2 := hm.symm
      clear hm
      subst hm2
      refine v_iret hC dX11_file_115 ?_
      exact rfl
    by_cases e6 : y = 6
    · subst e6
      refine v_tsi hC dX11_file_17 (by decide) (by decide) (off := 99) (by rfl) (tgt := 116) (by decide) ?_
      refine v_aload_n hC dX11_file_116 rfl rfl ?_
      refine v_iload_n hC dX11_file_117 rfl rfl ?_
      refine v_iconst (v := 4) hC dX11_file_118 (by decide) ?_
      refine v_iadd hC dX11_file_119 ?_
      rw [show nI (18 + 7 * f) + 4 = nI (18 + 7 * f + 4) from nI_add _ 4]
      refine cVi1 hC (c_X11_number hW ht (by omega)) yv_X11_number rfl ht mw_4_165 ⟨Nat.le_of_ble_eq_true rfl, Nat.le_of_ble_eq_true rfl⟩ ⟨Nat.le_of_ble_eq_true rfl, Nat.le_of_ble_eq_true rfl⟩ (Nat.le_of_ble_eq_true rfl) dX11_file_120 (fun r120 M122 hq => ?_)
      obtain ⟨rfl, hm⟩ := hq
      have hm2 := hm.symm
      clear hm
      subst hm2
      refine v_iret hC dX11_file_123 ?_
      exact rfl
    by_cases e7 : y = 7
    · subst e7
      refine v_tsi hC dX11_file_17 (by decide) (by decide) (off := 107) (by rfl) (tgt := 124) (by decide) ?_
      refine v_aload_n hC dX11_file_124 rfl rfl ?_
      refine v_iload_n hC dX11_file_125 rfl rfl ?_
      refine cVi1 hC (c_X11_cost hW ht hA hS hf) yv_X11_cost rfl ht mw_5_177 ⟨Nat.le_of_ble_eq_true rfl, Nat.le_of_ble_eq_true rfl⟩ ⟨Nat.le_of_ble_eq_true rfl, Nat.le_of_ble_eq_true rfl⟩ (Nat.le_of_ble_eq_true rfl) dX11_file_126 (fun r126 M128 hq => ?_)
      obtain ⟨rfl, hm⟩ := hq
      have hm2 := hm.symm
      clear hm
      subst hm2
      refine v_iret hC dX11_file_129 ?_
      exact rfl
    by_cases e8 : y = 8
    · subst e8
      refine v_tsi hC dX11_file_17 (by decide) (by decide) (off := 113) (by rfl) (tgt := 130) (by decide) ?_
      refine v_aload_n hC dX11_file_130 rfl rfl ?_
      refine v_iload_n hC dX11_file_131 rfl rfl ?_
      refine cVi1 hC (c_X11_many hW ht hA hf) yv_X11_many rfl ht mw_5_15 ⟨Nat.le_of_ble_eq_true rfl, Nat.le_of_ble_eq_true rfl⟩ ⟨Nat.le_of_ble_eq_true rfl, Nat.le_of_ble_eq_true rfl⟩ (Nat.le_of_ble_eq_true rfl) dX11_file_132 (fun r132 M134 hq => ?_)
      obtain ⟨rfl, hm⟩ := hq
      have hm2 := hm.symm
      clear hm
      subst hm2
      refine v_aload_n hC dX11_file_135 rfl rfl ?_
      refine v_iload_n hC dX11_file_136 rfl rfl ?_
      refine cVi1 hC (c_X11_withTarget hW ht hA hT hf) yv_X11_withTarget rfl ht mw_5_64 ⟨Nat.le_of_ble_eq_true rfl, Nat.le_of_ble_eq_true rfl⟩ ⟨Nat.le_of_ble_eq_true rfl, Nat.le_of_ble_eq_true rfl⟩ (Nat.le_of_ble_eq_true rfl) dX11_file_137 (fun r137 M139 hq => ?_)
      obtain ⟨rfl, hm⟩ := hq
      have hm2 := hm.symm
      clear hm
      subst hm2
      refine v_isub hC dX11_file_140 ?_
      refine v_iret hC dX11_file_141 ?_
      exact rfl
    by_cases e9 : y = 9
    · subst e9
      refine v_tsi hC dX11_file_17 (by decide) (by decide) (off := 125) (by rfl) (tgt := 142) (by decide) ?_
      refine v_aload_n hC dX11_file_142 rfl rfl ?_
      refine v_iload_n hC dX11_file_143 rfl rfl ?_
      refine v_iconst (v := 5) hC dX11_file_144 (by decide) ?_
      refine v_iadd hC dX11_file_145 ?_
      rw [show nI (18 + 7 * f) + 5 = nI (18 + 7 * f + 5) from nI_add _ 5]
      refine cVi1 hC (c_X11_number hW ht (by omega)) yv_X11_number rfl ht mw_4_165 ⟨Nat.le_of_ble_eq_true rfl, Nat.le_of_ble_eq_true rfl⟩ ⟨Nat.le_of_ble_eq_true rfl, Nat.le_of_ble_eq_true rfl⟩ (Nat.le_of_ble_eq_true rfl) dX11_file_146 (fun r146 M148 hq => ?_)
      obtain ⟨rfl, hm⟩ := hq
      have hm2 := hm.symm
      clear hm
      subst hm2
      refine v_iret hC dX11_file_149 ?_
      exact rfl
    have hout : y.toInt < 0 ∨ 9 < y.toInt := by
      have q0 := lv_neT e0 (a := 0) rfl
      have q1 := lv_neT e1 (a := 1) rfl
      have q2 := lv_neT e2 (a := 2) rfl
      have q3 := lv_neT e3 (a := 3) rfl
      have q4 := lv_neT e4 (a := 4) rfl
      have q5 := lv_neT e5 (a := 5) rfl
      have q6 := lv_neT e6 (a := 6) rfl
      have q7 := lv_neT e7 (a := 7) rfl
      have q8 := lv_neT e8 (a := 8) rfl
      have q9 := lv_neT e9 (a := 9) rfl
      omega
    refine v_tso hC dX11_file_17 hout (tgt := 150) (by decide) ?_
    refine v_bipush (v := (-2)) hC dX11_file_150 (by decide) ?_
    refine v_iret hC dX11_file_152 ?_
    exact rfl
  · refine v_if_eq hC dX11_file_5 (tgt := 10) (by decide) (fun hx => absurd hx (by decide)) (fun _ => ?_)
    refine v_iconst (v := (-1)) hC dX11_file_8 (by decide) ?_
    refine v_iret hC dX11_file_9 ?_
    exact rfl

set_option maxHeartbeats 4000000 in
set_option maxRecDepth 100000 in
theorem c_X11_segment {l : Launch} {G : Gd} {M : Me} {h : Nat} {u : Si} {y z w : Int32} (hW : Wt M) (ht : m_t M h = 12) (hA : LA (rwM M h) u) (hO : WfO u) (hS : WfS u) : CQ (Qi G (fun r M2 => r = e_segment u y z w ∧ Bd M M2)) l G yX11_segment cX11_segment 5 ((some .int)) 5 122 0 0 [.ref h, .int y, .int z, .int w] M := by
  refine c_of ([some (.ref h), some (.int y), some (.int z), some (.int w), none] : Lo) RX11 "segment" (by decide) rfl rfl (Nat.le_of_ble_eq_true rfl) rfl (fun p e s m below meth c hC nw => ?_)
  have u1 := hA.1.1
  have u2 := hA.1.2.1
  have u3 := hA.1.2.2.1
  have u4 := hA.1.2.2.2.1
  have hwz := wz_31 hW (wf_276 hW ht)
  refine v_aload_n hC dX11_segment_0 rfl rfl ?_
  refine v_iload_n hC dX11_segment_1 rfl rfl ?_
  refine v_iload_n hC dX11_segment_2 rfl rfl ?_
  refine cVi2 hC (c_X11_noSegment hW ht hA) yv_X11_noSegment rfl ht mw_5_123 ⟨Nat.le_of_ble_eq_true rfl, Nat.le_of_ble_eq_true rfl⟩ ⟨Nat.le_of_ble_eq_true rfl, Nat.le_of_ble_eq_true rfl⟩ (Nat.le_of_ble_eq_true rfl) dX11_segment_3 (fun r3 M5 hq => ?_)
  obtain ⟨hm, hq2⟩ := hq
  have hm2 := hm.symm
  clear hm
  subst hm2
  obtain ⟨g3, rfl⟩ | ⟨g3, rfl⟩ := hq2
  · refine v_if_eq hC dX11_segment_6 (tgt := 11) (by decide) (fun _ => ?_) (fun hx => absurd hx (by decide))
    obtain ⟨f, t, hf, ht9, rfl, rfl⟩ := g3
    have h12f := hA.1.2.2.2.2 f hf
    have h12 : t < 12 := by omega
    refine v_aload_n hC dX11_segment_11 rfl rfl ?_
    refine v_iload_n hC dX11_segment_12 rfl rfl ?_
    refine v_iload_n hC dX11_segment_13 rfl rfl ?_
    refine cVi2 hC (c_X11_segmentAt ht) yv_X11_segmentAt rfl ht mw_5_19 ⟨Nat.le_of_ble_eq_true rfl, Nat.le_of_ble_eq_true rfl⟩ ⟨Nat.le_of_ble_eq_true rfl, Nat.le_of_ble_eq_true rfl⟩ (Nat.le_of_ble_eq_true rfl) dX11_segment_14 (fun r14 M16 hq => ?_)
    obtain ⟨rfl, hm⟩ := hq
    have hm2 := hm.symm
    clear hm
    subst hm2
    refine v_ist4 hC dX11_segment_17 (by decide) (kk := ?_)
    refine v_iload_n hC dX11_segment_19 rfl rfl ?_
    by_cases e0 : w = 0
    · subst e0
      refine v_tsi hC dX11_segment_20 (by decide) (by decide) (off := 44) (by rfl) (tgt := 64) (by decide) ?_
      refine v_aload_n hC dX11_segment_64 rfl rfl ?_
      refine v_iload hC dX11_segment_65 rfl ?_
      refine v_iconst (v := 0) hC dX11_segment_67 (by decide) ?_
      refine v_iadd hC dX11_segment_68 ?_
      rw [show nI (606 + 11 * (12 * f + t)) + 0 = nI (606 + 11 * (12 * f + t)) from nI_add _ 0]
      refine cVi1 hC (c_X11_number hW ht (by omega)) yv_X11_number rfl ht mw_4_165 ⟨Nat.le_of_ble_eq_true rfl, Nat.le_of_ble_eq_true rfl⟩ ⟨Nat.le_of_ble_eq_true rfl, Nat.le_of_ble_eq_true rfl⟩ (Nat.le_of_ble_eq_true rfl) dX11_segment_69 (fun r69 M71 hq => ?_)
      obtain ⟨rfl, hm⟩ := hq
      have hm2 := hm.symm
      clear hm
      subst hm2
      rw [show rwM M h (606 + 11 * (12 * f + t)) = lN (q_g u 0 f t).length from (hA.sg hf ht9).n0, lN_i]
      refine v_iret hC dX11_segment_72 ?_
      exact ⟨by rw [e_segment, inN_s hf]; show _ = (match inN (nI t) (n_s u f) with | none => _ | some s => _); rw [inN_s ht9 (by omega)]; exact (if_pos rfl).symm, Bd.rf⟩
    by_cases e1 : w = 1
    · subst e1
      refine v_tsi hC dX11_segment_20 (by decide) (by decide) (off := 53) (by rfl) (tgt := 73) (by decide) ?_
      refine v_aload_n hC dX11_segment_73 rfl rfl ?_
      refine v_iload hC dX11_segment_74 rfl ?_
      refine v_bipush (v := 9) hC dX11_segment_76 (by decide) ?_
      refine v_iadd hC dX11_segment_78 ?_
      rw [show nI (606 + 11 * (12 * f + t)) + 9 = nI (606 + 11 * (12 * f + t) + 9) from nI_add _ 9]
      refine cVi1 hC (c_X11_number hW ht (by omega)) yv_X11_number rfl ht mw_4_165 ⟨Nat.le_of_ble_eq_true rfl, Nat.le_of_ble_eq_true rfl⟩ ⟨Nat.le_of_ble_eq_true rfl, Nat.le_of_ble_eq_true rfl⟩ (Nat.le_of_ble_eq_true rfl) dX11_segment_79 (fun r79 M81 hq => ?_)
      obtain ⟨rfl, hm⟩ := hq
      have hm2 := hm.symm
      clear hm
      subst hm2
      rw [show rwM M h (606 + 11 * (12 * f + t) + 9) = _ from (hA.s2 hf ht9).1, eb_t (Or.inl rfl)]
      refine v_iret hC dX11_segment_82 ?_
      exact ⟨by rw [e_segment, inN_s hf]; show _ = (match inN (nI t) (n_s u f) with | none => _ | some s => _); rw [inN_s ht9 (by omega)]; exact ((if_neg (by decide)).trans (if_pos rfl)).symm, Bd.rf⟩
    by_cases e2 : w = 2
    · subst e2
      refine v_tsi hC dX11_segment_20 (by decide) (by decide) (off := 63) (by rfl) (tgt := 83) (by decide) ?_
      refine v_aload_n hC dX11_segment_83 rfl rfl ?_
      refine v_iload hC dX11_segment_84 rfl ?_
      refine v_bipush (v := 10) hC dX11_segment_86 (by decide) ?_
      refine v_iadd hC dX11_segment_88 ?_
      rw [show nI (606 + 11 * (12 * f + t)) + 10 = nI (606 + 11 * (12 * f + t) + 10) from nI_add _ 10]
      refine cVi1 hC (c_X11_number hW ht (by omega)) yv_X11_number rfl ht mw_4_165 ⟨Nat.le_of_ble_eq_true rfl, Nat.le_of_ble_eq_true rfl⟩ ⟨Nat.le_of_ble_eq_true rfl, Nat.le_of_ble_eq_true rfl⟩ (Nat.le_of_ble_eq_true rfl) dX11_segment_89 (fun r89 M91 hq => ?_)
      obtain ⟨rfl, hm⟩ := hq
      have hm2 := hm.symm
      clear hm
      subst hm2
      rw [show rwM M h (606 + 11 * (12 * f + t) + 10) = _ from (hA.s2 hf ht9).2, Int32.toInt32_toInt64]
      refine v_iret hC dX11_segment_92 ?_
      exact ⟨by rw [e_segment, inN_s hf]; show _ = (match inN (nI t) (n_s u f) with | none => _ | some s => _); rw [inN_s ht9 (by omega)]; exact ((if_neg (by decide)).trans ((if_neg (by decide)).trans (if_pos rfl))).symm, Bd.rf⟩
    by_cases e3 : w = 3
    · subst e3
      refine v_tsi hC dX11_segment_20 (by decide) (by decide) (off := 73) (by rfl) (tgt := 93) (by decide) ?_
      refine v_aload_n hC dX11_segment_93 rfl rfl ?_
      refine v_iload hC dX11_segment_94 rfl ?_
      refine cVi1 hC (c_X11_match hW ht hA (hA.sg hf ht9) (by omega)) yv_X11_match rfl ht mw_5_96 ⟨Nat.le_of_ble_eq_true rfl, Nat.le_of_ble_eq_true rfl⟩ ⟨Nat.le_of_ble_eq_true rfl, Nat.le_of_ble_eq_true rfl⟩ (Nat.le_of_ble_eq_true rfl) dX11_segment_96 (fun r96 M98 hq => ?_)
      obtain ⟨rfl, hB9⟩ := hq
      refine v_iret hC dX11_segment_99 ?_
      exact ⟨by rw [e_segment, inN_s hf]; show _ = (match inN (nI t) (n_s u f) with | none => _ | some s => _); rw [inN_s ht9 (by omega)]; exact ((if_neg (by decide)).trans ((if_neg (by decide)).trans ((if_neg (by decide)).trans (if_pos rfl)))).symm, hB9⟩
    by_cases e4 : w = 4
    · subst e4
      refine v_tsi hC dX11_segment_20 (by decide) (by decide) (off := 80) (by rfl) (tgt := 100) (by decide) ?_
      refine v_aload_n hC dX11_segment_100 rfl rfl ?_
      refine v_iload hC dX11_segment_101 rfl ?_
      refine cVi1 hC (c_X11_bestEntry hW ht hA (hA.sg hf ht9) (by omega)) yv_X11_bestEntry rfl ht mw_5_209 ⟨Nat.le_of_ble_eq_true rfl, Nat.le_of_ble_eq_true rfl⟩ ⟨Nat.le_of_ble_eq_true rfl, Nat.le_of_ble_eq_true rfl⟩ (Nat.le_of_ble_eq_true rfl) dX11_segment_103 (fun r103 M105 hq => ?_)
      obtain ⟨rfl, hB9⟩ := hq
      refine v_iret hC dX11_segment_106 ?_
      exact ⟨by rw [e_segment, inN_s hf]; show _ = (match inN (nI t) (n_s u f) with | none => _ | some s => _); rw [inN_s ht9 (by omega)]; exact ((if_neg (by decide)).trans ((if_neg (by decide)).trans ((if_neg (by decide)).trans ((if_neg (by decide)).trans (if_pos rfl))))).symm, hB9⟩
    by_cases e5 : w = 5
    · subst e5
      refine v_tsi hC dX11_segment_20 (by decide) (by decide) (off := 87) (by rfl) (tgt := 107) (by decide) ?_
      refine v_aload_n hC dX11_segment_107 rfl rfl ?_
      refine v_iload_n hC dX11_segment_108 rfl rfl ?_
      refine cVi1 hC (c_X11_isInHand hW ht hA hS hf) yv_X11_isInHand rfl ht mw_5_59 ⟨Nat.le_of_ble_eq_true rfl, Nat.le_of_ble_eq_true rfl⟩ ⟨Nat.le_of_ble_eq_true rfl, Nat.le_of_ble_eq_true rfl⟩ (Nat.le_of_ble_eq_true rfl) dX11_segment_109 (fun r109 M111 hq => ?_)
      obtain ⟨hm, hq2⟩ := hq
      have hm2 := hm.symm
      clear hm
      subst hm2
      obtain ⟨g109, rfl⟩ | ⟨g109, rfl⟩ := hq2
      · refine v_if_eq hC dX11_segment_112 (tgt := 124) (by decide) (fun hx => absurd hx (by decide)) (fun _ => ?_)
        refine v_aload_n hC dX11_segment_115 rfl rfl ?_
        refine v_iload_n hC dX11_segment_116 rfl rfl ?_
        refine v_iload_n hC dX11_segment_117 rfl rfl ?_
        refine cVi2 hC (c_X11_bandOf hW ht hA hO hS hf ht9 g109) yv_X11_bandOf rfl ht mw_5_84 ⟨Nat.le_of_ble_eq_true rfl, Nat.le_of_ble_eq_true rfl⟩ ⟨Nat.le_of_ble_eq_true rfl, Nat.le_of_ble_eq_true rfl⟩ (Nat.le_of_ble_eq_true rfl) dX11_segment_118 (fun r118 M120 hq => ?_)
        obtain ⟨rfl, hB9⟩ := hq
        refine v_goto hC dX11_segment_121 (tgt := 126) (by decide) ?_
        refine v_iret hC dX11_segment_126 ?_
        exact ⟨by rw [e_segment, inN_s hf]; show _ = (match inN (nI t) (n_s u f) with | none => _ | some s => _); rw [inN_s ht9 (by omega)]; exact (((if_neg (by decide)).trans ((if_neg (by decide)).trans ((if_neg (by decide)).trans ((if_neg (by decide)).trans ((if_neg (by decide)).trans (if_pos rfl)))))).trans (if_pos g109)).symm, hB9⟩
      · refine v_if_eq hC dX11_segment_112 (tgt := 124) (by decide) (fun _ => ?_) (fun hx => absurd hx (by decide))
        refine v_bipush (v := (-5)) hC dX11_segment_124 (by decide) ?_
        refine v_iret hC dX11_segment_126 ?_
        exact ⟨by rw [e_segment, inN_s hf]; show _ = (match inN (nI t) (n_s u f) with | none => _ | some s => _); rw [inN_s ht9 (by omega)]; exact (((if_neg (by decide)).trans ((if_neg (by decide)).trans ((if_neg (by decide)).trans ((if_neg (by decide)).trans ((if_neg (by decide)).trans (if_pos rfl)))))).trans (if_neg g109)).symm, Bd.rf⟩
    by_cases e6 : w = 6
    · subst e6
      refine v_tsi hC dX11_segment_20 (by decide) (by decide) (off := 107) (by rfl) (tgt := 127) (by decide) ?_
      refine v_aload_n hC dX11_segment_127 rfl rfl ?_
      refine v_iload_n hC dX11_segment_128 rfl rfl ?_
      refine cVi1 hC (c_X11_isInHand hW ht hA hS hf) yv_X11_isInHand rfl ht mw_5_59 ⟨Nat.le_of_ble_eq_true rfl, Nat.le_of_ble_eq_true rfl⟩ ⟨Nat.le_of_ble_eq_true rfl, Nat.le_of_ble_eq_true rfl⟩ (Nat.le_of_ble_eq_true rfl) dX11_segment_129 (fun r129 M131 hq => ?_)
      obtain ⟨hm, hq2⟩ := hq
      have hm2 := hm.symm
      clear hm
      subst hm2
      obtain ⟨g129, rfl⟩ | ⟨g129, rfl⟩ := hq2
      · refine v_if_eq hC dX11_segment_132 (tgt := 144) (by decide) (fun hx => absurd hx (by decide)) (fun _ => ?_)
        refine v_aload_n hC dX11_segment_135 rfl rfl ?_
        refine v_iload_n hC dX11_segment_136 rfl rfl ?_
        refine v_iload_n hC dX11_segment_137 rfl rfl ?_
        refine cVi2 hC (c_X11_nearest hW ht hA hO hS hf ht9) yv_X11_nearest rfl ht mw_5_88 ⟨Nat.le_of_ble_eq_true rfl, Nat.le_of_ble_eq_true rfl⟩ ⟨Nat.le_of_ble_eq_true rfl, Nat.le_of_ble_eq_true rfl⟩ (Nat.le_of_ble_eq_true rfl) dX11_segment_138 (fun r138 M140 hq => ?_)
        obtain ⟨rfl, hm⟩ := hq
        have hm2 := hm.symm
        clear hm
        subst hm2
        refine v_goto hC dX11_segment_141 (tgt := 146) (by decide) ?_
        refine v_iret hC dX11_segment_146 ?_
        exact ⟨by rw [e_segment, inN_s hf]; show _ = (match inN (nI t) (n_s u f) with | none => _ | some s => _); rw [inN_s ht9 (by omega)]; exact (((if_neg (by decide)).trans ((if_neg (by decide)).trans ((if_neg (by decide)).trans ((if_neg (by decide)).trans ((if_neg (by decide)).trans ((if_neg (by decide)).trans (if_pos rfl))))))).trans (if_pos g129)).symm, Bd.rf⟩
      · refine v_if_eq hC dX11_segment_132 (tgt := 144) (by decide) (fun _ => ?_) (fun hx => absurd hx (by decide))
        refine v_bipush (v := (-5)) hC dX11_segment_144 (by decide) ?_
        refine v_iret hC dX11_segment_146 ?_
        exact ⟨by rw [e_segment, inN_s hf]; show _ = (match inN (nI t) (n_s u f) with | none => _ | some s => _); rw [inN_s ht9 (by omega)]; exact (((if_neg (by decide)).trans ((if_neg (by decide)).trans ((if_neg (by decide)).trans ((if_neg (by decide)).trans ((if_neg (by decide)).trans ((if_neg (by decide)).trans (if_pos rfl))))))).trans (if_neg g129)).symm, Bd.rf⟩
    have hout : w.toInt < 0 ∨ 6 < w.toInt := by
      have q0 := lv_neT e0 (a := 0) rfl
      have q1 := lv_neT e1 (a := 1) rfl
      have q2 := lv_neT e2 (a := 2) rfl
      have q3 := lv_neT e3 (a := 3) rfl
      have q4 := lv_neT e4 (a := 4) rfl
      have q5 := lv_neT e5 (a := 5) rfl
      have q6 := lv_neT e6 (a := 6) rfl
      omega
    refine v_tso hC dX11_segment_20 hout (tgt := 147) (by decide) ?_
    refine v_bipush (v := (-2)) hC dX11_segment_147 (by decide) ?_
    refine v_iret hC dX11_segment_149 ?_
    exact ⟨by rw [e_segment, inN_s hf]; show _ = (match inN (nI t) (n_s u f) with | none => _ | some s => _); rw [inN_s ht9 (by omega)]; exact ((if_neg e0).trans ((if_neg e1).trans ((if_neg e2).trans ((if_neg e3).trans ((if_neg e4).trans ((if_neg e5).trans (if_neg e6))))))).symm, Bd.rf⟩
  · refine v_if_eq hC dX11_segment_6 (tgt := 11) (by decide) (fun hx => absurd hx (by decide)) (fun _ => ?_)
    refine v_iconst (v := (-1)) hC dX11_segment_9 (by decide) ?_
    refine v_iret hC dX11_segment_10 ?_
    exact ⟨by
      rw [e_segment]
      by_cases w1 : rgI y (n_f u)
      · obtain ⟨f, hf, rfl⟩ := w1
        rw [inN_s hf]
        by_cases w2 : rgI z (n_s u f)
        · obtain ⟨t, ht9, rfl⟩ := w2
          exact absurd ⟨f, t, hf, ht9, rfl, rfl⟩ g3
        · show _ = (match inN z (n_s u f) with | none => _ | some s => _)
          rw [inN_o w2 (by have := hA.1.2.2.2.2 f hf; omega)]
      · rw [inN_o w1], Bd.rf⟩

set_option maxHeartbeats 4000000 in
set_option maxRecDepth 100000 in
theorem c_X11_distance {l : Launch} {G : Gd} {M : Me} {h : Nat} {u : Si} {y z w : Int32} (hW : Wt M) (ht : m_t M h = 12) (hA : LA (rwM M h) u) : CQ (Qi G (fun r M2 => r = e_distance u y z w ∧ Bd M M2)) l G yX11_distance cX11_distance 4 ((some .int)) 3 65 0 0 [.ref h, .int y, .int z, .int w] M := by
  refine c_of ([some (.ref h), some (.int y), some (.int z), some (.int w)] : Lo) RX11 "distance" (by decide) rfl rfl (Nat.le_of_ble_eq_true rfl) rfl (fun p e s m below meth c hC nw => ?_)
  have u1 := hA.1.1
  have u2 := hA.1.2.1
  have u3 := hA.1.2.2.1
  have u4 := hA.1.2.2.2.1
  have hwz := wz_31 hW (wf_276 hW ht)
  refine v_aload_n hC dX11_distance_0 rfl rfl ?_
  refine v_iload_n hC dX11_distance_1 rfl rfl ?_
  refine v_iload_n hC dX11_distance_2 rfl rfl ?_
  refine cVi2 hC (c_X11_noSegment hW ht hA) yv_X11_noSegment rfl ht mw_5_123 ⟨Nat.le_of_ble_eq_true rfl, Nat.le_of_ble_eq_true rfl⟩ ⟨Nat.le_of_ble_eq_true rfl, Nat.le_of_ble_eq_true rfl⟩ (Nat.le_of_ble_eq_true rfl) dX11_distance_3 (fun r3 M5 hq => ?_)
  obtain ⟨hm, hq2⟩ := hq
  have hm2 := hm.symm
  clear hm
  subst hm2
  obtain ⟨g3, rfl⟩ | ⟨g3, rfl⟩ := hq2
  · refine v_if_ne hC dX11_distance_6 (tgt := 17) (by decide) (fun hx => absurd hx (by decide)) (fun _ => ?_)
    obtain ⟨f, t, hf, ht9, rfl, rfl⟩ := g3
    have h12f := hA.1.2.2.2.2 f hf
    have h12 : t < 12 := by omega
    refine v_aload_n hC dX11_distance_9 rfl rfl ?_
    refine v_iload_n hC dX11_distance_10 rfl rfl ?_
    refine cVi1 hC (c_X11_noEntry hW ht hA) yv_X11_noEntry rfl ht mw_5_227 ⟨Nat.le_of_ble_eq_true rfl, Nat.le_of_ble_eq_true rfl⟩ ⟨Nat.le_of_ble_eq_true rfl, Nat.le_of_ble_eq_true rfl⟩ (Nat.le_of_ble_eq_true rfl) dX11_distance_11 (fun r11 M13 hq => ?_)
    obtain ⟨hm, hq2⟩ := hq
    have hm2 := hm.symm
    clear hm
    subst hm2
    obtain ⟨g11, rfl⟩ | ⟨g11, rfl⟩ := hq2
    · refine v_if_eq hC dX11_distance_14 (tgt := 21) (by decide) (fun _ => ?_) (fun hx => absurd hx (by decide))
      obtain ⟨x1, he1, rfl⟩ := g11
      refine v_aload_n hC dX11_distance_21 rfl rfl ?_
      refine v_aload_n hC dX11_distance_22 rfl rfl ?_
      refine v_iload_n hC dX11_distance_23 rfl rfl ?_
      refine v_iload_n hC dX11_distance_24 rfl rfl ?_
      refine cVi2 hC (c_X11_segmentAt ht) yv_X11_segmentAt rfl ht mw_5_19 ⟨Nat.le_of_ble_eq_true rfl, Nat.le_of_ble_eq_true rfl⟩ ⟨Nat.le_of_ble_eq_true rfl, Nat.le_of_ble_eq_true rfl⟩ (Nat.le_of_ble_eq_true rfl) dX11_distance_25 (fun r25 M27 hq => ?_)
      obtain ⟨rfl, hm⟩ := hq
      have hm2 := hm.symm
      clear hm
      subst hm2
      refine v_aload_n hC dX11_distance_28 rfl rfl ?_
      refine v_iload_n hC dX11_distance_29 rfl rfl ?_
      refine cVi1 hC (c_X11_entryAt ht) yv_X11_entryAt rfl ht mw_5_35 ⟨Nat.le_of_ble_eq_true rfl, Nat.le_of_ble_eq_true rfl⟩ ⟨Nat.le_of_ble_eq_true rfl, Nat.le_of_ble_eq_true rfl⟩ (Nat.le_of_ble_eq_true rfl) dX11_distance_30 (fun r30 M32 hq => ?_)
      obtain ⟨rfl, hm⟩ := hq
      have hm2 := hm.symm
      clear hm
      subst hm2
      refine cVi2 hC (c_X11_apart hW ht (hA.sg hf ht9) (hA.eg he1) (by omega) (by omega)) yv_X11_apart rfl ht mw_5_104 ⟨Nat.le_of_ble_eq_true rfl, Nat.le_of_ble_eq_true rfl⟩ ⟨Nat.le_of_ble_eq_true rfl, Nat.le_of_ble_eq_true rfl⟩ (Nat.le_of_ble_eq_true rfl) dX11_distance_33 (fun r33 M35 hq => ?_)
      obtain ⟨rfl, hB9⟩ := hq
      refine v_iret hC dX11_distance_36 ?_
      exact ⟨by rw [e_distance, inN_s hf]; show _ = (match inN (nI t) (n_s u f) with | none => _ | some s => _); rw [inN_s ht9 (by omega)]; show _ = (match inN (nI x1) (n_e u) with | none => _ | some e => _); rw [inN_s he1], hB9⟩
    · refine v_if_eq hC dX11_distance_14 (tgt := 21) (by decide) (fun hx => absurd hx (by decide)) (fun _ => ?_)
      refine v_iconst (v := (-1)) hC dX11_distance_17 (by decide) ?_
      refine v_goto hC dX11_distance_18 (tgt := 36) (by decide) ?_
      refine v_iret hC dX11_distance_36 ?_
      first
        | exact ⟨by rw [e_distance, inN_s hf]; show _ = (match inN (nI t) (n_s u f) with | none => _ | some s => _); rw [inN_s ht9 (by omega)]; show _ = (match inN w (n_e u) with | none => _ | some e => _); rw [inN_o g11], Bd.rf⟩
        | (exact ⟨by
             rw [e_distance]
             by_cases w1 : rgI y (n_f u)
             · obtain ⟨f, hf, rfl⟩ := w1
               rw [inN_s hf]
               by_cases w2 : rgI z (n_s u f)
               · obtain ⟨t, ht9, rfl⟩ := w2
                 exact absurd ⟨f, t, hf, ht9, rfl, rfl⟩ g3
               · show _ = (match inN z (n_s u f) with | none => _ | some s => _)
                 rw [inN_o w2 (by have := hA.1.2.2.2.2 f hf; omega)]
             · rw [inN_o w1], Bd.rf⟩)
  · refine v_if_ne hC dX11_distance_6 (tgt := 17) (by decide) (fun _ => ?_) (fun hx => absurd hx (by decide))
    refine v_iconst (v := (-1)) hC dX11_distance_17 (by decide) ?_
    refine v_goto hC dX11_distance_18 (tgt := 36) (by decide) ?_
    refine v_iret hC dX11_distance_36 ?_
    first
      | exact ⟨by rw [e_distance, inN_s hf]; show _ = (match inN (nI t) (n_s u f) with | none => _ | some s => _); rw [inN_s ht9 (by omega)]; show _ = (match inN w (n_e u) with | none => _ | some e => _); rw [inN_o g11], Bd.rf⟩
      | (exact ⟨by
           rw [e_distance]
           by_cases w1 : rgI y (n_f u)
           · obtain ⟨f, hf, rfl⟩ := w1
             rw [inN_s hf]
             by_cases w2 : rgI z (n_s u f)
             · obtain ⟨t, ht9, rfl⟩ := w2
               exact absurd ⟨f, t, hf, ht9, rfl, rfl⟩ g3
             · show _ = (match inN z (n_s u f) with | none => _ | some s => _)
               rw [inN_o w2 (by have := hA.1.2.2.2.2 f hf; omega)]
           · rw [inN_o w1], Bd.rf⟩)

set_option maxHeartbeats 4000000 in
set_option maxRecDepth 100000 in
theorem c_X11_entry {l : Launch} {G : Gd} {M : Me} {h : Nat} {u : Si} {y z : Int32} (hW : Wt M) (ht : m_t M h = 12) (hA : LA (rwM M h) u) (hS : WfS u) (hz : hzU u) : CQ (Qi G (fun r M2 => r = e_entry u y z ∧ Bd M M2)) l G yX11_entry cX11_entry 4 ((some .int)) 4 87 0 0 [.ref h, .int y, .int z] M := by
  refine c_of ([some (.ref h), some (.int y), some (.int z), none] : Lo) RX11 "entry" (by decide) rfl rfl (Nat.le_of_ble_eq_true rfl) rfl (fun p e s m below meth c hC nw => ?_)
  have u1 := hA.1.1
  have u2 := hA.1.2.1
  have u3 := hA.1.2.2.1
  have u4 := hA.1.2.2.2.1
  have hwz := wz_31 hW (wf_276 hW ht)
  refine v_aload_n hC dX11_entry_0 rfl rfl ?_
  refine v_iload_n hC dX11_entry_1 rfl rfl ?_
  refine cVi1 hC (c_X11_noEntry hW ht hA) yv_X11_noEntry rfl ht mw_5_227 ⟨Nat.le_of_ble_eq_true rfl, Nat.le_of_ble_eq_true rfl⟩ ⟨Nat.le_of_ble_eq_true rfl, Nat.le_of_ble_eq_true rfl⟩ (Nat.le_of_ble_eq_true rfl) dX11_entry_2 (fun r2 M4 hq => ?_)
  obtain ⟨hm, hq2⟩ := hq
  have hm2 := hm.symm
  clear hm
  subst hm2
  obtain ⟨g2, rfl⟩ | ⟨g2, rfl⟩ := hq2
  · refine v_if_eq hC dX11_entry_5 (tgt := 10) (by decide) (fun _ => ?_) (fun hx => absurd hx (by decide))
    obtain ⟨x1, he1, rfl⟩ := g2
    refine v_aload_n hC dX11_entry_10 rfl rfl ?_
    refine v_iload_n hC dX11_entry_11 rfl rfl ?_
    refine cVi1 hC (c_X11_entryAt ht) yv_X11_entryAt rfl ht mw_5_35 ⟨Nat.le_of_ble_eq_true rfl, Nat.le_of_ble_eq_true rfl⟩ ⟨Nat.le_of_ble_eq_true rfl, Nat.le_of_ble_eq_true rfl⟩ (Nat.le_of_ble_eq_true rfl) dX11_entry_12 (fun r12 M14 hq => ?_)
    obtain ⟨rfl, hm⟩ := hq
    have hm2 := hm.symm
    clear hm
    subst hm2
    refine v_ist3 hC dX11_entry_15 (by decide) (kk := ?_)
    refine v_iload_n hC dX11_entry_16 rfl rfl ?_
    by_cases e0 : z = 0
    · subst e0
      refine v_tsi hC dX11_entry_17 (by decide) (by decide) (off := 35) (by rfl) (tgt := 52) (by decide) ?_
      refine v_aload_n hC dX11_entry_52 rfl rfl ?_
      refine v_iload_n hC dX11_entry_53 rfl rfl ?_
      refine v_iconst (v := 0) hC dX11_entry_54 (by decide) ?_
      refine v_iadd hC dX11_entry_55 ?_
      rw [show nI (166 + 11 * x1) + 0 = nI (166 + 11 * x1) from nI_add _ 0]
      refine cVi1 hC (c_X11_number hW ht (by omega)) yv_X11_number rfl ht mw_4_165 ⟨Nat.le_of_ble_eq_true rfl, Nat.le_of_ble_eq_true rfl⟩ ⟨Nat.le_of_ble_eq_true rfl, Nat.le_of_ble_eq_true rfl⟩ (Nat.le_of_ble_eq_true rfl) dX11_entry_56 (fun r56 M58 hq => ?_)
      obtain ⟨rfl, hm⟩ := hq
      have hm2 := hm.symm
      clear hm
      subst hm2
      rw [show rwM M h (166 + 11 * x1) = lN (q_g u 1 x1 0).length from (hA.eg he1).n0, lN_i]
      refine v_iret hC dX11_entry_59 ?_
      exact ⟨by rw [e_entry, inN_s he1]; exact (if_pos rfl).symm, Bd.rf⟩
    by_cases e1 : z = 1
    · subst e1
      refine v_tsi hC dX11_entry_17 (by decide) (by decide) (off := 43) (by rfl) (tgt := 60) (by decide) ?_
      refine v_aload_n hC dX11_entry_60 rfl rfl ?_
      refine v_iload_n hC dX11_entry_61 rfl rfl ?_
      refine v_bipush (v := 9) hC dX11_entry_62 (by decide) ?_
      refine v_iadd hC dX11_entry_64 ?_
      rw [show nI (166 + 11 * x1) + 9 = nI (166 + 11 * x1 + 9) from nI_add _ 9]
      refine cVi1 hC (c_X11_number hW ht (by omega)) yv_X11_number rfl ht mw_4_165 ⟨Nat.le_of_ble_eq_true rfl, Nat.le_of_ble_eq_true rfl⟩ ⟨Nat.le_of_ble_eq_true rfl, Nat.le_of_ble_eq_true rfl⟩ (Nat.le_of_ble_eq_true rfl) dX11_entry_65 (fun r65 M67 hq => ?_)
      obtain ⟨rfl, hm⟩ := hq
      have hm2 := hm.symm
      clear hm
      subst hm2
      rw [show rwM M h (166 + 11 * x1 + 9) = _ from (hA.e2 he1).1, Int32.toInt32_toInt64]
      refine v_iret hC dX11_entry_68 ?_
      exact ⟨by rw [e_entry, inN_s he1]; exact ((if_neg (by decide)).trans (if_pos rfl)).symm, Bd.rf⟩
    by_cases e2 : z = 2
    · subst e2
      refine v_tsi hC dX11_entry_17 (by decide) (by decide) (off := 52) (by rfl) (tgt := 69) (by decide) ?_
      refine v_aload_n hC dX11_entry_69 rfl rfl ?_
      refine v_iload_n hC dX11_entry_70 rfl rfl ?_
      refine v_bipush (v := 10) hC dX11_entry_71 (by decide) ?_
      refine v_iadd hC dX11_entry_73 ?_
      rw [show nI (166 + 11 * x1) + 10 = nI (166 + 11 * x1 + 10) from nI_add _ 10]
      refine cVi1 hC (c_X11_number hW ht (by omega)) yv_X11_number rfl ht mw_4_165 ⟨Nat.le_of_ble_eq_true rfl, Nat.le_of_ble_eq_true rfl⟩ ⟨Nat.le_of_ble_eq_true rfl, Nat.le_of_ble_eq_true rfl⟩ (Nat.le_of_ble_eq_true rfl) dX11_entry_74 (fun r74 M76 hq => ?_)
      obtain ⟨rfl, hm⟩ := hq
      have hm2 := hm.symm
      clear hm
      subst hm2
      rw [show rwM M h (166 + 11 * x1 + 10) = _ from (hA.e2 he1).2, Int32.toInt32_toInt64, show q_i u 12 x1 0 = (if q_i u 12 x1 0 = 0 then 0 else 1) from by rcases hz x1 he1 with q | q <;> rw [q] <;> rfl]
      refine v_iret hC dX11_entry_77 ?_
      exact ⟨by rw [e_entry, inN_s he1]; exact ((if_neg (by decide)).trans ((if_neg (by decide)).trans (if_pos rfl))).symm, Bd.rf⟩
    by_cases e3 : z = 3
    · subst e3
      refine v_tsi hC dX11_entry_17 (by decide) (by decide) (off := 61) (by rfl) (tgt := 78) (by decide) ?_
      refine v_aload_n hC dX11_entry_78 rfl rfl ?_
      refine v_iload_n hC dX11_entry_79 rfl rfl ?_
      refine cVi1 hC (c_X11_openDispute hW ht hA) yv_X11_openDispute rfl ht mw_5_131 ⟨Nat.le_of_ble_eq_true rfl, Nat.le_of_ble_eq_true rfl⟩ ⟨Nat.le_of_ble_eq_true rfl, Nat.le_of_ble_eq_true rfl⟩ (Nat.le_of_ble_eq_true rfl) dX11_entry_80 (fun r80 M82 hq => ?_)
      obtain ⟨rfl, hm⟩ := hq
      have hm2 := hm.symm
      clear hm
      subst hm2
      refine v_iret hC dX11_entry_83 ?_
      exact ⟨by rw [e_entry, inN_s he1]; exact ((if_neg (by decide)).trans ((if_neg (by decide)).trans ((if_neg (by decide)).trans (if_pos rfl)))).symm, Bd.rf⟩
    by_cases e4 : z = 4
    · subst e4
      refine v_tsi hC dX11_entry_17 (by decide) (by decide) (off := 67) (by rfl) (tgt := 84) (by decide) ?_
      refine v_aload_n hC dX11_entry_84 rfl rfl ?_
      refine v_iload_n hC dX11_entry_85 rfl rfl ?_
      refine cVi1 hC (c_X11_likeEntry hW ht hA hS he1) yv_X11_likeEntry rfl ht mw_6_11 ⟨Nat.le_of_ble_eq_true rfl, Nat.le_of_ble_eq_true rfl⟩ ⟨Nat.le_of_ble_eq_true rfl, Nat.le_of_ble_eq_true rfl⟩ (Nat.le_of_ble_eq_true rfl) dX11_entry_86 (fun r86 M88 hq => ?_)
      obtain ⟨rfl, hm⟩ := hq
      have hm2 := hm.symm
      clear hm
      subst hm2
      refine v_iret hC dX11_entry_89 ?_
      exact ⟨by rw [e_entry, inN_s he1]; exact ((if_neg (by decide)).trans ((if_neg (by decide)).trans ((if_neg (by decide)).trans ((if_neg (by decide)).trans (if_pos rfl))))).symm, Bd.rf⟩
    have hout : z.toInt < 0 ∨ 4 < z.toInt := by
      have q0 := lv_neT e0 (a := 0) rfl
      have q1 := lv_neT e1 (a := 1) rfl
      have q2 := lv_neT e2 (a := 2) rfl
      have q3 := lv_neT e3 (a := 3) rfl
      have q4 := lv_neT e4 (a := 4) rfl
      omega
    refine v_tso hC dX11_entry_17 hout (tgt := 90) (by decide) ?_
    refine v_bipush (v := (-2)) hC dX11_entry_90 (by decide) ?_
    refine v_iret hC dX11_entry_92 ?_
    exact ⟨by rw [e_entry, inN_s he1]; exact ((if_neg e0).trans ((if_neg e1).trans ((if_neg e2).trans ((if_neg e3).trans (if_neg e4))))).symm, Bd.rf⟩
  · refine v_if_eq hC dX11_entry_5 (tgt := 10) (by decide) (fun hx => absurd hx (by decide)) (fun _ => ?_)
    refine v_iconst (v := (-1)) hC dX11_entry_8 (by decide) ?_
    refine v_iret hC dX11_entry_9 ?_
    exact ⟨((by rw [e_entry, inN_o g2] : e_entry u y z = -1)).symm, Bd.rf⟩

set_option maxHeartbeats 4000000 in
set_option maxRecDepth 100000 in
theorem c_X11_dispute {l : Launch} {G : Gd} {M : Me} {h : Nat} {u : Si} {y z : Int32} (hW : Wt M) (ht : m_t M h = 12) (hA : LA (rwM M h) u) : CQ (Qi G (fun r M2 => r = e_dispute u y z ∧ Bd M M2)) l G yX11_dispute cX11_dispute 3 ((some .int)) 2 43 0 0 [.ref h, .int y, .int z] M := by
  refine c_of ([some (.ref h), some (.int y), some (.int z)] : Lo) RX11 "dispute" (by decide) rfl rfl (Nat.le_of_ble_eq_true rfl) rfl (fun p e s m below meth c hC nw => ?_)
  have u1 := hA.1.1
  have u2 := hA.1.2.1
  have u3 := hA.1.2.2.1
  have u4 := hA.1.2.2.2.1
  have hwz := wz_31 hW (wf_276 hW ht)
  refine v_aload_n hC dX11_dispute_0 rfl rfl ?_
  refine v_iload_n hC dX11_dispute_1 rfl rfl ?_
  refine cVi1 hC (c_X11_noDispute hW ht hA) yv_X11_noDispute rfl ht mw_5_185 ⟨Nat.le_of_ble_eq_true rfl, Nat.le_of_ble_eq_true rfl⟩ ⟨Nat.le_of_ble_eq_true rfl, Nat.le_of_ble_eq_true rfl⟩ (Nat.le_of_ble_eq_true rfl) dX11_dispute_2 (fun r2 M4 hq => ?_)
  obtain ⟨hm, hq2⟩ := hq
  have hm2 := hm.symm
  clear hm
  subst hm2
  obtain ⟨g2, rfl⟩ | ⟨g2, rfl⟩ := hq2
  · refine v_if_eq hC dX11_dispute_5 (tgt := 10) (by decide) (fun _ => ?_) (fun hx => absurd hx (by decide))
    obtain ⟨d1, hd1, rfl⟩ := g2
    refine v_iload_n hC dX11_dispute_10 rfl rfl ?_
    refine v_iconst (v := 0) hC dX11_dispute_11 (by decide) ?_
    refine v_iconst (v := 4) hC dX11_dispute_12 (by decide) ?_
    refine cSi3 hC (c_X11_in ) ys_X11_in mw_4_181 ⟨Nat.le_of_ble_eq_true rfl, Nat.le_of_ble_eq_true rfl⟩ ⟨Nat.le_of_ble_eq_true rfl, Nat.le_of_ble_eq_true rfl⟩ (Nat.le_of_ble_eq_true rfl) dX11_dispute_13 (fun r13 M15 hq => ?_)
    obtain ⟨hm, hq2⟩ := hq
    have hm2 := hm.symm
    clear hm
    subst hm2
    obtain ⟨g13, rfl⟩ | ⟨g13, rfl⟩ := hq2
    · refine v_if_eq hC dX11_dispute_16 (tgt := 33) (by decide) (fun hx => absurd hx (by decide)) (fun _ => ?_)
      obtain ⟨k9, hk9, rfl⟩ : rgI z 5 := rg_in g13.1 (fun q => g13.2 (by have := g13.1; exact Int32.lt_of_lt_of_le (by decide) q)) (by omega)
      refine v_aload_n hC dX11_dispute_19 rfl rfl ?_
      refine v_aload_n hC dX11_dispute_20 rfl rfl ?_
      refine v_iload_n hC dX11_dispute_21 rfl rfl ?_
      refine cVi1 hC (c_X11_disputeAt ht) yv_X11_disputeAt rfl ht mw_5_135 ⟨Nat.le_of_ble_eq_true rfl, Nat.le_of_ble_eq_true rfl⟩ ⟨Nat.le_of_ble_eq_true rfl, Nat.le_of_ble_eq_true rfl⟩ (Nat.le_of_ble_eq_true rfl) dX11_dispute_22 (fun r22 M24 hq => ?_)
      obtain ⟨rfl, hm⟩ := hq
      have hm2 := hm.symm
      clear hm
      subst hm2
      refine v_iload_n hC dX11_dispute_25 rfl rfl ?_
      refine v_iadd hC dX11_dispute_26 ?_
      rw [show nI (116 + 5 * d1) + nI k9 = nI (116 + 5 * d1 + k9) from nI_add _ k9]
      refine cVi1 hC (c_X11_number hW ht (by omega)) yv_X11_number rfl ht mw_4_165 ⟨Nat.le_of_ble_eq_true rfl, Nat.le_of_ble_eq_true rfl⟩ ⟨Nat.le_of_ble_eq_true rfl, Nat.le_of_ble_eq_true rfl⟩ (Nat.le_of_ble_eq_true rfl) dX11_dispute_27 (fun r27 M29 hq => ?_)
      obtain ⟨rfl, hm⟩ := hq
      have hm2 := hm.symm
      clear hm
      subst hm2
      refine v_goto hC dX11_dispute_30 (tgt := 35) (by decide) ?_
      refine v_iret hC dX11_dispute_35 ?_
      refine ⟨?_, Bd.rf⟩
      have hd5 := hA.d5 hd1
      rw [e_dispute, inN_s hd1]
      rcases (show k9 = 0 ∨ k9 = 1 ∨ k9 = 2 ∨ k9 = 3 ∨ k9 = 4 by omega) with rfl | rfl | rfl | rfl | rfl
      · exact (congrArg Int64.toInt32 hd5.1).trans (Int32.toInt32_toInt64 _)
      · exact (congrArg Int64.toInt32 hd5.2.1).trans (Int32.toInt32_toInt64 _)
      · exact (congrArg Int64.toInt32 hd5.2.2.1).trans (Int32.toInt32_toInt64 _)
      · refine (congrArg Int64.toInt32 hd5.2.2.2.1).trans ?_
        show _ = (if q_i u 16 d1 0 = 0 then 0 else 1)
        by_cases q : q_i u 16 d1 0 = 0
        · rw [if_pos q, if_pos q]; rfl
        · rw [if_neg q, if_neg q]; rfl
      · exact (congrArg Int64.toInt32 hd5.2.2.2.2).trans (eb_t (Or.inr rfl))
    · refine v_if_eq hC dX11_dispute_16 (tgt := 33) (by decide) (fun _ => ?_) (fun hx => absurd hx (by decide))
      refine v_bipush (v := (-2)) hC dX11_dispute_33 (by decide) ?_
      refine v_iret hC dX11_dispute_35 ?_
      refine ⟨?_, Bd.rf⟩
      rw [e_dispute, inN_s hd1]
      show _ = (if z = 0 then _ else if z = 1 then _ else if z = 2 then _ else if z = 3 then _ else if z = 4 then _ else _)
      rw [if_neg (fun q => g13 (by rw [q]; decide)), if_neg (fun q => g13 (by rw [q]; decide)), if_neg (fun q => g13 (by rw [q]; decide)), if_neg (fun q => g13 (by rw [q]; decide)), if_neg (fun q => g13 (by rw [q]; decide))]
  · refine v_if_eq hC dX11_dispute_5 (tgt := 10) (by decide) (fun hx => absurd hx (by decide)) (fun _ => ?_)
    refine v_iconst (v := (-1)) hC dX11_dispute_8 (by decide) ?_
    refine v_iret hC dX11_dispute_9 ?_
    exact ⟨((by rw [e_dispute, inN_o g2] : e_dispute u y z = -1)).symm, Bd.rf⟩

set_option maxHeartbeats 4000000 in
set_option maxRecDepth 100000 in
theorem c_X11_fileAt {l : Launch} {G : Gd} {M : Me} {h : Nat} {u : Si} {y : Int32} (hW : Wt M) (ht : m_t M h = 12) (hA : LA (rwM M h) u) : CQ (Qi G (fun r M2 => r = e_fileAt u y ∧ Bd M M2)) l G yX11_fileAt cX11_fileAt 2 ((some .int)) 2 42 0 0 [.ref h, .int y] M := by
  refine c_of ([some (.ref h), some (.int y)] : Lo) RX11 "fileAt" (by decide) rfl rfl (Nat.le_of_ble_eq_true rfl) rfl (fun p e s m below meth c hC nw => ?_)
  have u1 := hA.1.1
  have u2 := hA.1.2.1
  have u3 := hA.1.2.2.1
  have u4 := hA.1.2.2.2.1
  have hwz := wz_31 hW (wf_276 hW ht)
  refine v_iload_n hC dX11_fileAt_0 rfl rfl ?_
  refine v_if_ge hC dX11_fileAt_1 (tgt := 7) (by decide) (fun h1 => ?_) (fun h1 => ?_)
  · obtain ⟨j9, hj9, rfl⟩ := nI_of (fun q => i_ab q h1)
    refine v_iload_n hC dX11_fileAt_7 rfl rfl ?_
    refine v_i2l hC dX11_fileAt_8 ?_
    rw [nI_l hj9]
    refine v_aload_n hC dX11_fileAt_9 rfl rfl ?_
    refine gf_11_0 hC ht (wf_276 hW ht) mw_4_120 dX11_fileAt_10 ?_
    refine v_iconst (v := 0) hC dX11_fileAt_13 (by decide) ?_
    refine v_lald 31 hC (wf_276 hW ht) (by decide) (by decide) (ix_q (j := 0) hwz rfl) dX11_fileAt_14 ?_
    rw [show m_l M 31 (m_r M 276 h 0) (0) = _ from hA.c0]
    refine v_lcmp hC dX11_fileAt_15 ?_
    refine v_if_ge hC dX11_fileAt_16 (tgt := 27) (by decide) (fun h16 => ?_) (fun h16 => ?_)
    · have hj := lc_ge h16
      refine v_bipush (v := (-5)) hC dX11_fileAt_27 (by decide) ?_
      refine v_iret hC dX11_fileAt_29 ?_
      exact ⟨by rw [e_fileAt, if_neg (fun q => i_ab q h1)]; show _ = (match inN (nI j9) (n_f u) with | some j => _ | none => _); rw [inN_o (fun q => by obtain ⟨j, h7, h8⟩ := q; have := (nI_eq hj9 (by omega)).mp h8; omega)], Bd.rf⟩
    · have hj := lc_lt h16
      refine v_aload_n hC dX11_fileAt_19 rfl rfl ?_
      refine v_iload_n hC dX11_fileAt_20 rfl rfl ?_
      refine cVi1 hC (c_X11_fileIn hW ht hA hj) yv_X11_fileIn rfl ht mw_5_51 ⟨Nat.le_of_ble_eq_true rfl, Nat.le_of_ble_eq_true rfl⟩ ⟨Nat.le_of_ble_eq_true rfl, Nat.le_of_ble_eq_true rfl⟩ (Nat.le_of_ble_eq_true rfl) dX11_fileAt_21 (fun r21 M23 hq => ?_)
      obtain ⟨rfl, hm⟩ := hq
      have hm2 := hm.symm
      clear hm
      subst hm2
      refine v_goto hC dX11_fileAt_24 (tgt := 29) (by decide) ?_
      refine v_iret hC dX11_fileAt_29 ?_
      exact ⟨by rw [e_fileAt, if_neg (fun q => i_ab q h1)]; show _ = (match inN (nI j9) (n_f u) with | some j => _ | none => _); rw [inN_s hj], Bd.rf⟩
  · refine v_bipush (v := (-2)) hC dX11_fileAt_4 (by decide) ?_
    refine v_iret hC dX11_fileAt_6 ?_
    exact ⟨(if_pos (i_nle h1)).symm, Bd.rf⟩

theorem in6 {x : Int32} (q : rgI x 6) : ¬ x < 0 ∧ ¬ (5 : Int32) < x := by
  obtain ⟨j, hj, rfl⟩ := q
  exact ⟨fun z => i_ab z (nI_le (a := 0) (Nat.zero_le j) (by omega)), fun z => by have := lp_gt (N := 5) z; omega⟩
set_option maxHeartbeats 4000000 in
set_option maxRecDepth 100000 in
theorem c_X11_wordsIn {l : Launch} {G : Gd} {M : Me} {h : Nat} {u : Si} {y z : Int32} (hW : Wt M) (ht : m_t M h = 12) (hA : LA (rwM M h) u) (hO : WfO u) (hS : WfS u) : CQ (Qi G (fun r M2 => r = e_wordsIn u y z ∧ Bd M M2)) l G yX11_wordsIn cX11_wordsIn 3 ((some .int)) 6 146 0 0 [.ref h, .int y, .int z] M := by
  refine c_of ([some (.ref h), some (.int y), some (.int z)] : Lo) RX11 "wordsIn" (by decide) rfl rfl (Nat.le_of_ble_eq_true rfl) rfl (fun p e s m below meth c hC nw => ?_)
  have u1 := hA.1.1
  have u2 := hA.1.2.1
  have u3 := hA.1.2.2.1
  have u4 := hA.1.2.2.2.1
  have hwz := wz_31 hW (wf_276 hW ht)
  refine v_aload_n hC dX11_wordsIn_0 rfl rfl ?_
  refine v_iload_n hC dX11_wordsIn_1 rfl rfl ?_
  refine cVi1 hC (c_X11_noFile hW ht hA) yv_X11_noFile rfl ht mw_4_230 ⟨Nat.le_of_ble_eq_true rfl, Nat.le_of_ble_eq_true rfl⟩ ⟨Nat.le_of_ble_eq_true rfl, Nat.le_of_ble_eq_true rfl⟩ (Nat.le_of_ble_eq_true rfl) dX11_wordsIn_2 (fun r2 M4 hq => ?_)
  obtain ⟨hm, hq2⟩ := hq
  have hm2 := hm.symm
  clear hm
  subst hm2
  obtain ⟨g2, rfl⟩ | ⟨g2, rfl⟩ := hq2
  · refine v_if_eq hC dX11_wordsIn_5 (tgt := 10) (by decide) (fun _ => ?_) (fun hx => absurd hx (by decide))
    obtain ⟨f, hf, rfl⟩ := g2
    refine v_iload_n hC dX11_wordsIn_10 rfl rfl ?_
    refine v_iconst (v := 0) hC dX11_wordsIn_11 (by decide) ?_
    refine v_iconst (v := 5) hC dX11_wordsIn_12 (by decide) ?_
    refine cSi3 hC (c_X11_in ) ys_X11_in mw_4_181 ⟨Nat.le_of_ble_eq_true rfl, Nat.le_of_ble_eq_true rfl⟩ ⟨Nat.le_of_ble_eq_true rfl, Nat.le_of_ble_eq_true rfl⟩ (Nat.le_of_ble_eq_true rfl) dX11_wordsIn_13 (fun r13 M15 hq => ?_)
    obtain ⟨hm, hq2⟩ := hq
    have hm2 := hm.symm
    clear hm
    subst hm2
    obtain ⟨g13, rfl⟩ | ⟨g13, rfl⟩ := hq2
    · refine v_if_ne hC dX11_wordsIn_16 (tgt := 22) (by decide) (fun _ => ?_) (fun hx => absurd hx (by decide))
      obtain ⟨b1, hb1, rfl⟩ : rgI z 6 := rg_in g13.1 (fun q => g13.2 (Int32.lt_of_lt_of_le (by decide) q)) (by omega)
      refine v_aload_n hC dX11_wordsIn_22 rfl rfl ?_
      refine v_iload_n hC dX11_wordsIn_23 rfl rfl ?_
      refine cVi1 hC (c_X11_isInHand hW ht hA hS hf) yv_X11_isInHand rfl ht mw_5_59 ⟨Nat.le_of_ble_eq_true rfl, Nat.le_of_ble_eq_true rfl⟩ ⟨Nat.le_of_ble_eq_true rfl, Nat.le_of_ble_eq_true rfl⟩ (Nat.le_of_ble_eq_true rfl) dX11_wordsIn_24 (fun r24 M26 hq => ?_)
      obtain ⟨hm, hq2⟩ := hq
      have hm2 := hm.symm
      clear hm
      subst hm2
      obtain ⟨g24, rfl⟩ | ⟨g24, rfl⟩ := hq2
      · refine v_if_eq hC dX11_wordsIn_27 (tgt := 39) (by decide) (fun hx => absurd hx (by decide)) (fun _ => ?_)
        refine v_aload_n hC dX11_wordsIn_30 rfl rfl ?_
        refine v_iload_n hC dX11_wordsIn_31 rfl rfl ?_
        refine v_iload_n hC dX11_wordsIn_32 rfl rfl ?_
        refine cVi2 hC (c_X11_wordsBy hW ht hA hO hS hf g24 hb1) yv_X11_wordsBy rfl ht mw_5_80 ⟨Nat.le_of_ble_eq_true rfl, Nat.le_of_ble_eq_true rfl⟩ ⟨Nat.le_of_ble_eq_true rfl, Nat.le_of_ble_eq_true rfl⟩ (Nat.le_of_ble_eq_true rfl) dX11_wordsIn_33 (fun r33 M35 hq => ?_)
        obtain ⟨rfl, hB9⟩ := hq
        refine v_goto hC dX11_wordsIn_36 (tgt := 41) (by decide) ?_
        refine v_iret hC dX11_wordsIn_41 ?_
        exact ⟨by rw [e_wordsIn, inN_s hf]; show _ = (match inN (nI b1) 6 with | none => _ | some b => _); rw [inN_s hb1]; exact (if_pos g24).symm, hB9⟩
      · refine v_if_eq hC dX11_wordsIn_27 (tgt := 39) (by decide) (fun _ => ?_) (fun hx => absurd hx (by decide))
        refine v_bipush (v := (-5)) hC dX11_wordsIn_39 (by decide) ?_
        refine v_iret hC dX11_wordsIn_41 ?_
        exact ⟨by rw [e_wordsIn, inN_s hf]; show _ = (match inN (nI b1) 6 with | none => _ | some b => _); rw [inN_s hb1]; exact (if_neg g24).symm, Bd.rf⟩
    · refine v_if_ne hC dX11_wordsIn_16 (tgt := 22) (by decide) (fun hx => absurd hx (by decide)) (fun _ => ?_)
      refine v_bipush (v := (-2)) hC dX11_wordsIn_19 (by decide) ?_
      refine v_iret hC dX11_wordsIn_21 ?_
      exact ⟨by rw [e_wordsIn, inN_s hf]; show _ = (match inN z 6 with | none => _ | some b => _); rw [inN_o (fun q => g13 (in6 q))], Bd.rf⟩
  · refine v_if_eq hC dX11_wordsIn_5 (tgt := 10) (by decide) (fun hx => absurd hx (by decide)) (fun _ => ?_)
    refine v_iconst (v := (-1)) hC dX11_wordsIn_8 (by decide) ?_
    refine v_iret hC dX11_wordsIn_9 ?_
    exact ⟨((by rw [e_wordsIn, inN_o g2] : e_wordsIn u y z = -1)).symm, Bd.rf⟩

set_option maxHeartbeats 4000000 in
set_option maxRecDepth 100000 in
theorem c_X11_allWords {l : Launch} {G : Gd} {M : Me} {h : Nat} {u : Si} {y : Int32} (hW : Wt M) (ht : m_t M h = 12) (hA : LA (rwM M h) u) (hO : WfO u) (hS : WfS u) : CQ (Qi G (fun r M2 => r = e_allWords u y ∧ Bd M M2)) l G yX11_allWords cX11_allWords 4 ((some .int)) 6 146 0 0 [.ref h, .int y] M := by
  refine c_of ([some (.ref h), some (.int y), none, none] : Lo) RX11 "allWords" (by decide) rfl rfl (Nat.le_of_ble_eq_true rfl) rfl (fun p e s m below meth c hC nw => ?_)
  have u1 := hA.1.1
  have u2 := hA.1.2.1
  have u3 := hA.1.2.2.1
  have u4 := hA.1.2.2.2.1
  have hwz := wz_31 hW (wf_276 hW ht)
  have hA' := hA
  have loop : ∀ (b1 : Nat), b1 < 6 → y = nI b1 → ∀ (k i : Nat) (M1 : Me), i + k = 9 → i ≤ n_f u → Bd M M1 → V p l e (rmk 6 146 0 0) s m ([.ref h, .int y] : List Value).toArray below meth c 4 G (MQ below (Qi G (fun r M2 => r = e_allWords u y ∧ Bd M M2)) ([.ref h, .int y] : List Value).toArray s 0 0 (fr_ G)) M1 0 0 16 ([some (.ref h), some (.int (nI b1)), some (.int (sm (T_aw u b1) i)), some (.int (nI i))] : Lo) [] := by
    intro b1 hb1 ey k
    induction k with
    | zero => intro i M1 w1 w2; omega
    | succ k ih =>
      intro i M1 w1 w2 hB
      obtain ⟨b9, rfl⟩ := hB
      have hW : Wt (s_d M b9) := hW
      have ht : m_t (s_d M b9) h = 12 := ht
      have hA : LA (rwM (s_d M b9) h) u := hA'
      refine v_iload_n hC dX11_allWords_16 rfl rfl ?_
      refine v_i2l hC dX11_allWords_17 ?_
      rw [nI_l (by omega)]
      refine v_aload_n hC dX11_allWords_18 rfl rfl ?_
      refine gf_11_0 hC ht (wf_276 hW ht) mw_4_120 dX11_allWords_19 ?_
      refine v_iconst (v := 0) hC dX11_allWords_22 (by decide) ?_
      refine v_lald 31 hC (wf_276 hW ht) (by decide) (by decide) (ix_q (j := 0) hwz rfl) dX11_allWords_23 ?_
      rw [show m_l (s_d M b9) 31 (m_r (s_d M b9) 276 h 0) 0 = _ from hA.c0]
      refine v_lcmp hC dX11_allWords_24 ?_
      refine v_if_ge hC dX11_allWords_25 (tgt := 55) (by decide) (fun h25 => ?_) (fun h25 => ?_)
      · have hi := lc_ge h25
        refine v_iload_n hC dX11_allWords_55 rfl rfl ?_
        refine v_iret hC dX11_allWords_56 ?_
        have hie : i = n_f u := by omega
        exact ⟨by rw [ey, e_allWords, inN_s hb1, hie], ⟨b9, rfl⟩⟩
      · have hi := lc_lt h25
        refine v_iload_n hC dX11_allWords_28 rfl rfl ?_
        refine v_aload_n hC dX11_allWords_29 rfl rfl ?_
        refine v_iload_n hC dX11_allWords_30 rfl rfl ?_
        refine cVi1 hC (c_X11_isInHand hW ht hA hS hi) yv_X11_isInHand rfl ht mw_5_59 ⟨Nat.le_of_ble_eq_true rfl, Nat.le_of_ble_eq_true rfl⟩ ⟨Nat.le_of_ble_eq_true rfl, Nat.le_of_ble_eq_true rfl⟩ (Nat.le_of_ble_eq_true rfl) dX11_allWords_31 (fun r31 M33 hq => ?_)
        obtain ⟨hm, hq2⟩ := hq
        have hm2 := hm.symm
        clear hm
        subst hm2
        obtain ⟨g31, rfl⟩ | ⟨g31, rfl⟩ := hq2
        · refine v_if_eq hC dX11_allWords_34 (tgt := 46) (by decide) (fun hx => absurd hx (by decide)) (fun _ => ?_)
          refine v_aload_n hC dX11_allWords_37 rfl rfl ?_
          refine v_iload_n hC dX11_allWords_38 rfl rfl ?_
          refine v_iload_n hC dX11_allWords_39 rfl rfl ?_
          refine cVi2 hC (c_X11_wordsBy hW ht hA hO hS hi g31 hb1) yv_X11_wordsBy rfl ht mw_5_80 ⟨Nat.le_of_ble_eq_true rfl, Nat.le_of_ble_eq_true rfl⟩ ⟨Nat.le_of_ble_eq_true rfl, Nat.le_of_ble_eq_true rfl⟩ (Nat.le_of_ble_eq_true rfl) dX11_allWords_40 (fun r40 M42 hq => ?_)
          obtain ⟨rfl, hB8⟩ := hq
          obtain ⟨b8, rfl⟩ := Bd.tr ⟨b9, rfl⟩ hB8
          have hW : Wt (s_d M b8) := hW
          have ht : m_t (s_d M b8) h = 12 := ht
          have hA : LA (rwM (s_d M b8) h) u := hA
          refine v_goto hC dX11_allWords_43 (tgt := 47) (by decide) ?_
          refine v_iadd hC dX11_allWords_47 ?_
          first
            | rw [show sm (T_aw u b1) i + 0 = sm (T_aw u b1) (i + 1) from by rw [sm_s, T_aw, if_neg g31]]
            | rw [show sm (T_aw u b1) i + wbn u i b1 = sm (T_aw u b1) (i + 1) from by rw [sm_s, T_aw, if_pos g31]]
          refine v_ist2 hC dX11_allWords_48 (by decide) (kk := ?_)
          refine v_inc3 hC dX11_allWords_49 ((nI_succ i).symm) (by decide) (kk := ?_)
          refine v_goto hC dX11_allWords_52 (tgt := 16) (by decide) ?_
          first
            | exact ih (i + 1) _ (by omega) (by omega) ⟨b8, rfl⟩
            | exact ih (i + 1) _ (by omega) (by omega) ⟨b9, rfl⟩
        · refine v_if_eq hC dX11_allWords_34 (tgt := 46) (by decide) (fun _ => ?_) (fun hx => absurd hx (by decide))
          refine v_iconst (v := 0) hC dX11_allWords_46 (by decide) ?_
          refine v_iadd hC dX11_allWords_47 ?_
          first
            | rw [show sm (T_aw u b1) i + 0 = sm (T_aw u b1) (i + 1) from by rw [sm_s, T_aw, if_neg g31]]
            | rw [show sm (T_aw u b1) i + wbn u i b1 = sm (T_aw u b1) (i + 1) from by rw [sm_s, T_aw, if_pos g31]]
          refine v_ist2 hC dX11_allWords_48 (by decide) (kk := ?_)
          refine v_inc3 hC dX11_allWords_49 ((nI_succ i).symm) (by decide) (kk := ?_)
          refine v_goto hC dX11_allWords_52 (tgt := 16) (by decide) ?_
          first
            | exact ih (i + 1) _ (by omega) (by omega) ⟨b8, rfl⟩
            | exact ih (i + 1) _ (by omega) (by omega) ⟨b9, rfl⟩
  refine v_iload_n hC dX11_allWords_0 rfl rfl ?_
  refine v_iconst (v := 0) hC dX11_allWords_1 (by decide) ?_
  refine v_iconst (v := 5) hC dX11_allWords_2 (by decide) ?_
  refine cSi3 hC (c_X11_in ) ys_X11_in mw_4_181 ⟨Nat.le_of_ble_eq_true rfl, Nat.le_of_ble_eq_true rfl⟩ ⟨Nat.le_of_ble_eq_true rfl, Nat.le_of_ble_eq_true rfl⟩ (Nat.le_of_ble_eq_true rfl) dX11_allWords_3 (fun r3 M5 hq => ?_)
  obtain ⟨hm, hq2⟩ := hq
  have hm2 := hm.symm
  clear hm
  subst hm2
  obtain ⟨g3, rfl⟩ | ⟨g3, rfl⟩ := hq2
  · refine v_if_ne hC dX11_allWords_6 (tgt := 12) (by decide) (fun _ => ?_) (fun hx => absurd hx (by decide))
    obtain ⟨b1, hb1, rfl⟩ : rgI y 6 := rg_in g3.1 (fun q => g3.2 (Int32.lt_of_lt_of_le (by decide) q)) (by omega)
    refine v_iconst (v := 0) hC dX11_allWords_12 (by decide) ?_
    refine v_ist2 hC dX11_allWords_13 (by decide) (kk := ?_)
    refine v_iconst (v := 0) hC dX11_allWords_14 (by decide) ?_
    refine v_ist3 hC dX11_allWords_15 (by decide) (kk := ?_)
    exact loop b1 hb1 rfl 9 0 M (by omega) (by omega) Bd.rf
  · refine v_if_ne hC dX11_allWords_6 (tgt := 12) (by decide) (fun hx => absurd hx (by decide)) (fun _ => ?_)
    refine v_bipush (v := (-2)) hC dX11_allWords_9 (by decide) ?_
    refine v_iret hC dX11_allWords_11 ?_
    exact ⟨by rw [e_allWords, inN_o (fun q => g3 (in6 q))], Bd.rf⟩

set_option maxHeartbeats 4000000 in
set_option maxRecDepth 100000 in
theorem c_X11_price {l : Launch} {G : Gd} {M : Me} {h : Nat} {u : Si} {y z : Int32} (hW : Wt M) (ht : m_t M h = 12) (hA : LA (rwM M h) u) (hO : WfO u) (hS : WfS u) : CQ (Qi G (fun r M2 => r = e_price u y z ∧ Bd M M2)) l G yX11_price cX11_price 3 ((some .int)) 7 170 0 0 [.ref h, .int y, .int z] M := by
  refine c_of ([some (.ref h), some (.int y), some (.int z)] : Lo) RX11 "price" (by decide) rfl rfl (Nat.le_of_ble_eq_true rfl) rfl (fun p e s m below meth c hC nw => ?_)
  have u1 := hA.1.1
  have u2 := hA.1.2.1
  have u3 := hA.1.2.2.1
  have u4 := hA.1.2.2.2.1
  have hwz := wz_31 hW (wf_276 hW ht)
  refine v_aload_n hC dX11_price_0 rfl rfl ?_
  refine v_iload_n hC dX11_price_1 rfl rfl ?_
  refine cVi1 hC (c_X11_noFile hW ht hA) yv_X11_noFile rfl ht mw_4_230 ⟨Nat.le_of_ble_eq_true rfl, Nat.le_of_ble_eq_true rfl⟩ ⟨Nat.le_of_ble_eq_true rfl, Nat.le_of_ble_eq_true rfl⟩ (Nat.le_of_ble_eq_true rfl) dX11_price_2 (fun r2 M4 hq => ?_)
  obtain ⟨hm, hq2⟩ := hq
  have hm2 := hm.symm
  clear hm
  subst hm2
  obtain ⟨g2, rfl⟩ | ⟨g2, rfl⟩ := hq2
  · refine v_if_ne hC dX11_price_5 (tgt := 16) (by decide) (fun hx => absurd hx (by decide)) (fun _ => ?_)
    refine v_aload_n hC dX11_price_8 rfl rfl ?_
    refine v_iload_n hC dX11_price_9 rfl rfl ?_
    refine cVi1 hC (c_X11_noPerson hW ht hA) yv_X11_noPerson rfl ht mw_4_194 ⟨Nat.le_of_ble_eq_true rfl, Nat.le_of_ble_eq_true rfl⟩ ⟨Nat.le_of_ble_eq_true rfl, Nat.le_of_ble_eq_true rfl⟩ (Nat.le_of_ble_eq_true rfl) dX11_price_10 (fun r10 M12 hq => ?_)
    obtain ⟨hm, hq2⟩ := hq
    have hm2 := hm.symm
    clear hm
    subst hm2
    obtain ⟨g10, rfl⟩ | ⟨g10, rfl⟩ := hq2
    · refine v_if_eq hC dX11_price_13 (tgt := 18) (by decide) (fun _ => ?_) (fun hx => absurd hx (by decide))
      obtain ⟨f, hf, rfl⟩ := g2
      obtain ⟨p0, hp, rfl⟩ := g10
      have hp6 : p0 < 6 := by omega
      refine v_aload_n hC dX11_price_18 rfl rfl ?_
      refine v_iload_n hC dX11_price_19 rfl rfl ?_
      refine cVi1 hC (c_X11_isInHand hW ht hA hS hf) yv_X11_isInHand rfl ht mw_5_59 ⟨Nat.le_of_ble_eq_true rfl, Nat.le_of_ble_eq_true rfl⟩ ⟨Nat.le_of_ble_eq_true rfl, Nat.le_of_ble_eq_true rfl⟩ (Nat.le_of_ble_eq_true rfl) dX11_price_20 (fun r20 M22 hq => ?_)
      obtain ⟨hm, hq2⟩ := hq
      have hm2 := hm.symm
      clear hm
      subst hm2
      obtain ⟨g20, rfl⟩ | ⟨g20, rfl⟩ := hq2
      · refine v_if_eq hC dX11_price_23 (tgt := 35) (by decide) (fun hx => absurd hx (by decide)) (fun _ => ?_)
        refine v_aload_n hC dX11_price_26 rfl rfl ?_
        refine v_iload_n hC dX11_price_27 rfl rfl ?_
        refine v_iload_n hC dX11_price_28 rfl rfl ?_
        refine cVi2 hC (c_X11_priceOf hW ht hA hO hS hf g20 hp) yv_X11_priceOf rfl ht mw_5_76 ⟨Nat.le_of_ble_eq_true rfl, Nat.le_of_ble_eq_true rfl⟩ ⟨Nat.le_of_ble_eq_true rfl, Nat.le_of_ble_eq_true rfl⟩ (Nat.le_of_ble_eq_true rfl) dX11_price_29 (fun r29 M31 hq => ?_)
        obtain ⟨rfl, hB9⟩ := hq
        refine v_goto hC dX11_price_32 (tgt := 37) (by decide) ?_
        refine v_iret hC dX11_price_37 ?_
        exact ⟨by rw [e_price, inN_s hf, inN_s hp]; exact (if_pos g20).symm, hB9⟩
      · refine v_if_eq hC dX11_price_23 (tgt := 35) (by decide) (fun _ => ?_) (fun hx => absurd hx (by decide))
        refine v_bipush (v := (-5)) hC dX11_price_35 (by decide) ?_
        refine v_iret hC dX11_price_37 ?_
        exact ⟨by rw [e_price, inN_s hf, inN_s hp]; exact (if_neg g20).symm, Bd.rf⟩
    · refine v_if_eq hC dX11_price_13 (tgt := 18) (by decide) (fun hx => absurd hx (by decide)) (fun _ => ?_)
      refine v_iconst (v := (-1)) hC dX11_price_16 (by decide) ?_
      refine v_iret hC dX11_price_17 ?_
      exact ⟨by
        rw [e_price]
        first
          | rw [inN_o g2]
          | (rw [inN_o g10]
             split
             · rename_i q; cases q
             · rfl), Bd.rf⟩
  · refine v_if_ne hC dX11_price_5 (tgt := 16) (by decide) (fun _ => ?_) (fun hx => absurd hx (by decide))
    refine v_iconst (v := (-1)) hC dX11_price_16 (by decide) ?_
    refine v_iret hC dX11_price_17 ?_
    exact ⟨by
      rw [e_price]
      first
        | rw [inN_o g2]
        | (rw [inN_o g10]
           split
           · rename_i q; cases q
           · rfl), Bd.rf⟩

theorem myB_1 {u : Si} {f : Nat} {x : Int32} (h : myB u f x = true) : q_i u 4 f 0 = 1 := by
  unfold myB at h
  exact of_decide_eq_true (Bool.and_eq_true_iff.mp h).1
theorem myB_i {u : Si} {f a : Nat} {x : Int32} (h4 : q_i u 4 f 0 = 1) (ha : a < n_p u) (ea : q_i u 5 f 0 = nI a) (hn : n_p u < 2 ^ 31 := by omega) : myB u f x = true ↔ (¬ x = nI a ∧ ¬ brd (q_i u 2 a 0) x ∧ ¬ q_i u 3 a 0 = x) := by
  unfold myB brd
  rw [h4, ea, inN_s ha hn]
  exact ⟨fun q => of_decide_eq_true (Bool.and_eq_true_iff.mp q).2, fun q => Bool.and_eq_true_iff.mpr ⟨rfl, decide_eq_true q⟩⟩
set_option maxHeartbeats 4000000 in
set_option maxRecDepth 100000 in
theorem c_X11_firstReviewer {l : Launch} {G : Gd} {M : Me} {h : Nat} {u : Si} {y : Int32} (hW : Wt M) (ht : m_t M h = 12) (hA : LA (rwM M h) u) (hB : WfB u) (hK : WfA u) : CQ (Qi G (fun r M2 => r = e_firstReviewer u y ∧ Bd M M2)) l G yX11_firstReviewer cX11_firstReviewer 3 ((some .int)) 3 66 0 0 [.ref h, .int y] M := by
  refine c_of ([some (.ref h), some (.int y), none] : Lo) RX11 "firstReviewer" (by decide) rfl rfl (Nat.le_of_ble_eq_true rfl) rfl (fun p e s m below meth c hC nw => ?_)
  have u1 := hA.1.1
  have u2 := hA.1.2.1
  have u3 := hA.1.2.2.1
  have u4 := hA.1.2.2.2.1
  have hwz := wz_31 hW (wf_276 hW ht)
  have loop : ∀ (f : Nat), f < n_f u → y = nI f → ∀ (k i : Nat), i + k = 7 → i ≤ n_p u → (∀ j, j < i → ¬ myB u f (nI j) = true) → V p l e (rmk 3 66 0 0) s m ([.ref h, .int y] : List Value).toArray below meth c 3 G (MQ below (Qi G (fun r M2 => r = e_firstReviewer u y ∧ Bd M M2)) ([.ref h, .int y] : List Value).toArray s 0 0 (fr_ G)) M 0 0 12 ([some (.ref h), some (.int (nI f)), some (.int (nI i))] : Lo) [] := by
    intro f hf ey k
    induction k with
    | zero => intro i w1 w2; omega
    | succ k ih =>
      intro i w1 w2 hI
      refine v_iload_n hC dX11_firstReviewer_12 rfl rfl ?_
      refine v_i2l hC dX11_firstReviewer_13 ?_
      rw [nI_l (by omega)]
      refine v_aload_n hC dX11_firstReviewer_14 rfl rfl ?_
      refine gf_11_0 hC ht (wf_276 hW ht) mw_4_120 dX11_firstReviewer_15 ?_
      refine v_iconst (v := 1) hC dX11_firstReviewer_18 (by decide) ?_
      refine v_lald 31 hC (wf_276 hW ht) (by decide) (by decide) (ix_q (j := 1) hwz rfl) dX11_firstReviewer_19 ?_
      rw [show m_l M 31 (m_r M 276 h 0) (1) = _ from hA.c1]
      refine v_lcmp hC dX11_firstReviewer_20 ?_
      refine v_if_ge hC dX11_firstReviewer_21 (tgt := 50) (by decide) (fun h21 => ?_) (fun h21 => ?_)
      · have hi := lc_ge h21
        refine v_bipush (v := (-5)) hC dX11_firstReviewer_50 (by decide) ?_
        refine v_iret hC dX11_firstReviewer_52 ?_
        refine ⟨?_, Bd.rf⟩
        rw [ey, e_firstReviewer, inN_s hf]
        show _ = eN _
        rw [fsN_o (fun j hj => by
          first
            | exact hI j (by omega)
            | exact fun z => h30 (myB_1 z))]
        rfl
      · have hi := lc_lt h21
        refine v_aload_n hC dX11_firstReviewer_24 rfl rfl ?_
        refine v_iload_n hC dX11_firstReviewer_25 rfl rfl ?_
        refine cVi1 hC (c_X11_state hW ht hA hf) yv_X11_state rfl ht mw_5_11 ⟨Nat.le_of_ble_eq_true rfl, Nat.le_of_ble_eq_true rfl⟩ ⟨Nat.le_of_ble_eq_true rfl, Nat.le_of_ble_eq_true rfl⟩ (Nat.le_of_ble_eq_true rfl) dX11_firstReviewer_26 (fun r26 M28 hq => ?_)
        obtain ⟨rfl, hm⟩ := hq
        have hm2 := hm.symm
        clear hm
        subst hm2
        refine v_iconst (v := 1) hC dX11_firstReviewer_29 (by decide) ?_
        refine v_icmp_ne hC dX11_firstReviewer_30 (tgt := 50) (by decide) (fun h30 => ?_) (fun h30 => ?_)
        · refine v_bipush (v := (-5)) hC dX11_firstReviewer_50 (by decide) ?_
          refine v_iret hC dX11_firstReviewer_52 ?_
          refine ⟨?_, Bd.rf⟩
          rw [ey, e_firstReviewer, inN_s hf]
          show _ = eN _
          rw [fsN_o (fun j hj => by
            first
              | exact hI j (by omega)
              | exact fun z => h30 (myB_1 z))]
          rfl
        · have h44 : q_i u 4 f 0 = 1 := h30
          obtain ⟨a, ha, ea⟩ := hK f hf h44
          refine v_aload_n hC dX11_firstReviewer_33 rfl rfl ?_
          refine v_iload_n hC dX11_firstReviewer_34 rfl rfl ?_
          refine v_iload_n hC dX11_firstReviewer_35 rfl rfl ?_
          refine cVi2 hC (c_X11_mayReview hW ht hA hB hf (fun q => by rw [h44] at q; exact absurd q (by decide)) ea ha (by omega)) yv_X11_mayReview rfl ht mw_5_155 ⟨Nat.le_of_ble_eq_true rfl, Nat.le_of_ble_eq_true rfl⟩ ⟨Nat.le_of_ble_eq_true rfl, Nat.le_of_ble_eq_true rfl⟩ (Nat.le_of_ble_eq_true rfl) dX11_firstReviewer_36 (fun r36 M38 hq => ?_)
          obtain ⟨hm, hq2⟩ := hq
          have hm2 := hm.symm
          clear hm
          subst hm2
          obtain ⟨g36, rfl⟩ | ⟨g36, rfl⟩ := hq2
          · refine v_if_eq hC dX11_firstReviewer_39 (tgt := 44) (by decide) (fun hx => absurd hx (by decide)) (fun _ => ?_)
            refine v_iload_n hC dX11_firstReviewer_42 rfl rfl ?_
            refine v_iret hC dX11_firstReviewer_43 ?_
            exact ⟨by rw [ey, e_firstReviewer, inN_s hf]; show _ = eN _; rw [fsN_s hi ((myB_i h44 ha ea).mpr g36) hI]; rfl, Bd.rf⟩
          · refine v_if_eq hC dX11_firstReviewer_39 (tgt := 44) (by decide) (fun _ => ?_) (fun hx => absurd hx (by decide))
            refine v_inc2 hC dX11_firstReviewer_44 ((nI_succ i).symm) (by decide) (kk := ?_)
            refine v_goto hC dX11_firstReviewer_47 (tgt := 12) (by decide) ?_
            exact ih (i + 1) (by omega) (by omega) (fun j hj => by
              by_cases q : j = i
              · rw [q]; exact fun z => g36 ((myB_i h44 ha ea).mp z)
              · exact hI j (by omega))
  refine v_aload_n hC dX11_firstReviewer_0 rfl rfl ?_
  refine v_iload_n hC dX11_firstReviewer_1 rfl rfl ?_
  refine cVi1 hC (c_X11_noFile hW ht hA) yv_X11_noFile rfl ht mw_4_230 ⟨Nat.le_of_ble_eq_true rfl, Nat.le_of_ble_eq_true rfl⟩ ⟨Nat.le_of_ble_eq_true rfl, Nat.le_of_ble_eq_true rfl⟩ (Nat.le_of_ble_eq_true rfl) dX11_firstReviewer_2 (fun r2 M4 hq => ?_)
  obtain ⟨hm, hq2⟩ := hq
  have hm2 := hm.symm
  clear hm
  subst hm2
  obtain ⟨g2, rfl⟩ | ⟨g2, rfl⟩ := hq2
  · refine v_if_eq hC dX11_firstReviewer_5 (tgt := 10) (by decide) (fun _ => ?_) (fun hx => absurd hx (by decide))
    obtain ⟨f, hf, rfl⟩ := g2
    refine v_iconst (v := 0) hC dX11_firstReviewer_10 (by decide) ?_
    refine v_ist2 hC dX11_firstReviewer_11 (by decide) (kk := ?_)
    exact loop f hf rfl 7 0 (by omega) (by omega) (fun j hj => absurd hj (Nat.not_lt_zero j))
  · refine v_if_eq hC dX11_firstReviewer_5 (tgt := 10) (by decide) (fun hx => absurd hx (by decide)) (fun _ => ?_)
    refine v_iconst (v := (-1)) hC dX11_firstReviewer_8 (by decide) ?_
    refine v_iret hC dX11_firstReviewer_9 ?_
    exact ⟨((by rw [e_firstReviewer, inN_o g2] : e_firstReviewer u y = -1)).symm, Bd.rf⟩

set_option maxHeartbeats 4000000 in
set_option maxRecDepth 100000 in
theorem c_X11_count {l : Launch} {G : Gd} {M : Me} {h : Nat} {u : Si} {hn t : Nat} {y : Int32} (hW : Wt M) (ht : m_t M h = 12) (hA : LA (rwM M h) u) (hS : WfS u) (hT : WfT u) (hK : WfK u) (hP : LPd (rwM M h) u) (hst : m_i M 279 h 0 = nI hn) (hle : m_i M 282 h 0 = nI t) : CQ (Qi G (fun r M2 => r = e_count u hn t y ∧ Bd M M2)) l G yX11_count cX11_count 2 ((some .int)) 4 90 0 0 [.ref h, .int y] M := by
  refine c_of ([some (.ref h), some (.int y)] : Lo) RX11 "count" (by decide) rfl rfl (Nat.le_of_ble_eq_true rfl) rfl (fun p e s m below meth c hC nw => ?_)
  have u1 := hA.1.1
  have u2 := hA.1.2.1
  have u3 := hA.1.2.2.1
  have u4 := hA.1.2.2.2.1
  have hwz := wz_31 hW (wf_276 hW ht)
  refine v_iload_n hC dX11_count_0 rfl rfl ?_
  by_cases e0 : y = 0
  · subst e0
    refine v_tsi hC dX11_count_1 (by decide) (by decide) (off := 83) (by rfl) (tgt := 84) (by decide) ?_
    refine v_aload_n hC dX11_count_84 rfl rfl ?_
    refine v_iconst (v := 0) hC dX11_count_85 (by decide) ?_
    refine cVi1 hC (c_X11_number hW ht (q := 0) (by decide)) yv_X11_number rfl ht mw_4_165 ⟨Nat.le_of_ble_eq_true rfl, Nat.le_of_ble_eq_true rfl⟩ ⟨Nat.le_of_ble_eq_true rfl, Nat.le_of_ble_eq_true rfl⟩ (Nat.le_of_ble_eq_true rfl) dX11_count_86 (fun r86 M88 hq => ?_)
    obtain ⟨rfl, hm⟩ := hq
    have hm2 := hm.symm
    clear hm
    subst hm2
    rw [hA.c0, lN_i]
    refine v_iret hC dX11_count_89 ?_
    exact ⟨(if_pos rfl).symm, Bd.rf⟩
  by_cases e1 : y = 1
  · subst e1
    refine v_tsi hC dX11_count_1 (by decide) (by decide) (off := 89) (by rfl) (tgt := 90) (by decide) ?_
    refine v_aload_n hC dX11_count_90 rfl rfl ?_
    refine v_iconst (v := 0) hC dX11_count_91 (by decide) ?_
    refine v_iconst (v := 2) hC dX11_count_92 (by decide) ?_
    refine v_iconst (v := 0) hC dX11_count_93 (by decide) ?_
    refine cVi3 hC (c_X11_sum_ih hW ht hA hS hT) yv_X11_sum rfl ht mw_6_27 ⟨Nat.le_of_ble_eq_true rfl, Nat.le_of_ble_eq_true rfl⟩ ⟨Nat.le_of_ble_eq_true rfl, Nat.le_of_ble_eq_true rfl⟩ (Nat.le_of_ble_eq_true rfl) dX11_count_94 (fun r94 M96 hq => ?_)
    obtain ⟨rfl, hm⟩ := hq
    have hm2 := hm.symm
    clear hm
    subst hm2
    refine v_iret hC dX11_count_97 ?_
    exact ⟨((if_neg (by decide)).trans (if_pos rfl)).symm, Bd.rf⟩
  by_cases e2 : y = 2
  · subst e2
    refine v_tsi hC dX11_count_1 (by decide) (by decide) (off := 97) (by rfl) (tgt := 98) (by decide) ?_
    refine v_aload_n hC dX11_count_98 rfl rfl ?_
    refine v_iconst (v := 1) hC dX11_count_99 (by decide) ?_
    refine cVi1 hC (c_X11_number hW ht (q := 1) (by decide)) yv_X11_number rfl ht mw_4_165 ⟨Nat.le_of_ble_eq_true rfl, Nat.le_of_ble_eq_true rfl⟩ ⟨Nat.le_of_ble_eq_true rfl, Nat.le_of_ble_eq_true rfl⟩ (Nat.le_of_ble_eq_true rfl) dX11_count_100 (fun r100 M102 hq => ?_)
    obtain ⟨rfl, hm⟩ := hq
    have hm2 := hm.symm
    clear hm
    subst hm2
    rw [hA.c1, lN_i]
    refine v_iret hC dX11_count_103 ?_
    exact ⟨((if_neg (by decide)).trans ((if_neg (by decide)).trans (if_pos rfl))).symm, Bd.rf⟩
  by_cases e3 : y = 3
  · subst e3
    refine v_tsi hC dX11_count_1 (by decide) (by decide) (off := 103) (by rfl) (tgt := 104) (by decide) ?_
    refine v_aload_n hC dX11_count_104 rfl rfl ?_
    refine v_iconst (v := 2) hC dX11_count_105 (by decide) ?_
    refine cVi1 hC (c_X11_number hW ht (q := 2) (by decide)) yv_X11_number rfl ht mw_4_165 ⟨Nat.le_of_ble_eq_true rfl, Nat.le_of_ble_eq_true rfl⟩ ⟨Nat.le_of_ble_eq_true rfl, Nat.le_of_ble_eq_true rfl⟩ (Nat.le_of_ble_eq_true rfl) dX11_count_106 (fun r106 M108 hq => ?_)
    obtain ⟨rfl, hm⟩ := hq
    have hm2 := hm.symm
    clear hm
    subst hm2
    rw [hA.c2, lN_i]
    refine v_iret hC dX11_count_109 ?_
    exact ⟨((if_neg (by decide)).trans ((if_neg (by decide)).trans ((if_neg (by decide)).trans (if_pos rfl)))).symm, Bd.rf⟩
  by_cases e4 : y = 4
  · subst e4
    refine v_tsi hC dX11_count_1 (by decide) (by decide) (off := 109) (by rfl) (tgt := 110) (by decide) ?_
    refine v_aload_n hC dX11_count_110 rfl rfl ?_
    refine v_iconst (v := 3) hC dX11_count_111 (by decide) ?_
    refine cVi1 hC (c_X11_number hW ht (q := 3) (by decide)) yv_X11_number rfl ht mw_4_165 ⟨Nat.le_of_ble_eq_true rfl, Nat.le_of_ble_eq_true rfl⟩ ⟨Nat.le_of_ble_eq_true rfl, Nat.le_of_ble_eq_true rfl⟩ (Nat.le_of_ble_eq_true rfl) dX11_count_112 (fun r112 M114 hq => ?_)
    obtain ⟨rfl, hm⟩ := hq
    have hm2 := hm.symm
    clear hm
    subst hm2
    rw [hA.c3, lN_i]
    refine v_iret hC dX11_count_115 ?_
    exact ⟨((if_neg (by decide)).trans ((if_neg (by decide)).trans ((if_neg (by decide)).trans ((if_neg (by decide)).trans (if_pos rfl))))).symm, Bd.rf⟩
  by_cases e5 : y = 5
  · subst e5
    refine v_tsi hC dX11_count_1 (by decide) (by decide) (off := 115) (by rfl) (tgt := 116) (by decide) ?_
    refine v_aload_n hC dX11_count_116 rfl rfl ?_
    refine cVi0 hC (c_X11_openDisputes hW ht hA) yv_X11_openDisputes rfl ht mw_6_31 ⟨Nat.le_of_ble_eq_true rfl, Nat.le_of_ble_eq_true rfl⟩ ⟨Nat.le_of_ble_eq_true rfl, Nat.le_of_ble_eq_true rfl⟩ (Nat.le_of_ble_eq_true rfl) dX11_count_117 (fun r117 M119 hq => ?_)
    obtain ⟨rfl, hm⟩ := hq
    have hm2 := hm.symm
    clear hm
    subst hm2
    refine v_iret hC dX11_count_120 ?_
    exact ⟨((if_neg (by decide)).trans ((if_neg (by decide)).trans ((if_neg (by decide)).trans ((if_neg (by decide)).trans ((if_neg (by decide)).trans (if_pos rfl)))))).symm, Bd.rf⟩
  by_cases e6 : y = 6
  · subst e6
    refine v_tsi hC dX11_count_1 (by decide) (by decide) (off := 120) (by rfl) (tgt := 121) (by decide) ?_
    refine v_aload_n hC dX11_count_121 rfl rfl ?_
    refine v_iconst (v := 0) hC dX11_count_122 (by decide) ?_
    refine v_iconst (v := 2) hC dX11_count_123 (by decide) ?_
    refine v_iconst (v := 1) hC dX11_count_124 (by decide) ?_
    refine cVi3 hC (c_X11_sum_wi hW ht hA hS hT) yv_X11_sum rfl ht mw_6_27 ⟨Nat.le_of_ble_eq_true rfl, Nat.le_of_ble_eq_true rfl⟩ ⟨Nat.le_of_ble_eq_true rfl, Nat.le_of_ble_eq_true rfl⟩ (Nat.le_of_ble_eq_true rfl) dX11_count_125 (fun r125 M127 hq => ?_)
    obtain ⟨rfl, hm⟩ := hq
    have hm2 := hm.symm
    clear hm
    subst hm2
    refine v_iret hC dX11_count_128 ?_
    exact ⟨((if_neg (by decide)).trans ((if_neg (by decide)).trans ((if_neg (by decide)).trans ((if_neg (by decide)).trans ((if_neg (by decide)).trans ((if_neg (by decide)).trans (if_pos rfl))))))).symm, Bd.rf⟩
  by_cases e7 : y = 7
  · subst e7
    refine v_tsi hC dX11_count_1 (by decide) (by decide) (off := 128) (by rfl) (tgt := 129) (by decide) ?_
    refine v_aload_n hC dX11_count_129 rfl rfl ?_
    refine v_iconst (v := 3) hC dX11_count_130 (by decide) ?_
    refine v_iconst (v := 3) hC dX11_count_131 (by decide) ?_
    refine v_iconst (v := 1) hC dX11_count_132 (by decide) ?_
    refine cVi3 hC (c_X11_sum_wd hW ht hA hS hT) yv_X11_sum rfl ht mw_6_27 ⟨Nat.le_of_ble_eq_true rfl, Nat.le_of_ble_eq_true rfl⟩ ⟨Nat.le_of_ble_eq_true rfl, Nat.le_of_ble_eq_true rfl⟩ (Nat.le_of_ble_eq_true rfl) dX11_count_133 (fun r133 M135 hq => ?_)
    obtain ⟨rfl, hm⟩ := hq
    have hm2 := hm.symm
    clear hm
    subst hm2
    refine v_iret hC dX11_count_136 ?_
    exact ⟨((if_neg (by decide)).trans ((if_neg (by decide)).trans ((if_neg (by decide)).trans ((if_neg (by decide)).trans ((if_neg (by decide)).trans ((if_neg (by decide)).trans ((if_neg (by decide)).trans (if_pos rfl)))))))).symm, Bd.rf⟩
  by_cases e8 : y = 8
  · subst e8
    refine v_tsi hC dX11_count_1 (by decide) (by decide) (off := 136) (by rfl) (tgt := 137) (by decide) ?_
    refine v_aload_n hC dX11_count_137 rfl rfl ?_
    refine cVi0 hC (c_X11_allPaid hW ht hA hK hP) yv_X11_allPaid rfl ht mw_6_35 ⟨Nat.le_of_ble_eq_true rfl, Nat.le_of_ble_eq_true rfl⟩ ⟨Nat.le_of_ble_eq_true rfl, Nat.le_of_ble_eq_true rfl⟩ (Nat.le_of_ble_eq_true rfl) dX11_count_138 (fun r138 M140 hq => ?_)
    obtain ⟨rfl, hm⟩ := hq
    have hm2 := hm.symm
    clear hm
    subst hm2
    refine v_iret hC dX11_count_141 ?_
    exact ⟨((if_neg (by decide)).trans ((if_neg (by decide)).trans ((if_neg (by decide)).trans ((if_neg (by decide)).trans ((if_neg (by decide)).trans ((if_neg (by decide)).trans ((if_neg (by decide)).trans ((if_neg (by decide)).trans (if_pos rfl))))))))).symm, Bd.rf⟩
  by_cases e9 : y = 9
  · subst e9
    refine v_tsi hC dX11_count_1 (by decide) (by decide) (off := 141) (by rfl) (tgt := 142) (by decide) ?_
    refine v_aload_n hC dX11_count_142 rfl rfl ?_
    refine v_iconst (v := 0) hC dX11_count_143 (by decide) ?_
    refine v_iconst (v := 2) hC dX11_count_144 (by decide) ?_
    refine v_iconst (v := 2) hC dX11_count_145 (by decide) ?_
    refine cVi3 hC (c_X11_sum_nt hW ht hA hS hT) yv_X11_sum rfl ht mw_6_27 ⟨Nat.le_of_ble_eq_true rfl, Nat.le_of_ble_eq_true rfl⟩ ⟨Nat.le_of_ble_eq_true rfl, Nat.le_of_ble_eq_true rfl⟩ (Nat.le_of_ble_eq_true rfl) dX11_count_146 (fun r146 M148 hq => ?_)
    obtain ⟨rfl, hm⟩ := hq
    have hm2 := hm.symm
    clear hm
    subst hm2
    refine v_iret hC dX11_count_149 ?_
    exact ⟨((if_neg (by decide)).trans ((if_neg (by decide)).trans ((if_neg (by decide)).trans ((if_neg (by decide)).trans ((if_neg (by decide)).trans ((if_neg (by decide)).trans ((if_neg (by decide)).trans ((if_neg (by decide)).trans ((if_neg (by decide)).trans (if_pos rfl)))))))))).symm, Bd.rf⟩
  by_cases e10 : y = 10
  · subst e10
    refine v_tsi hC dX11_count_1 (by decide) (by decide) (off := 159) (by rfl) (tgt := 160) (by decide) ?_
    refine v_iload_n hC dX11_count_160 rfl rfl ?_
    refine v_bipush (v := 10) hC dX11_count_161 (by decide) ?_
    refine v_bipush (v := 14) hC dX11_count_163 (by decide) ?_
    refine cSi3 hC (c_X11_in ) ys_X11_in mw_4_181 ⟨Nat.le_of_ble_eq_true rfl, Nat.le_of_ble_eq_true rfl⟩ ⟨Nat.le_of_ble_eq_true rfl, Nat.le_of_ble_eq_true rfl⟩ (Nat.le_of_ble_eq_true rfl) dX11_count_165 (fun r165 M167 hq => ?_)
    obtain ⟨hm, hq2⟩ := hq
    have hm2 := hm.symm
    clear hm
    subst hm2
    obtain ⟨g165, rfl⟩ | ⟨g165, rfl⟩ := hq2
    · refine v_if_eq hC dX11_count_168 (tgt := 182) (by decide) (fun hx => absurd hx (by decide)) (fun _ => ?_)
      refine v_aload_n hC dX11_count_171 rfl rfl ?_
      refine v_iload_n hC dX11_count_172 rfl rfl ?_
      refine v_bipush (v := 10) hC dX11_count_173 (by decide) ?_
      refine v_isub hC dX11_count_175 ?_
      first
        | rw [show (10 : Int32) - 10 = 0 from by decide]
        | rw [show (11 : Int32) - 10 = 1 from by decide]
        | rw [show (12 : Int32) - 10 = 2 from by decide]
        | rw [show (13 : Int32) - 10 = 3 from by decide]
        | rw [show (14 : Int32) - 10 = 4 from by decide]
        | skip
      refine cVi1 hC (c_X11_allInWay hW ht hA) yv_X11_allInWay rfl ht mw_6_39 ⟨Nat.le_of_ble_eq_true rfl, Nat.le_of_ble_eq_true rfl⟩ ⟨Nat.le_of_ble_eq_true rfl, Nat.le_of_ble_eq_true rfl⟩ (Nat.le_of_ble_eq_true rfl) dX11_count_176 (fun r176 M178 hq => ?_)
      obtain ⟨rfl, hm⟩ := hq
      have hm2 := hm.symm
      clear hm
      subst hm2
      refine v_goto hC dX11_count_179 (tgt := 184) (by decide) ?_
      refine v_iret hC dX11_count_184 ?_
      exact ⟨((if_neg (by decide)).trans ((if_neg (by decide)).trans ((if_neg (by decide)).trans ((if_neg (by decide)).trans ((if_neg (by decide)).trans ((if_neg (by decide)).trans ((if_neg (by decide)).trans ((if_neg (by decide)).trans ((if_neg (by decide)).trans ((if_neg (by decide)).trans (if_pos rfl))))))))))).symm, Bd.rf⟩
    · refine v_if_eq hC dX11_count_168 (tgt := 182) (by decide) (fun _ => ?_) (fun hx => absurd hx (by decide))
      refine v_bipush (v := (-2)) hC dX11_count_182 (by decide) ?_
      refine v_iret hC dX11_count_184 ?_
      exact absurd (by decide) g165
  by_cases e11 : y = 11
  · subst e11
    refine v_tsi hC dX11_count_1 (by decide) (by decide) (off := 159) (by rfl) (tgt := 160) (by decide) ?_
    refine v_iload_n hC dX11_count_160 rfl rfl ?_
    refine v_bipush (v := 10) hC dX11_count_161 (by decide) ?_
    refine v_bipush (v := 14) hC dX11_count_163 (by decide) ?_
    refine cSi3 hC (c_X11_in ) ys_X11_in mw_4_181 ⟨Nat.le_of_ble_eq_true rfl, Nat.le_of_ble_eq_true rfl⟩ ⟨Nat.le_of_ble_eq_true rfl, Nat.le_of_ble_eq_true rfl⟩ (Nat.le_of_ble_eq_true rfl) dX11_count_165 (fun r165 M167 hq => ?_)
    obtain ⟨hm, hq2⟩ := hq
    have hm2 := hm.symm
    clear hm
    subst hm2
    obtain ⟨g165, rfl⟩ | ⟨g165, rfl⟩ := hq2
    · refine v_if_eq hC dX11_count_168 (tgt := 182) (by decide) (fun hx => absurd hx (by decide)) (fun _ => ?_)
      refine v_aload_n hC dX11_count_171 rfl rfl ?_
      refine v_iload_n hC dX11_count_172 rfl rfl ?_
      refine v_bipush (v := 10) hC dX11_count_173 (by decide) ?_
      refine v_isub hC dX11_count_175 ?_
      first
        | rw [show (10 : Int32) - 10 = 0 from by decide]
        | rw [show (11 : Int32) - 10 = 1 from by decide]
        | rw [show (12 : Int32) - 10 = 2 from by decide]
        | rw [show (13 : Int32) - 10 = 3 from by decide]
        | rw [show (14 : Int32) - 10 = 4 from by decide]
        | skip
      refine cVi1 hC (c_X11_allInWay hW ht hA) yv_X11_allInWay rfl ht mw_6_39 ⟨Nat.le_of_ble_eq_true rfl, Nat.le_of_ble_eq_true rfl⟩ ⟨Nat.le_of_ble_eq_true rfl, Nat.le_of_ble_eq_true rfl⟩ (Nat.le_of_ble_eq_true rfl) dX11_count_176 (fun r176 M178 hq => ?_)
      obtain ⟨rfl, hm⟩ := hq
      have hm2 := hm.symm
      clear hm
      subst hm2
      refine v_goto hC dX11_count_179 (tgt := 184) (by decide) ?_
      refine v_iret hC dX11_count_184 ?_
      exact ⟨((if_neg (by decide)).trans ((if_neg (by decide)).trans ((if_neg (by decide)).trans ((if_neg (by decide)).trans ((if_neg (by decide)).trans ((if_neg (by decide)).trans ((if_neg (by decide)).trans ((if_neg (by decide)).trans ((if_neg (by decide)).trans ((if_neg (by decide)).trans ((if_neg (by decide)).trans (if_pos rfl)))))))))))).symm, Bd.rf⟩
    · refine v_if_eq hC dX11_count_168 (tgt := 182) (by decide) (fun _ => ?_) (fun hx => absurd hx (by decide))
      refine v_bipush (v := (-2)) hC dX11_count_182 (by decide) ?_
      refine v_iret hC dX11_count_184 ?_
      exact absurd (by decide) g165
  by_cases e12 : y = 12
  · subst e12
    refine v_tsi hC dX11_count_1 (by decide) (by decide) (off := 159) (by rfl) (tgt := 160) (by decide) ?_
    refine v_iload_n hC dX11_count_160 rfl rfl ?_
    refine v_bipush (v := 10) hC dX11_count_161 (by decide) ?_
    refine v_bipush (v := 14) hC dX11_count_163 (by decide) ?_
    refine cSi3 hC (c_X11_in ) ys_X11_in mw_4_181 ⟨Nat.le_of_ble_eq_true rfl, Nat.le_of_ble_eq_true rfl⟩ ⟨Nat.le_of_ble_eq_true rfl, Nat.le_of_ble_eq_true rfl⟩ (Nat.le_of_ble_eq_true rfl) dX11_count_165 (fun r165 M167 hq => ?_)
    obtain ⟨hm, hq2⟩ := hq
    have hm2 := hm.symm
    clear hm
    subst hm2
    obtain ⟨g165, rfl⟩ | ⟨g165, rfl⟩ := hq2
    · refine v_if_eq hC dX11_count_168 (tgt := 182) (by decide) (fun hx => absurd hx (by decide)) (fun _ => ?_)
      refine v_aload_n hC dX11_count_171 rfl rfl ?_
      refine v_iload_n hC dX11_count_172 rfl rfl ?_
      refine v_bipush (v := 10) hC dX11_count_173 (by decide) ?_
      refine v_isub hC dX11_count_175 ?_
      first
        | rw [show (10 : Int32) - 10 = 0 from by decide]
        | rw [show (11 : Int32) - 10 = 1 from by decide]
        | rw [show (12 : Int32) - 10 = 2 from by decide]
        | rw [show (13 : Int32) - 10 = 3 from by decide]
        | rw [show (14 : Int32) - 10 = 4 from by decide]
        | skip
      refine cVi1 hC (c_X11_allInWay hW ht hA) yv_X11_allInWay rfl ht mw_6_39 ⟨Nat.le_of_ble_eq_true rfl, Nat.le_of_ble_eq_true rfl⟩ ⟨Nat.le_of_ble_eq_true rfl, Nat.le_of_ble_eq_true rfl⟩ (Nat.le_of_ble_eq_true rfl) dX11_count_176 (fun r176 M178 hq => ?_)
      obtain ⟨rfl, hm⟩ := hq
      have hm2 := hm.symm
      clear hm
      subst hm2
      refine v_goto hC dX11_count_179 (tgt := 184) (by decide) ?_
      refine v_iret hC dX11_count_184 ?_
      exact ⟨((if_neg (by decide)).trans ((if_neg (by decide)).trans ((if_neg (by decide)).trans ((if_neg (by decide)).trans ((if_neg (by decide)).trans ((if_neg (by decide)).trans ((if_neg (by decide)).trans ((if_neg (by decide)).trans ((if_neg (by decide)).trans ((if_neg (by decide)).trans ((if_neg (by decide)).trans ((if_neg (by decide)).trans (if_pos rfl))))))))))))).symm, Bd.rf⟩
    · refine v_if_eq hC dX11_count_168 (tgt := 182) (by decide) (fun _ => ?_) (fun hx => absurd hx (by decide))
      refine v_bipush (v := (-2)) hC dX11_count_182 (by decide) ?_
      refine v_iret hC dX11_count_184 ?_
      exact absurd (by decide) g165
  by_cases e13 : y = 13
  · subst e13
    refine v_tsi hC dX11_count_1 (by decide) (by decide) (off := 159) (by rfl) (tgt := 160) (by decide) ?_
    refine v_iload_n hC dX11_count_160 rfl rfl ?_
    refine v_bipush (v := 10) hC dX11_count_161 (by decide) ?_
    refine v_bipush (v := 14) hC dX11_count_163 (by decide) ?_
    refine cSi3 hC (c_X11_in ) ys_X11_in mw_4_181 ⟨Nat.le_of_ble_eq_true rfl, Nat.le_of_ble_eq_true rfl⟩ ⟨Nat.le_of_ble_eq_true rfl, Nat.le_of_ble_eq_true rfl⟩ (Nat.le_of_ble_eq_true rfl) dX11_count_165 (fun r165 M167 hq => ?_)
    obtain ⟨hm, hq2⟩ := hq
    have hm2 := hm.symm
    clear hm
    subst hm2
    obtain ⟨g165, rfl⟩ | ⟨g165, rfl⟩ := hq2
    · refine v_if_eq hC dX11_count_168 (tgt := 182) (by decide) (fun hx => absurd hx (by decide)) (fun _ => ?_)
      refine v_aload_n hC dX11_count_171 rfl rfl ?_
      refine v_iload_n hC dX11_count_172 rfl rfl ?_
      refine v_bipush (v := 10) hC dX11_count_173 (by decide) ?_
      refine v_isub hC dX11_count_175 ?_
      first
        | rw [show (10 : Int32) - 10 = 0 from by decide]
        | rw [show (11 : Int32) - 10 = 1 from by decide]
        | rw [show (12 : Int32) - 10 = 2 from by decide]
        | rw [show (13 : Int32) - 10 = 3 from by decide]
        | rw [show (14 : Int32) - 10 = 4 from by decide]
        | skip
      refine cVi1 hC (c_X11_allInWay hW ht hA) yv_X11_allInWay rfl ht mw_6_39 ⟨Nat.le_of_ble_eq_true rfl, Nat.le_of_ble_eq_true rfl⟩ ⟨Nat.le_of_ble_eq_true rfl, Nat.le_of_ble_eq_true rfl⟩ (Nat.le_of_ble_eq_true rfl) dX11_count_176 (fun r176 M178 hq => ?_)
      obtain ⟨rfl, hm⟩ := hq
      have hm2 := hm.symm
      clear hm
      subst hm2
      refine v_goto hC dX11_count_179 (tgt := 184) (by decide) ?_
      refine v_iret hC dX11_count_184 ?_
      exact ⟨((if_neg (by decide)).trans ((if_neg (by decide)).trans ((if_neg (by decide)).trans ((if_neg (by decide)).trans ((if_neg (by decide)).trans ((if_neg (by decide)).trans ((if_neg (by decide)).trans ((if_neg (by decide)).trans ((if_neg (by decide)).trans ((if_neg (by decide)).trans ((if_neg (by decide)).trans ((if_neg (by decide)).trans ((if_neg (by decide)).trans (if_pos rfl)))))))))))))).symm, Bd.rf⟩
    · refine v_if_eq hC dX11_count_168 (tgt := 182) (by decide) (fun _ => ?_) (fun hx => absurd hx (by decide))
      refine v_bipush (v := (-2)) hC dX11_count_182 (by decide) ?_
      refine v_iret hC dX11_count_184 ?_
      exact absurd (by decide) g165
  by_cases e14 : y = 14
  · subst e14
    refine v_tsi hC dX11_count_1 (by decide) (by decide) (off := 159) (by rfl) (tgt := 160) (by decide) ?_
    refine v_iload_n hC dX11_count_160 rfl rfl ?_
    refine v_bipush (v := 10) hC dX11_count_161 (by decide) ?_
    refine v_bipush (v := 14) hC dX11_count_163 (by decide) ?_
    refine cSi3 hC (c_X11_in ) ys_X11_in mw_4_181 ⟨Nat.le_of_ble_eq_true rfl, Nat.le_of_ble_eq_true rfl⟩ ⟨Nat.le_of_ble_eq_true rfl, Nat.le_of_ble_eq_true rfl⟩ (Nat.le_of_ble_eq_true rfl) dX11_count_165 (fun r165 M167 hq => ?_)
    obtain ⟨hm, hq2⟩ := hq
    have hm2 := hm.symm
    clear hm
    subst hm2
    obtain ⟨g165, rfl⟩ | ⟨g165, rfl⟩ := hq2
    · refine v_if_eq hC dX11_count_168 (tgt := 182) (by decide) (fun hx => absurd hx (by decide)) (fun _ => ?_)
      refine v_aload_n hC dX11_count_171 rfl rfl ?_
      refine v_iload_n hC dX11_count_172 rfl rfl ?_
      refine v_bipush (v := 10) hC dX11_count_173 (by decide) ?_
      refine v_isub hC dX11_count_175 ?_
      first
        | rw [show (10 : Int32) - 10 = 0 from by decide]
        | rw [show (11 : Int32) - 10 = 1 from by decide]
        | rw [show (12 : Int32) - 10 = 2 from by decide]
        | rw [show (13 : Int32) - 10 = 3 from by decide]
        | rw [show (14 : Int32) - 10 = 4 from by decide]
        | skip
      refine cVi1 hC (c_X11_allInWay hW ht hA) yv_X11_allInWay rfl ht mw_6_39 ⟨Nat.le_of_ble_eq_true rfl, Nat.le_of_ble_eq_true rfl⟩ ⟨Nat.le_of_ble_eq_true rfl, Nat.le_of_ble_eq_true rfl⟩ (Nat.le_of_ble_eq_true rfl) dX11_count_176 (fun r176 M178 hq => ?_)
      obtain ⟨rfl, hm⟩ := hq
      have hm2 := hm.symm
      clear hm
      subst hm2
      refine v_goto hC dX11_count_179 (tgt := 184) (by decide) ?_
      refine v_iret hC dX11_count_184 ?_
      exact ⟨((if_neg (by decide)).trans ((if_neg (by decide)).trans ((if_neg (by decide)).trans ((if_neg (by decide)).trans ((if_neg (by decide)).trans ((if_neg (by decide)).trans ((if_neg (by decide)).trans ((if_neg (by decide)).trans ((if_neg (by decide)).trans ((if_neg (by decide)).trans ((if_neg (by decide)).trans ((if_neg (by decide)).trans ((if_neg (by decide)).trans ((if_neg (by decide)).trans (if_pos rfl))))))))))))))).symm, Bd.rf⟩
    · refine v_if_eq hC dX11_count_168 (tgt := 182) (by decide) (fun _ => ?_) (fun hx => absurd hx (by decide))
      refine v_bipush (v := (-2)) hC dX11_count_182 (by decide) ?_
      refine v_iret hC dX11_count_184 ?_
      exact absurd (by decide) g165
  by_cases e15 : y = 15
  · subst e15
    refine v_tsi hC dX11_count_1 (by decide) (by decide) (off := 149) (by rfl) (tgt := 150) (by decide) ?_
    refine v_aload_n hC dX11_count_150 rfl rfl ?_
    refine gf_11_3 hC ht mw_4_123 dX11_count_151 ?_
    rw [hst]
    refine v_iret hC dX11_count_154 ?_
    exact ⟨((if_neg (by decide)).trans ((if_neg (by decide)).trans ((if_neg (by decide)).trans ((if_neg (by decide)).trans ((if_neg (by decide)).trans ((if_neg (by decide)).trans ((if_neg (by decide)).trans ((if_neg (by decide)).trans ((if_neg (by decide)).trans ((if_neg (by decide)).trans ((if_neg (by decide)).trans ((if_neg (by decide)).trans ((if_neg (by decide)).trans ((if_neg (by decide)).trans ((if_neg (by decide)).trans (if_pos rfl)))))))))))))))).symm, Bd.rf⟩
  by_cases e16 : y = 16
  · subst e16
    refine v_tsi hC dX11_count_1 (by decide) (by decide) (off := 154) (by rfl) (tgt := 155) (by decide) ?_
    refine v_aload_n hC dX11_count_155 rfl rfl ?_
    refine gf_11_6 hC ht mw_4_126 dX11_count_156 ?_
    rw [hle]
    refine v_iret hC dX11_count_159 ?_
    exact ⟨((if_neg (by decide)).trans ((if_neg (by decide)).trans ((if_neg (by decide)).trans ((if_neg (by decide)).trans ((if_neg (by decide)).trans ((if_neg (by decide)).trans ((if_neg (by decide)).trans ((if_neg (by decide)).trans ((if_neg (by decide)).trans ((if_neg (by decide)).trans ((if_neg (by decide)).trans ((if_neg (by decide)).trans ((if_neg (by decide)).trans ((if_neg (by decide)).trans ((if_neg (by decide)).trans ((if_neg (by decide)).trans (if_pos rfl))))))))))))))))).symm, Bd.rf⟩
  have hout : y.toInt < 0 ∨ 16 < y.toInt := by
    have q0 := lv_neT e0 (a := 0) rfl
    have q1 := lv_neT e1 (a := 1) rfl
    have q2 := lv_neT e2 (a := 2) rfl
    have q3 := lv_neT e3 (a := 3) rfl
    have q4 := lv_neT e4 (a := 4) rfl
    have q5 := lv_neT e5 (a := 5) rfl
    have q6 := lv_neT e6 (a := 6) rfl
    have q7 := lv_neT e7 (a := 7) rfl
    have q8 := lv_neT e8 (a := 8) rfl
    have q9 := lv_neT e9 (a := 9) rfl
    have q10 := lv_neT e10 (a := 10) rfl
    have q11 := lv_neT e11 (a := 11) rfl
    have q12 := lv_neT e12 (a := 12) rfl
    have q13 := lv_neT e13 (a := 13) rfl
    have q14 := lv_neT e14 (a := 14) rfl
    have q15 := lv_neT e15 (a := 15) rfl
    have q16 := lv_neT e16 (a := 16) rfl
    omega
  refine v_tso hC dX11_count_1 hout (tgt := 160) (by decide) ?_
  refine v_iload_n hC dX11_count_160 rfl rfl ?_
  refine v_bipush (v := 10) hC dX11_count_161 (by decide) ?_
  refine v_bipush (v := 14) hC dX11_count_163 (by decide) ?_
  refine cSi3 hC (c_X11_in ) ys_X11_in mw_4_181 ⟨Nat.le_of_ble_eq_true rfl, Nat.le_of_ble_eq_true rfl⟩ ⟨Nat.le_of_ble_eq_true rfl, Nat.le_of_ble_eq_true rfl⟩ (Nat.le_of_ble_eq_true rfl) dX11_count_165 (fun r165 M167 hq => ?_)
  obtain ⟨hm, hq2⟩ := hq
  have hm2 := hm.symm
  clear hm
  subst hm2
  obtain ⟨g165, rfl⟩ | ⟨g165, rfl⟩ := hq2
  · refine v_if_eq hC dX11_count_168 (tgt := 182) (by decide) (fun hx => absurd hx (by decide)) (fun _ => ?_)
    refine v_aload_n hC dX11_count_171 rfl rfl ?_
    refine v_iload_n hC dX11_count_172 rfl rfl ?_
    refine v_bipush (v := 10) hC dX11_count_173 (by decide) ?_
    refine v_isub hC dX11_count_175 ?_
    first
      | rw [show (10 : Int32) - 10 = 0 from by decide]
      | rw [show (11 : Int32) - 10 = 1 from by decide]
      | rw [show (12 : Int32) - 10 = 2 from by decide]
      | rw [show (13 : Int32) - 10 = 3 from by decide]
      | rw [show (14 : Int32) - 10 = 4 from by decide]
      | skip
    refine cVi1 hC (c_X11_allInWay hW ht hA) yv_X11_allInWay rfl ht mw_6_39 ⟨Nat.le_of_ble_eq_true rfl, Nat.le_of_ble_eq_true rfl⟩ ⟨Nat.le_of_ble_eq_true rfl, Nat.le_of_ble_eq_true rfl⟩ (Nat.le_of_ble_eq_true rfl) dX11_count_176 (fun r176 M178 hq => ?_)
    obtain ⟨rfl, hm⟩ := hq
    have hm2 := hm.symm
    clear hm
    subst hm2
    refine v_goto hC dX11_count_179 (tgt := 184) (by decide) ?_
    refine v_iret hC dX11_count_184 ?_
    exfalso
    obtain ⟨k1, k2⟩ := g165
    have q1 : ¬ y.toInt < 10 := fun q => k1 (Int32.lt_iff_toInt_lt.mpr q)
    have q2 : ¬ 14 < y.toInt := fun q => k2 (Int32.lt_iff_toInt_lt.mpr q)
    omega
  · refine v_if_eq hC dX11_count_168 (tgt := 182) (by decide) (fun _ => ?_) (fun hx => absurd hx (by decide))
    refine v_bipush (v := (-2)) hC dX11_count_182 (by decide) ?_
    refine v_iret hC dX11_count_184 ?_
    exact ⟨((if_neg e0).trans ((if_neg e1).trans ((if_neg e2).trans ((if_neg e3).trans ((if_neg e4).trans ((if_neg e5).trans ((if_neg e6).trans ((if_neg e7).trans ((if_neg e8).trans ((if_neg e9).trans ((if_neg e10).trans ((if_neg e11).trans ((if_neg e12).trans ((if_neg e13).trans ((if_neg e14).trans ((if_neg e15).trans (if_neg e16))))))))))))))))).symm, Bd.rf⟩
