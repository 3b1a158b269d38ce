theorem BR.bx {M M2 : Me} {h n : Nat} {x : Xs} (b : BR M h n x) (y : Bx M M2) : BR M2 h n x := by
  obtain ⟨f, rfl⟩ := y
  obtain ⟨b1, b2, ⟨b3, b4, b5⟩, b6, b7, b8⟩ := b
  exact ⟨b1, b2.sc, ⟨b3, by rw [sc_i (by decide)]; exact b4, fun j hj => (b5 j hj).sc⟩, by rw [sc_i (by decide)]; exact b6, b7, fun e => (b8 e).sc⟩
theorem TX.bx {M M2 : Me} {n t : Nat} {c : Nat → Int32} (x : TX M n t c) (y : Bx M M2) : TX M2 n t c := by
  obtain ⟨f, rfl⟩ := y
  exact ⟨x.1, by rw [sc_i (by decide)]; exact x.2.1, fun j hj => by rw [sc_i (by decide)]; exact x.2.2 j hj⟩
theorem Wt.bx {M M2 : Me} (x : Wt M) (y : Bx M M2) : Wt M2 := by
  obtain ⟨f, rfl⟩ := y
  exact x.sc
theorem Bw.x {M M2 : Me} (h : Bw M M2) : Bx M M2 := h.1
def beN (f : Nat → Int32) (n : Nat) : Int32 := if 0 < bm f n then eN (fsN (fun e => decide (f e = bm f n)) n) else -5
theorem bE.n {f : Nat → Int32} {n : Nat} {r : Int32} (h : bE f n r) : r = beN f n := by
  unfold beN
  rcases h with ⟨h1, h2⟩ | ⟨h1, h2⟩
  · rw [if_pos h1]; exact h2.fs (fun j _ => ⟨fun q => decide_eq_true q, fun q => of_decide_eq_true q⟩)
  · rw [if_neg h1]; exact h2
def T_aw (u : Si) (b f : Nat) : Int32 := if iH u f then wbn u f b else 0
def e_person (u : Si) (x y : Int32) : Int32 := match inN x (n_p u) with
  | none => -1
  | some p => if y = 0 then q_i u 1 p 0 else if y = 1 then q_i u 2 p 0 else if y = 2 then sm (T_ct u (nI p)) (n_f u) else if y = 3 then sm (T_cr u (nI p)) (n_f u) else if y = 4 then sm (T_wt u (nI p)) (n_f u) else if y = 5 then sm (T_wr u (nI p)) (n_f u) else if y = 6 then 2 * sm (T_wr u (nI p)) (n_f u) + sm (T_pt u (nI p)) (n_f u) else if y = 7 then q_i u 3 p 0 else -2
def e_segment (u : Si) (x y z : Int32) : Int32 := match inN x (n_f u) with
  | none => -1
  | some f => match inN y (n_s u f) with
    | none => -1
    | some s => if z = 0 then nI (q_g u 0 f s).length else if z = 1 then (if q_i u 9 f s = 0 then -5 else q_i u 9 f s) else if z = 2 then q_i u 10 f s else if z = 3 then mtv u f s else if z = 4 then beN (fun e => mtc (q_g u 0 f s) (q_g u 1 e 0)) (n_e u) else if z = 5 then (if iH u f then bnd u f s else -5) else if z = 6 then nrv u f s else -2
def e_charAt (u : Si) (x y z : Int32) : Int32 := match inN x (n_f u) with
  | none => -1
  | some f => match inN y (n_s u f) with
    | none => -1
    | some s => if z < 0 then -2 else match inN z (txS (q_g u 0 f s)).length with
      | some i => nI ((txS (q_g u 0 f s)).getD i 0)
      | none => -5
def e_distance (u : Si) (x y z : Int32) : Int32 := match inN x (n_f u) with
  | none => -1
  | some f => match inN y (n_s u f) with
    | none => -1
    | some s => match inN z (n_e u) with
      | none => -1
      | some e => nI (dst (q_g u 0 f s) (q_g u 1 e 0))
def e_wordsIn (u : Si) (x y : Int32) : Int32 := match inN x (n_f u) with
  | none => -1
  | some f => match inN y 6 with
    | none => -2
    | some b => if iH u f then wbn u f b else -5
def e_allWords (u : Si) (y : Int32) : Int32 := match inN y 6 with
  | none => -2
  | some b => sm (T_aw u b) (n_f u)
def e_price (u : Si) (x y : Int32) : Int32 := match inN x (n_f u), inN y (n_p u) with
  | some f, some p => if iH u f then prc u f (q_i u 1 p 0) else -5
  | _, _ => -1
def e_firstReviewer (u : Si) (x : Int32) : Int32 := match inN x (n_f u) with
  | none => -1
  | some f => eN (fsN (fun p => myB u f (nI p)) (n_p u))
def e_entry (u : Si) (x y : Int32) : Int32 := match inN x (n_e u) with
  | none => -1
  | some e => if y = 0 then nI (q_g u 1 e 0).length else if y = 1 then q_i u 11 e 0 else if y = 2 then (if q_i u 12 e 0 = 0 then 0 else 1) else if y = 3 then eN (opN u (nI e)) else if y = 4 then sm (T_al u (q_g u 1 e 0)) (n_f u) else -2
def e_dispute (u : Si) (x y : Int32) : Int32 := match inN x (n_d u) with
  | none => -1
  | some d => if y = 0 then q_i u 13 d 0 else if y = 1 then q_i u 14 d 0 else if y = 2 then q_i u 15 d 0 else if y = 3 then (if q_i u 16 d 0 = 0 then 0 else 1) else if y = 4 then (if q_i u 16 d 0 = 0 then -5 else q_i u 16 d 0) else -2
def e_fileAt (u : Si) (x : Int32) : Int32 := if x < 0 then -2 else match inN x (n_f u) with
  | some j => q_i u 17 0 j
  | none => -5
def e_count (u : Si) (hn t : Nat) (y : Int32) : Int32 := if y = 0 then nI (n_f u) else if y = 1 then sm (T_ih u) (n_f u) else if y = 2 then nI (n_p u) else if y = 3 then nI (n_e u) else if y = 4 then nI (n_d u) else if y = 5 then sm (T_od u) (n_d u) else if y = 6 then sm (T_wi u) (n_f u) else if y = 7 then sm (T_wd u) (n_f u) else if y = 8 then sm (T_pd u) (n_f u) else if y = 9 then sm (T_nt u) (n_f u) else if y = 10 then sm (y_f u 0) (n_f u) else if y = 11 then sm (y_f u 1) (n_f u) else if y = 12 then sm (y_f u 2) (n_f u) else if y = 13 then sm (y_f u 3) (n_f u) else if y = 14 then sm (y_f u 4) (n_f u) else if y = 15 then nI hn else if y = 16 then nI t else -2
set_option maxHeartbeats 4000000 in
set_option maxRecDepth 100000 in
theorem c_X10_person {l : Launch} {G : Gd} {M : Me} {h n : Nat} {x : Xs} {y z : Int32} (hW : Wt M) (hB : BR M h n x) : CQ (Qi G (fun r M2 => r = e_person (x_u x) y z ∧ Bx M M2)) l G yX10_person cX10_person 3 ((some .int)) 3 68 0 0 [.ref h, .int y, .int z] M := by
  refine c_of ([some (.ref h), some (.int y), some (.int z)] : Lo) RX10 "person" (by decide) rfl rfl (Nat.le_of_ble_eq_true rfl) rfl (fun p e s m below meth c hC nw => ?_)
  have hR := hB.2.1
  have hnn := hB.1.1.2.2.2.2.2.2
  have hu := hR.2.1
  have u1 := hu.1
  have u2 := hu.2.1
  have u3 := hu.2.2.1
  have u4 := hu.2.2.2.1
  refine v_aload_n hC dX10_person_0 rfl rfl ?_
  refine gf_10_1 hC hB.1.1.1 (wf_261 hW hB.1.1.1) mw_2_79 dX10_person_1 ?_
  first | rw [hB.1.2.1.2.1] | erw [hB.1.2.1.2.1]
  refine v_iload_n hC dX10_person_4 rfl rfl ?_
  refine cVi1 hC (c_X7_hasPerson hR.1.1.1 hR.2.2.2.1.2.1 hu.2.1) yv_X7_hasPerson rfl hB.1.2.2.1.1.1.1 mw_2_143 ⟨Nat.le_of_ble_eq_true rfl, Nat.le_of_ble_eq_true rfl⟩ ⟨Nat.le_of_ble_eq_true rfl, Nat.le_of_ble_eq_true rfl⟩ (Nat.le_of_ble_eq_true rfl) dX10_person_5 (fun r5 M7 hq => ?_)
  obtain ⟨hm, hq2⟩ := hq
  have hm2 := hm.symm
  clear hm
  subst hm2
  obtain ⟨g5, rfl⟩ | ⟨g5, rfl⟩ := hq2
  · refine v_if_ne hC dX10_person_8 (tgt := 13) (by decide) (fun _ => ?_) (fun hx => absurd hx (by decide))
    obtain ⟨p0, hp, rfl⟩ := g5
    have hp6 : p0 < 6 := by omega
    refine v_iload_n hC dX10_person_13 rfl rfl ?_
    by_cases e0 : z = 0
    · subst e0
      refine v_tsi hC dX10_person_14 (by decide) (by decide) (off := 46) (by rfl) (tgt := 60) (by decide) ?_
      refine v_aload_n hC dX10_person_60 rfl rfl ?_
      refine gf_10_1 hC hB.1.1.1 (wf_261 hW hB.1.1.1) mw_2_79 dX10_person_61 ?_
      first | rw [hB.1.2.1.2.1] | erw [hB.1.2.1.2.1]
      refine gf_7_1 hC hB.1.2.2.1.1.1.1 (wf_213 hW hB.1.2.2.1.1.1.1) mw_2_31 dX10_person_64 ?_
      refine v_iload_n hC dX10_person_67 rfl rfl ?_
      refine v_aald 50 _ hC (wf_213 hW hB.1.2.2.1.1.1.1) (by decide) rfl (ix_c (wz_50 hW (wf_213 hW hR.1.1.1)) hp6) (we_50 hW (wf_213 hW hB.1.2.2.1.1.1.1) (by omega)) dX10_person_68 ?_
      rw [ly_P2 hR.1 hp6]
      refine gf_5_0 hC (by rw [← ly_P2 hR.1 hp6]; exact we_50 hW (wf_213 hW hR.1.1.1) hp6) mw_1_104 dX10_person_69 ?_
      rw [(hR.pe2 hp).1]
      refine v_iret hC dX10_person_72 ?_
      exact ⟨by rw [e_person, inN_s hp]; exact (if_pos rfl).symm, Bx.rf⟩
    by_cases e1 : z = 1
    · subst e1
      refine v_tsi hC dX10_person_14 (by decide) (by decide) (off := 59) (by rfl) (tgt := 73) (by decide) ?_
      refine v_aload_n hC dX10_person_73 rfl rfl ?_
      refine gf_10_1 hC hB.1.1.1 (wf_261 hW hB.1.1.1) mw_2_79 dX10_person_74 ?_
      first | rw [hB.1.2.1.2.1] | erw [hB.1.2.1.2.1]
      refine gf_7_1 hC hB.1.2.2.1.1.1.1 (wf_213 hW hB.1.2.2.1.1.1.1) mw_2_31 dX10_person_77 ?_
      refine v_iload_n hC dX10_person_80 rfl rfl ?_
      refine v_aald 50 _ hC (wf_213 hW hB.1.2.2.1.1.1.1) (by decide) rfl (ix_c (wz_50 hW (wf_213 hW hR.1.1.1)) hp6) (we_50 hW (wf_213 hW hB.1.2.2.1.1.1.1) (by omega)) dX10_person_81 ?_
      rw [ly_P2 hR.1 hp6]
      refine gf_5_1 hC (by rw [← ly_P2 hR.1 hp6]; exact we_50 hW (wf_213 hW hR.1.1.1) hp6) mw_1_106 dX10_person_82 ?_
      rw [(hR.pe2 hp).2.1]
      refine v_iret hC dX10_person_85 ?_
      exact ⟨by rw [e_person, inN_s hp]; exact ((if_neg (by decide)).trans (if_pos rfl)).symm, Bx.rf⟩
    by_cases e2 : z = 2
    · subst e2
      refine v_tsi hC dX10_person_14 (by decide) (by decide) (off := 72) (by rfl) (tgt := 86) (by decide) ?_
      refine v_aload_n hC dX10_person_86 rfl rfl ?_
      refine gf_10_1 hC hB.1.1.1 (wf_261 hW hB.1.1.1) mw_2_79 dX10_person_87 ?_
      first | rw [hB.1.2.1.2.1] | erw [hB.1.2.1.2.1]
      refine v_iload_n hC dX10_person_90 rfl rfl ?_
      refine cVi1 hC (c_X7_countTranslating hW hR.1.1.1 hR) yv_X7_countTranslating rfl hB.1.2.2.1.1.1.1 mw_3_214 ⟨Nat.le_of_ble_eq_true rfl, Nat.le_of_ble_eq_true rfl⟩ ⟨Nat.le_of_ble_eq_true rfl, Nat.le_of_ble_eq_true rfl⟩ (Nat.le_of_ble_eq_true rfl) dX10_person_91 (fun r91 M93 hq => ?_)
      obtain ⟨rfl, hm⟩ := hq
      have hm2 := hm.symm
      clear hm
      subst hm2
      refine v_iret hC dX10_person_94 ?_
      exact ⟨by rw [e_person, inN_s hp]; exact ((if_neg (by decide)).trans ((if_neg (by decide)).trans (if_pos rfl))).symm, Bx.rf⟩
    by_cases e3 : z = 3
    · subst e3
      refine v_tsi hC dX10_person_14 (by decide) (by decide) (off := 81) (by rfl) (tgt := 95) (by decide) ?_
      refine v_aload_n hC dX10_person_95 rfl rfl ?_
      refine gf_10_1 hC hB.1.1.1 (wf_261 hW hB.1.1.1) mw_2_79 dX10_person_96 ?_
      first | rw [hB.1.2.1.2.1] | erw [hB.1.2.1.2.1]
      refine v_iload_n hC dX10_person_99 rfl rfl ?_
      refine cVi1 hC (c_X7_countReviewing hW hR.1.1.1 hR) yv_X7_countReviewing rfl hB.1.2.2.1.1.1.1 mw_3_222 ⟨Nat.le_of_ble_eq_true rfl, Nat.le_of_ble_eq_true rfl⟩ ⟨Nat.le_of_ble_eq_true rfl, Nat.le_of_ble_eq_true rfl⟩ (Nat.le_of_ble_eq_true rfl) dX10_person_100 (fun r100 M102 hq => ?_)
      obtain ⟨rfl, hm⟩ := hq
      have hm2 := hm.symm
      clear hm
      subst hm2
      refine v_iret hC dX10_person_103 ?_
      exact ⟨by rw [e_person, inN_s hp]; exact ((if_neg (by decide)).trans ((if_neg (by decide)).trans ((if_neg (by decide)).trans (if_pos rfl)))).symm, Bx.rf⟩
    by_cases e4 : z = 4
    · subst e4
      refine v_tsi hC dX10_person_14 (by decide) (by decide) (off := 90) (by rfl) (tgt := 104) (by decide) ?_
      refine v_aload_n hC dX10_person_104 rfl rfl ?_
      refine gf_10_1 hC hB.1.1.1 (wf_261 hW hB.1.1.1) mw_2_79 dX10_person_105 ?_
      first | rw [hB.1.2.1.2.1] | erw [hB.1.2.1.2.1]
      refine v_iload_n hC dX10_person_108 rfl rfl ?_
      refine cVi1 hC (c_X7_wordsTranslated hW hR.1.1.1 hR) yv_X7_wordsTranslated rfl hB.1.2.2.1.1.1.1 mw_3_230 ⟨Nat.le_of_ble_eq_true rfl, Nat.le_of_ble_eq_true rfl⟩ ⟨Nat.le_of_ble_eq_true rfl, Nat.le_of_ble_eq_true rfl⟩ (Nat.le_of_ble_eq_true rfl) dX10_person_109 (fun r109 M111 hq => ?_)
      obtain ⟨rfl, hm⟩ := hq
      have hm2 := hm.symm
      clear hm
      subst hm2
      refine v_iret hC dX10_person_112 ?_
      exact ⟨by rw [e_person, inN_s hp]; exact ((if_neg (by decide)).trans ((if_neg (by decide)).trans ((if_neg (by decide)).trans ((if_neg (by decide)).trans (if_pos rfl))))).symm, Bx.rf⟩
    by_cases e5 : z = 5
    · subst e5
      refine v_tsi hC dX10_person_14 (by decide) (by decide) (off := 99) (by rfl) (tgt := 113) (by decide) ?_
      refine v_aload_n hC dX10_person_113 rfl rfl ?_
      refine gf_10_1 hC hB.1.1.1 (wf_261 hW hB.1.1.1) mw_2_79 dX10_person_114 ?_
      first | rw [hB.1.2.1.2.1] | erw [hB.1.2.1.2.1]
      refine v_iload_n hC dX10_person_117 rfl rfl ?_
      refine cVi1 hC (c_X7_wordsReviewed hW hR.1.1.1 hR) yv_X7_wordsReviewed rfl hB.1.2.2.1.1.1.1 mw_3_235 ⟨Nat.le_of_ble_eq_true rfl, Nat.le_of_ble_eq_true rfl⟩ ⟨Nat.le_of_ble_eq_true rfl, Nat.le_of_ble_eq_true rfl⟩ (Nat.le_of_ble_eq_true rfl) dX10_person_118 (fun r118 M120 hq => ?_)
      obtain ⟨rfl, hm⟩ := hq
      have hm2 := hm.symm
      clear hm
      subst hm2
      refine v_iret hC dX10_person_121 ?_
      exact ⟨by rw [e_person, inN_s hp]; exact ((if_neg (by decide)).trans ((if_neg (by decide)).trans ((if_neg (by decide)).trans ((if_neg (by decide)).trans ((if_neg (by decide)).trans (if_pos rfl)))))).symm, Bx.rf⟩
    by_cases e6 : z = 6
    · subst e6
      refine v_tsi hC dX10_person_14 (by decide) (by decide) (off := 108) (by rfl) (tgt := 122) (by decide) ?_
      refine v_aload_n hC dX10_person_122 rfl rfl ?_
      refine gf_10_1 hC hB.1.1.1 (wf_261 hW hB.1.1.1) mw_2_79 dX10_person_123 ?_
      first | rw [hB.1.2.1.2.1] | erw [hB.1.2.1.2.1]
      refine v_iload_n hC dX10_person_126 rfl rfl ?_
      refine cVi1 hC (c_X7_paidTo hW hR.1.1.1 hR) yv_X7_paidTo rfl hB.1.2.2.1.1.1.1 mw_3_239 ⟨Nat.le_of_ble_eq_true rfl, Nat.le_of_ble_eq_true rfl⟩ ⟨Nat.le_of_ble_eq_true rfl, Nat.le_of_ble_eq_true rfl⟩ (Nat.le_of_ble_eq_true rfl) dX10_person_127 (fun r127 M129 hq => ?_)
      obtain ⟨rfl, hm⟩ := hq
      have hm2 := hm.symm
      clear hm
      subst hm2
      refine v_iret hC dX10_person_130 ?_
      exact ⟨by rw [e_person, inN_s hp]; exact ((if_neg (by decide)).trans ((if_neg (by decide)).trans ((if_neg (by decide)).trans ((if_neg (by decide)).trans ((if_neg (by decide)).trans ((if_neg (by decide)).trans (if_pos rfl))))))).symm, Bx.rf⟩
    by_cases e7 : z = 7
    · subst e7
      refine v_tsi hC dX10_person_14 (by decide) (by decide) (off := 117) (by rfl) (tgt := 131) (by decide) ?_
      refine v_aload_n hC dX10_person_131 rfl rfl ?_
      refine gf_10_1 hC hB.1.1.1 (wf_261 hW hB.1.1.1) mw_2_79 dX10_person_132 ?_
      first | rw [hB.1.2.1.2.1] | erw [hB.1.2.1.2.1]
      refine gf_7_1 hC hB.1.2.2.1.1.1.1 (wf_213 hW hB.1.2.2.1.1.1.1) mw_2_31 dX10_person_135 ?_
      refine v_iload_n hC dX10_person_138 rfl rfl ?_
      refine v_aald 50 _ hC (wf_213 hW hB.1.2.2.1.1.1.1) (by decide) rfl (ix_c (wz_50 hW (wf_213 hW hR.1.1.1)) hp6) (we_50 hW (wf_213 hW hB.1.2.2.1.1.1.1) (by omega)) dX10_person_139 ?_
      rw [ly_P2 hR.1 hp6]
      refine gf_5_2 hC (by rw [← ly_P2 hR.1 hp6]; exact we_50 hW (wf_213 hW hR.1.1.1) hp6) mw_1_109 dX10_person_140 ?_
      rw [(hR.pe2 hp).2.2]
      refine v_iret hC dX10_person_143 ?_
      exact ⟨by rw [e_person, inN_s hp]; exact ((if_neg (by decide)).trans ((if_neg (by decide)).trans ((if_neg (by decide)).trans ((if_neg (by decide)).trans ((if_neg (by decide)).trans ((if_neg (by decide)).trans ((if_neg (by decide)).trans (if_pos rfl)))))))).symm, Bx.rf⟩
    have hout : z.toInt < 0 ∨ 7 < z.toInt := by
      have q0 := lv_neT e0 (a := 0) rfl
      have q1 := lv_neT e1 (a := 1) rfl
      have q2 := lv_neT e2 (a := 2) rfl
      have q3 := lv_neT e3 (a := 3) rfl
      have q4 := lv_neT e4 (a := 4) rfl
      have q5 := lv_neT e5 (a := 5) rfl
      have q6 := lv_neT e6 (a := 6) rfl
      have q7 := lv_neT e7 (a := 7) rfl
      omega
    refine v_tso hC dX10_person_14 hout (tgt := 144) (by decide) ?_
    refine v_bipush (v := (-2)) hC dX10_person_144 (by decide) ?_
    refine v_iret hC dX10_person_146 ?_
    exact ⟨by rw [e_person, inN_s hp]; exact ((if_neg e0).trans ((if_neg e1).trans ((if_neg e2).trans ((if_neg e3).trans ((if_neg e4).trans ((if_neg e5).trans ((if_neg e6).trans (if_neg e7)))))))).symm, Bx.rf⟩
  · refine v_if_ne hC dX10_person_8 (tgt := 13) (by decide) (fun hx => absurd hx (by decide)) (fun _ => ?_)
    refine v_iconst (v := (-1)) hC dX10_person_11 (by decide) ?_
    refine v_iret hC dX10_person_12 ?_
    exact ⟨((by rw [e_person, inN_o g5] : e_person (x_u x) y z = -1)).symm, Bx.rf⟩

set_option maxHeartbeats 4000000 in
set_option maxRecDepth 100000 in
theorem c_X10_file {l : Launch} {G : Gd} {M : Me} {h n : Nat} {x : Xs} {y z : Int32} (hW : Wt M) (hB : BR M h n x) : CQ (Qi G (fun r M2 => M2 = M)) l G yX10_file cX10_file 4 ((some .int)) 3 62 0 0 [.ref h, .int y, .int z] M := by
  refine c_of ([some (.ref h), some (.int y), some (.int z), none] : Lo) RX10 "file" (by decide) rfl rfl (Nat.le_of_ble_eq_true rfl) rfl (fun p e s m below meth c hC nw => ?_)
  have hR := hB.2.1
  have hnn := hB.1.1.2.2.2.2.2.2
  have hu := hR.2.1
  have u1 := hu.1
  have u2 := hu.2.1
  have u3 := hu.2.2.1
  have u4 := hu.2.2.2.1
  refine v_aload_n hC dX10_file_0 rfl rfl ?_
  refine gf_10_1 hC hB.1.1.1 (wf_261 hW hB.1.1.1) mw_2_79 dX10_file_1 ?_
  first | rw [hB.1.2.1.2.1] | erw [hB.1.2.1.2.1]
  refine v_iload_n hC dX10_file_4 rfl rfl ?_
  refine cVi1 hC (c_X7_hasFile hR.1.1.1 hR.2.2.2.1.1 hu.1) yv_X7_hasFile rfl hB.1.2.2.1.1.1.1 mw_2_193 ⟨Nat.le_of_ble_eq_true rfl, Nat.le_of_ble_eq_true rfl⟩ ⟨Nat.le_of_ble_eq_true rfl, Nat.le_of_ble_eq_true rfl⟩ (Nat.le_of_ble_eq_true rfl) dX10_file_5 (fun r5 M7 hq => ?_)
  obtain ⟨hm, hq2⟩ := hq
  have hm2 := hm.symm
  clear hm
  subst hm2
  obtain ⟨g5, rfl⟩ | ⟨g5, rfl⟩ := hq2
  · refine v_if_ne hC dX10_file_8 (tgt := 13) (by decide) (fun _ => ?_) (fun hx => absurd hx (by decide))
    obtain ⟨f, hf, rfl⟩ := g5
    have h8 : f < 8 := by have := hu.1; omega
    have hF : m_t M (cA (n + 7) 4 f) = 10 := by rw [← ly_F2 hR.1 h8]; exact we_51 hW (wf_215 hW hR.1.1.1) h8
    refine v_aload_n hC dX10_file_13 rfl rfl ?_
    refine gf_10_1 hC hB.1.1.1 (wf_261 hW hB.1.1.1) mw_2_79 dX10_file_14 ?_
    first | rw [hB.1.2.1.2.1] | erw [hB.1.2.1.2.1]
    refine gf_7_3 hC hB.1.2.2.1.1.1.1 (wf_215 hW hB.1.2.2.1.1.1.1) mw_2_35 dX10_file_17 ?_
    refine v_iload_n hC dX10_file_20 rfl rfl ?_
    refine v_aald 51 _ hC (wf_215 hW hB.1.2.2.1.1.1.1) (by decide) rfl (ix_c (wz_51 hW (wf_215 hW hR.1.1.1)) h8) (we_51 hW (wf_215 hW hB.1.2.2.1.1.1.1) (by omega)) dX10_file_21 ?_
    rw [ly_F2 hR.1 h8]
    refine v_ast3 hC dX10_file_22 (by decide) (kk := ?_)
    refine v_iload_n hC dX10_file_23 rfl rfl ?_
    by_cases e0 : z = 0
    · subst e0
      refine v_tsi hC dX10_file_24 (by decide) (by decide) (off := 56) (by rfl) (tgt := 80) (by decide) ?_
      refine v_aload_n hC dX10_file_80 rfl rfl ?_
      refine gf_9_0 hC hF mw_1_131 dX10_file_81 ?_
      refine v_iret hC dX10_file_84 ?_
      exact rfl
    by_cases e1 : z = 1
    · subst e1
      refine v_tsi hC dX10_file_24 (by decide) (by decide) (off := 61) (by rfl) (tgt := 85) (by decide) ?_
      refine v_aload_n hC dX10_file_85 rfl rfl ?_
      refine gf_9_5 hC hF mw_1_146 dX10_file_86 ?_
      refine v_iret hC dX10_file_89 ?_
      exact rfl
    by_cases e2 : z = 2
    · subst e2
      refine v_tsi hC dX10_file_24 (by decide) (by decide) (off := 66) (by rfl) (tgt := 90) (by decide) ?_
      refine v_aload_n hC dX10_file_90 rfl rfl ?_
      refine cVi0 hC (c_X9_countWords hW hF (hR.fs2 hf)) yv_X9_countWords rfl hF mw_4_8 ⟨Nat.le_of_ble_eq_true rfl, Nat.le_of_ble_eq_true rfl⟩ ⟨Nat.le_of_ble_eq_true rfl, Nat.le_of_ble_eq_true rfl⟩ (Nat.le_of_ble_eq_true rfl) dX10_file_91 (fun r91 M93 hq => ?_)
      obtain ⟨rfl, hm⟩ := hq
      have hm2 := hm.symm
      clear hm
      subst hm2
      refine v_iret hC dX10_file_94 ?_
      exact rfl
    by_cases e3 : z = 3
    · subst e3
      refine v_tsi hC dX10_file_24 (by decide) (by decide) (off := 71) (by rfl) (tgt := 95) (by decide) ?_
      refine v_aload_n hC dX10_file_95 rfl rfl ?_
      refine gf_10_1 hC hB.1.1.1 (wf_261 hW hB.1.1.1) mw_2_79 dX10_file_96 ?_
      first | rw [hB.1.2.1.2.1] | erw [hB.1.2.1.2.1]
      refine v_iload_n hC dX10_file_99 rfl rfl ?_
      refine cVi1 hC (c_X7_placeOf hW hR.1.1.1 hR.2.2.2.1.1 hu.1) yv_X7_placeOf rfl hB.1.2.2.1.1.1.1 mw_3_14 ⟨Nat.le_of_ble_eq_true rfl, Nat.le_of_ble_eq_true rfl⟩ ⟨Nat.le_of_ble_eq_true rfl, Nat.le_of_ble_eq_true rfl⟩ (Nat.le_of_ble_eq_true rfl) dX10_file_100 (fun r100 M102 hq => ?_)
      obtain ⟨-, hm⟩ := hq
      have hm2 := hm.symm
      clear hm
      subst hm2
      refine v_iret hC dX10_file_103 ?_
      exact rfl
    by_cases e4 : z = 4
    · subst e4
      refine v_tsi hC dX10_file_24 (by decide) (by decide) (off := 80) (by rfl) (tgt := 104) (by decide) ?_
      refine v_aload_n hC dX10_file_104 rfl rfl ?_
      refine gf_9_1 hC hF mw_1_134 dX10_file_105 ?_
      refine v_iret hC dX10_file_108 ?_
      exact rfl
    by_cases e5 : z = 5
    · subst e5
      refine v_tsi hC dX10_file_24 (by decide) (by decide) (off := 85) (by rfl) (tgt := 109) (by decide) ?_
      refine v_aload_n hC dX10_file_109 rfl rfl ?_
      refine gf_9_2 hC hF mw_1_137 dX10_file_110 ?_
      refine v_iret hC dX10_file_113 ?_
      exact rfl
    by_cases e6 : z = 6
    · subst e6
      refine v_tsi hC dX10_file_24 (by decide) (by decide) (off := 90) (by rfl) (tgt := 114) (by decide) ?_
      refine v_aload_n hC dX10_file_114 rfl rfl ?_
      refine gf_9_3 hC hF mw_1_140 dX10_file_115 ?_
      refine v_iret hC dX10_file_118 ?_
      exact rfl
    by_cases e7 : z = 7
    · subst e7
      refine v_tsi hC dX10_file_24 (by decide) (by decide) (off := 95) (by rfl) (tgt := 119) (by decide) ?_
      refine v_aload_n hC dX10_file_119 rfl rfl ?_
      refine cVi0 hC (c_X9_cost hW hF (hR.fs2 hf)) yv_X9_cost rfl hF mw_3_163 ⟨Nat.le_of_ble_eq_true rfl, Nat.le_of_ble_eq_true rfl⟩ ⟨Nat.le_of_ble_eq_true rfl, Nat.le_of_ble_eq_true rfl⟩ (Nat.le_of_ble_eq_true rfl) dX10_file_120 (fun r120 M122 hq => ?_)
      obtain ⟨rfl, hm⟩ := hq
      have hm2 := hm.symm
      clear hm
      subst hm2
      refine v_iret hC dX10_file_123 ?_
      exact rfl
    by_cases e8 : z = 8
    · subst e8
      refine v_tsi hC dX10_file_24 (by decide) (by decide) (off := 100) (by rfl) (tgt := 124) (by decide) ?_
      refine v_aload_n hC dX10_file_124 rfl rfl ?_
      refine cVi0 hC (c_X9_countWithoutTarget hW hF (hR.fs2 hf)) yv_X9_countWithoutTarget rfl hF mw_3_26 ⟨Nat.le_of_ble_eq_true rfl, Nat.le_of_ble_eq_true rfl⟩ ⟨Nat.le_of_ble_eq_true rfl, Nat.le_of_ble_eq_true rfl⟩ (Nat.le_of_ble_eq_true rfl) dX10_file_125 (fun r125 M127 hq => ?_)
      obtain ⟨rfl, hm⟩ := hq
      have hm2 := hm.symm
      clear hm
      subst hm2
      refine v_iret hC dX10_file_128 ?_
      exact rfl
    by_cases e9 : z = 9
    · subst e9
      refine v_tsi hC dX10_file_24 (by decide) (by decide) (off := 105) (by rfl) (tgt := 129) (by decide) ?_
      refine v_aload_n hC dX10_file_129 rfl rfl ?_
      refine gf_9_4 hC hF mw_1_143 dX10_file_130 ?_
      refine v_iret hC dX10_file_133 ?_
      exact rfl
    have hout : z.toInt < 0 ∨ 9 < z.toInt := by
      have q0 := lv_neT e0 (a := 0) rfl
      have q1 := lv_neT e1 (a := 1) rfl
      have q2 := lv_neT e2 (a := 2) rfl
      have q3 := lv_neT e3 (a := 3) rfl
      have q4 := lv_neT e4 (a := 4) rfl
      have q5 := lv_neT e5 (a := 5) rfl
      have q6 := lv_neT e6 (a := 6) rfl
      have q7 := lv_neT e7 (a := 7) rfl
      have q8 := lv_neT e8 (a := 8) rfl
      have q9 := lv_neT e9 (a := 9) rfl
      omega
    refine v_tso hC dX10_file_24 hout (tgt := 134) (by decide) ?_
    refine v_bipush (v := (-2)) hC dX10_file_134 (by decide) ?_
    refine v_iret hC dX10_file_136 ?_
    exact rfl
  · refine v_if_ne hC dX10_file_8 (tgt := 13) (by decide) (fun hx => absurd hx (by decide)) (fun _ => ?_)
    refine v_iconst (v := (-1)) hC dX10_file_11 (by decide) ?_
    refine v_iret hC dX10_file_12 ?_
    exact rfl

set_option maxHeartbeats 4000000 in
set_option maxRecDepth 100000 in
theorem c_X10_segment {l : Launch} {G : Gd} {M : Me} {h n : Nat} {x : Xs} {y z w : Int32} (hW : Wt M) (hB : BR M h n x) (hO : WfO (x_u x)) : CQ (Qi G (fun r M2 => r = e_segment (x_u x) y z w ∧ Bx M M2)) l G yX10_segment cX10_segment 6 ((some .int)) 4 97 0 0 [.ref h, .int y, .int z, .int w] M := by
  refine c_of ([some (.ref h), some (.int y), some (.int z), some (.int w), none, none] : Lo) RX10 "segment" (by decide) rfl rfl (Nat.le_of_ble_eq_true rfl) rfl (fun p e s m below meth c hC nw => ?_)
  have hR := hB.2.1
  have hnn := hB.1.1.2.2.2.2.2.2
  have hu := hR.2.1
  have u1 := hu.1
  have u2 := hu.2.1
  have u3 := hu.2.2.1
  have u4 := hu.2.2.2.1
  refine v_aload_n hC dX10_segment_0 rfl rfl ?_
  refine gf_10_1 hC hB.1.1.1 (wf_261 hW hB.1.1.1) mw_2_79 dX10_segment_1 ?_
  first | rw [hB.1.2.1.2.1] | erw [hB.1.2.1.2.1]
  refine v_iload_n hC dX10_segment_4 rfl rfl ?_
  refine v_iload_n hC dX10_segment_5 rfl rfl ?_
  refine cVi2 hC (c_X7_hasSegment hW hR.1.1.1 hR) yv_X7_hasSegment rfl hB.1.2.2.1.1.1.1 mw_3_93 ⟨Nat.le_of_ble_eq_true rfl, Nat.le_of_ble_eq_true rfl⟩ ⟨Nat.le_of_ble_eq_true rfl, Nat.le_of_ble_eq_true rfl⟩ (Nat.le_of_ble_eq_true rfl) dX10_segment_6 (fun r6 M8 hq => ?_)
  obtain ⟨hm, hq2⟩ := hq
  have hm2 := hm.symm
  clear hm
  subst hm2
  obtain ⟨g6, rfl⟩ | ⟨g6, rfl⟩ := hq2
  · refine v_if_ne hC dX10_segment_9 (tgt := 14) (by decide) (fun _ => ?_) (fun hx => absurd hx (by decide))
    obtain ⟨f, t, hf, ht9, rfl, rfl⟩ := g6
    have h8 : f < 8 := by have := hu.1; omega
    have hF : m_t M (cA (n + 7) 4 f) = 10 := by rw [← ly_F2 hR.1 h8]; exact we_51 hW (wf_215 hW hR.1.1.1) h8
    have h12s := hu.2.2.2.2 f hf
    have h12 : t < 12 := by omega
    have hG : SgR M (m_r M 52 (m_r M 250 (cA (n + 7) 4 f) 0) t) (q_g (x_u x) 0 f t) := (hR.fs2 hf).2.2 t ht9
    refine v_aload_n hC dX10_segment_14 rfl rfl ?_
    refine gf_10_1 hC hB.1.1.1 (wf_261 hW hB.1.1.1) mw_2_79 dX10_segment_15 ?_
    first | rw [hB.1.2.1.2.1] | erw [hB.1.2.1.2.1]
    refine gf_7_3 hC hB.1.2.2.1.1.1.1 (wf_215 hW hB.1.2.2.1.1.1.1) mw_2_35 dX10_segment_18 ?_
    refine v_iload_n hC dX10_segment_21 rfl rfl ?_
    refine v_aald 51 _ hC (wf_215 hW hB.1.2.2.1.1.1.1) (by decide) rfl (ix_c (wz_51 hW (wf_215 hW hR.1.1.1)) h8) (we_51 hW (wf_215 hW hB.1.2.2.1.1.1.1) (by omega)) dX10_segment_22 ?_
    rw [ly_F2 hR.1 h8]
    refine v_ast4 hC dX10_segment_23 (by decide) (kk := ?_)
    refine v_aload hC dX10_segment_25 rfl ?_
    refine gf_9_6 hC hF (wf_250 hW hF) mw_1_151 dX10_segment_27 ?_
    refine v_iload_n hC dX10_segment_30 rfl rfl ?_
    refine v_aald 52 _ hC (wf_250 hW hF) (by decide) rfl (ix_c (wz_52 hW (wf_250 hW hF)) h12) hG.1 dX10_segment_31 ?_
    refine v_ast5 hC dX10_segment_32 (by decide) (kk := ?_)
    refine v_iload_n hC dX10_segment_34 rfl rfl ?_
    by_cases e0 : w = 0
    · subst e0
      refine v_tsi hC dX10_segment_35 (by decide) (by decide) (off := 41) (by rfl) (tgt := 76) (by decide) ?_
      refine v_aload hC dX10_segment_76 rfl ?_
      refine gf_6_2 hC hG.1 mw_1_53 dX10_segment_78 ?_
      rw [hG.2.2.1]
      refine v_iret hC dX10_segment_81 ?_
      exact ⟨by rw [e_segment, inN_s hf]; show _ = (match inN (nI t) (n_s (x_u x) f) with | none => _ | some s => _); rw [inN_s ht9 (by omega)]; exact (if_pos rfl).symm, Bx.rf⟩
    by_cases e1 : w = 1
    · subst e1
      refine v_tsi hC dX10_segment_35 (by decide) (by decide) (off := 47) (by rfl) (tgt := 82) (by decide) ?_
      refine v_aload hC dX10_segment_82 rfl ?_
      refine gf_9_7 hC hF (wf_251 hW hF) mw_1_154 dX10_segment_84 ?_
      refine v_iload_n hC dX10_segment_87 rfl rfl ?_
      refine v_iald 24 hC (wf_251 hW hF) (by decide) (by decide) (ix_c (wz_24 hW (wf_251 hW hF)) h12) dX10_segment_88 ?_
      rw [(hR.ft2 hf ht9).1]
      refine v_if_ne hC dX10_segment_89 (tgt := 97) (by decide) (fun h89 => ?_) (fun h89 => ?_)
      · refine v_aload hC dX10_segment_97 rfl ?_
        refine gf_9_7 hC hF (wf_251 hW hF) mw_1_154 dX10_segment_99 ?_
        refine v_iload_n hC dX10_segment_102 rfl rfl ?_
        refine v_iald 24 hC (wf_251 hW hF) (by decide) (by decide) (ix_c (wz_24 hW (wf_251 hW hF)) h12) dX10_segment_103 ?_
        rw [(hR.ft2 hf ht9).1]
        refine v_iret hC dX10_segment_104 ?_
        exact ⟨by rw [e_segment, inN_s hf]; show _ = (match inN (nI t) (n_s (x_u x) f) with | none => _ | some s => _); rw [inN_s ht9 (by omega)]; exact (((if_neg (by decide)).trans (if_pos rfl)).trans (if_neg h89)).symm, Bx.rf⟩
      · refine v_bipush (v := (-5)) hC dX10_segment_92 (by decide) ?_
        refine v_goto hC dX10_segment_94 (tgt := 104) (by decide) ?_
        refine v_iret hC dX10_segment_104 ?_
        exact ⟨by rw [e_segment, inN_s hf]; show _ = (match inN (nI t) (n_s (x_u x) f) with | none => _ | some s => _); rw [inN_s ht9 (by omega)]; exact (((if_neg (by decide)).trans (if_pos rfl)).trans (if_pos h89)).symm, Bx.rf⟩
    by_cases e2 : w = 2
    · subst e2
      refine v_tsi hC dX10_segment_35 (by decide) (by decide) (off := 70) (by rfl) (tgt := 105) (by decide) ?_
      refine v_aload hC dX10_segment_105 rfl ?_
      refine gf_9_8 hC hF (wf_252 hW hF) mw_1_157 dX10_segment_107 ?_
      refine v_iload_n hC dX10_segment_110 rfl rfl ?_
      refine v_iald 25 hC (wf_252 hW hF) (by decide) (by decide) (ix_c (wz_25 hW (wf_252 hW hF)) h12) dX10_segment_111 ?_
      rw [(hR.ft2 hf ht9).2]
      refine v_iret hC dX10_segment_112 ?_
      exact ⟨by rw [e_segment, inN_s hf]; show _ = (match inN (nI t) (n_s (x_u x) f) with | none => _ | some s => _); rw [inN_s ht9 (by omega)]; exact ((if_neg (by decide)).trans ((if_neg (by decide)).trans (if_pos rfl))).symm, Bx.rf⟩
    by_cases e3 : w = 3
    · subst e3
      refine v_tsi hC dX10_segment_35 (by decide) (by decide) (off := 78) (by rfl) (tgt := 113) (by decide) ?_
      refine v_aload_n hC dX10_segment_113 rfl rfl ?_
      refine gf_10_1 hC hB.1.1.1 (wf_261 hW hB.1.1.1) mw_2_79 dX10_segment_114 ?_
      first | rw [hB.1.2.1.2.1] | erw [hB.1.2.1.2.1]
      refine gf_7_6 hC hB.1.2.2.1.1.1.1 (wf_218 hW hB.1.2.2.1.1.1.1) mw_2_41 dX10_segment_117 ?_
      refine v_aload hC dX10_segment_120 rfl ?_
      refine cVi1 hC (c_X4_bestMatch hW (wf_218 hW hR.1.1.1) hR.es hG) yv_X4_bestMatch rfl (wf_218 hW hB.1.2.2.1.1.1.1) mw_4_13 ⟨Nat.le_of_ble_eq_true rfl, Nat.le_of_ble_eq_true rfl⟩ ⟨Nat.le_of_ble_eq_true rfl, Nat.le_of_ble_eq_true rfl⟩ (Nat.le_of_ble_eq_true rfl) dX10_segment_122 (fun r122 M124 hq => ?_)
      obtain ⟨rfl, hB9⟩ := hq
      refine v_iret hC dX10_segment_125 ?_
      exact ⟨by rw [e_segment, inN_s hf]; show _ = (match inN (nI t) (n_s (x_u x) f) with | none => _ | some s => _); rw [inN_s ht9 (by omega)]; exact ((if_neg (by decide)).trans ((if_neg (by decide)).trans ((if_neg (by decide)).trans (if_pos rfl)))).symm, hB9.x⟩
    by_cases e4 : w = 4
    · subst e4
      refine v_tsi hC dX10_segment_35 (by decide) (by decide) (off := 91) (by rfl) (tgt := 126) (by decide) ?_
      refine v_aload_n hC dX10_segment_126 rfl rfl ?_
      refine gf_10_1 hC hB.1.1.1 (wf_261 hW hB.1.1.1) mw_2_79 dX10_segment_127 ?_
      first | rw [hB.1.2.1.2.1] | erw [hB.1.2.1.2.1]
      refine gf_7_6 hC hB.1.2.2.1.1.1.1 (wf_218 hW hB.1.2.2.1.1.1.1) mw_2_41 dX10_segment_130 ?_
      refine v_aload hC dX10_segment_133 rfl ?_
      refine cVi1 hC (c_X4_bestEntry hW (wf_218 hW hR.1.1.1) hR.es hG) yv_X4_bestEntry rfl (wf_218 hW hB.1.2.2.1.1.1.1) mw_4_14 ⟨Nat.le_of_ble_eq_true rfl, Nat.le_of_ble_eq_true rfl⟩ ⟨Nat.le_of_ble_eq_true rfl, Nat.le_of_ble_eq_true rfl⟩ (Nat.le_of_ble_eq_true rfl) dX10_segment_135 (fun r135 M137 hq => ?_)
      obtain ⟨hb9, hB9⟩ := hq
      refine v_iret hC dX10_segment_138 ?_
      exact ⟨by rw [e_segment, inN_s hf]; show _ = (match inN (nI t) (n_s (x_u x) f) with | none => _ | some s => _); rw [inN_s ht9 (by omega)]; exact hb9.n.trans ((if_neg (by decide)).trans ((if_neg (by decide)).trans ((if_neg (by decide)).trans ((if_neg (by decide)).trans (if_pos rfl))))).symm, hB9.x⟩
    by_cases e5 : w = 5
    · subst e5
      refine v_tsi hC dX10_segment_35 (by decide) (by decide) (off := 104) (by rfl) (tgt := 139) (by decide) ?_
      refine v_aload hC dX10_segment_139 rfl ?_
      refine cVi0 hC (c_X9_isInHand hF) yv_X9_isInHand rfl hF mw_3_22 ⟨Nat.le_of_ble_eq_true rfl, Nat.le_of_ble_eq_true rfl⟩ ⟨Nat.le_of_ble_eq_true rfl, Nat.le_of_ble_eq_true rfl⟩ (Nat.le_of_ble_eq_true rfl) dX10_segment_141 (fun r141 M143 hq => ?_)
      obtain ⟨hm, hq2⟩ := hq
      have hm2 := hm.symm
      clear hm
      subst hm2
      obtain ⟨g141, rfl⟩ | ⟨g141, rfl⟩ := hq2
      · rw [(hR.f42 hf).1] at g141
        refine v_if_eq hC dX10_segment_144 (tgt := 159) (by decide) (fun hx => absurd hx (by decide)) (fun _ => ?_)
        refine v_aload_n hC dX10_segment_147 rfl rfl ?_
        refine gf_10_1 hC hB.1.1.1 (wf_261 hW hB.1.1.1) mw_2_79 dX10_segment_148 ?_
        first | rw [hB.1.2.1.2.1] | erw [hB.1.2.1.2.1]
        refine v_iload_n hC dX10_segment_151 rfl rfl ?_
        refine v_iload_n hC dX10_segment_152 rfl rfl ?_
        refine cVi2 hC (c_X7_bandOf hW hR.1.1.1 hR hO hf ht9) yv_X7_bandOf rfl hB.1.2.2.1.1.1.1 mw_4_19 ⟨Nat.le_of_ble_eq_true rfl, Nat.le_of_ble_eq_true rfl⟩ ⟨Nat.le_of_ble_eq_true rfl, Nat.le_of_ble_eq_true rfl⟩ (Nat.le_of_ble_eq_true rfl) dX10_segment_153 (fun r153 M155 hq => ?_)
        obtain ⟨rfl, hB9⟩ := hq
        refine v_goto hC dX10_segment_156 (tgt := 161) (by decide) ?_
        refine v_iret hC dX10_segment_161 ?_
        exact ⟨by rw [e_segment, inN_s hf]; show _ = (match inN (nI t) (n_s (x_u x) f) with | none => _ | some s => _); rw [inN_s ht9 (by omega)]; exact (((if_neg (by decide)).trans ((if_neg (by decide)).trans ((if_neg (by decide)).trans ((if_neg (by decide)).trans ((if_neg (by decide)).trans (if_pos rfl)))))).trans (if_pos g141)).symm, hB9.x⟩
      · rw [(hR.f42 hf).1] at g141
        refine v_if_eq hC dX10_segment_144 (tgt := 159) (by decide) (fun _ => ?_) (fun hx => absurd hx (by decide))
        refine v_bipush (v := (-5)) hC dX10_segment_159 (by decide) ?_
        refine v_iret hC dX10_segment_161 ?_
        exact ⟨by rw [e_segment, inN_s hf]; show _ = (match inN (nI t) (n_s (x_u x) f) with | none => _ | some s => _); rw [inN_s ht9 (by omega)]; exact (((if_neg (by decide)).trans ((if_neg (by decide)).trans ((if_neg (by decide)).trans ((if_neg (by decide)).trans ((if_neg (by decide)).trans (if_pos rfl)))))).trans (if_neg g141)).symm, Bx.rf⟩
    by_cases e6 : w = 6
    · subst e6
      refine v_tsi hC dX10_segment_35 (by decide) (by decide) (off := 127) (by rfl) (tgt := 162) (by decide) ?_
      refine v_aload_n hC dX10_segment_162 rfl rfl ?_
      refine gf_10_1 hC hB.1.1.1 (wf_261 hW hB.1.1.1) mw_2_79 dX10_segment_163 ?_
      first | rw [hB.1.2.1.2.1] | erw [hB.1.2.1.2.1]
      refine v_iload_n hC dX10_segment_166 rfl rfl ?_
      refine v_iload_n hC dX10_segment_167 rfl rfl ?_
      refine cVi2 hC (c_X7_repeatSource hW hR.1.1.1 hR hO hf ht9) yv_X7_repeatSource rfl hB.1.2.2.1.1.1.1 mw_4_20 ⟨Nat.le_of_ble_eq_true rfl, Nat.le_of_ble_eq_true rfl⟩ ⟨Nat.le_of_ble_eq_true rfl, Nat.le_of_ble_eq_true rfl⟩ (Nat.le_of_ble_eq_true rfl) dX10_segment_168 (fun r168 M170 hq => ?_)
      obtain ⟨rfl, hm⟩ := hq
      have hm2 := hm.symm
      clear hm
      subst hm2
      refine v_iret hC dX10_segment_171 ?_
      exact ⟨by rw [e_segment, inN_s hf]; show _ = (match inN (nI t) (n_s (x_u x) f) with | none => _ | some s => _); rw [inN_s ht9 (by omega)]; exact ((if_neg (by decide)).trans ((if_neg (by decide)).trans ((if_neg (by decide)).trans ((if_neg (by decide)).trans ((if_neg (by decide)).trans ((if_neg (by decide)).trans (if_pos rfl))))))).symm, Bx.rf⟩
    have hout : w.toInt < 0 ∨ 6 < w.toInt := by
      have q0 := lv_neT e0 (a := 0) rfl
      have q1 := lv_neT e1 (a := 1) rfl
      have q2 := lv_neT e2 (a := 2) rfl
      have q3 := lv_neT e3 (a := 3) rfl
      have q4 := lv_neT e4 (a := 4) rfl
      have q5 := lv_neT e5 (a := 5) rfl
      have q6 := lv_neT e6 (a := 6) rfl
      omega
    refine v_tso hC dX10_segment_35 hout (tgt := 172) (by decide) ?_
    refine v_bipush (v := (-2)) hC dX10_segment_172 (by decide) ?_
    refine v_iret hC dX10_segment_174 ?_
    exact ⟨by rw [e_segment, inN_s hf]; show _ = (match inN (nI t) (n_s (x_u x) f) with | none => _ | some s => _); rw [inN_s ht9 (by omega)]; exact ((if_neg e0).trans ((if_neg e1).trans ((if_neg e2).trans ((if_neg e3).trans ((if_neg e4).trans ((if_neg e5).trans (if_neg e6))))))).symm, Bx.rf⟩
  · refine v_if_ne hC dX10_segment_9 (tgt := 14) (by decide) (fun hx => absurd hx (by decide)) (fun _ => ?_)
    refine v_iconst (v := (-1)) hC dX10_segment_12 (by decide) ?_
    refine v_iret hC dX10_segment_13 ?_
    exact ⟨by
      rw [e_segment]
      by_cases w1 : rgI y (n_f (x_u x))
      · obtain ⟨f, hf, rfl⟩ := w1
        rw [inN_s hf]
        by_cases w2 : rgI z (n_s (x_u x) f)
        · obtain ⟨t, ht9, rfl⟩ := w2
          exact absurd ⟨f, t, hf, ht9, rfl, rfl⟩ g6
        · show _ = (match inN z (n_s (x_u x) f) with | none => _ | some s => _)
          rw [inN_o w2 (by have := hu.2.2.2.2 f hf; omega)]
      · rw [inN_o w1], Bx.rf⟩

set_option maxHeartbeats 4000000 in
set_option maxRecDepth 100000 in
theorem c_X10_charAt {l : Launch} {G : Gd} {M : Me} {h n : Nat} {x : Xs} {y z w : Int32} (hW : Wt M) (hB : BR M h n x) : CQ (Qi G (fun r M2 => r = e_charAt (x_u x) y z w ∧ Bx M M2)) l G yX10_charAt cX10_charAt 5 ((some .int)) 2 43 0 0 [.ref h, .int y, .int z, .int w] M := by
  refine c_of ([some (.ref h), some (.int y), some (.int z), some (.int w), none] : Lo) RX10 "charAt" (by decide) rfl rfl (Nat.le_of_ble_eq_true rfl) rfl (fun p e s m below meth c hC nw => ?_)
  have hR := hB.2.1
  have hnn := hB.1.1.2.2.2.2.2.2
  have hu := hR.2.1
  have u1 := hu.1
  have u2 := hu.2.1
  have u3 := hu.2.2.1
  have u4 := hu.2.2.2.1
  refine v_aload_n hC dX10_charAt_0 rfl rfl ?_
  refine gf_10_1 hC hB.1.1.1 (wf_261 hW hB.1.1.1) mw_2_79 dX10_charAt_1 ?_
  first | rw [hB.1.2.1.2.1] | erw [hB.1.2.1.2.1]
  refine v_iload_n hC dX10_charAt_4 rfl rfl ?_
  refine v_iload_n hC dX10_charAt_5 rfl rfl ?_
  refine cVi2 hC (c_X7_hasSegment hW hR.1.1.1 hR) yv_X7_hasSegment rfl hB.1.2.2.1.1.1.1 mw_3_93 ⟨Nat.le_of_ble_eq_true rfl, Nat.le_of_ble_eq_true rfl⟩ ⟨Nat.le_of_ble_eq_true rfl, Nat.le_of_ble_eq_true rfl⟩ (Nat.le_of_ble_eq_true rfl) dX10_charAt_6 (fun r6 M8 hq => ?_)
  obtain ⟨hm, hq2⟩ := hq
  have hm2 := hm.symm
  clear hm
  subst hm2
  obtain ⟨g6, rfl⟩ | ⟨g6, rfl⟩ := hq2
  · refine v_if_ne hC dX10_charAt_9 (tgt := 14) (by decide) (fun _ => ?_) (fun hx => absurd hx (by decide))
    obtain ⟨f, t, hf, ht9, rfl, rfl⟩ := g6
    have h8 : f < 8 := by have := hu.1; omega
    have hF : m_t M (cA (n + 7) 4 f) = 10 := by rw [← ly_F2 hR.1 h8]; exact we_51 hW (wf_215 hW hR.1.1.1) h8
    have h12s := hu.2.2.2.2 f hf
    have h12 : t < 12 := by omega
    have hG : SgR M (m_r M 52 (m_r M 250 (cA (n + 7) 4 f) 0) t) (q_g (x_u x) 0 f t) := (hR.fs2 hf).2.2 t ht9
    refine v_iload_n hC dX10_charAt_14 rfl rfl ?_
    refine v_if_ge hC dX10_charAt_15 (tgt := 21) (by decide) (fun h15 => ?_) (fun h15 => ?_)
    · refine v_aload_n hC dX10_charAt_21 rfl rfl ?_
      refine gf_10_1 hC hB.1.1.1 (wf_261 hW hB.1.1.1) mw_2_79 dX10_charAt_22 ?_
      first | rw [hB.1.2.1.2.1] | erw [hB.1.2.1.2.1]
      refine gf_7_3 hC hB.1.2.2.1.1.1.1 (wf_215 hW hB.1.2.2.1.1.1.1) mw_2_35 dX10_charAt_25 ?_
      refine v_iload_n hC dX10_charAt_28 rfl rfl ?_
      refine v_aald 51 _ hC (wf_215 hW hB.1.2.2.1.1.1.1) (by decide) rfl (ix_c (wz_51 hW (wf_215 hW hR.1.1.1)) h8) (we_51 hW (wf_215 hW hB.1.2.2.1.1.1.1) (by omega)) dX10_charAt_29 ?_
      rw [ly_F2 hR.1 h8]
      refine gf_9_6 hC hF (wf_250 hW hF) mw_1_151 dX10_charAt_30 ?_
      refine v_iload_n hC dX10_charAt_33 rfl rfl ?_
      refine v_aald 52 _ hC (wf_250 hW hF) (by decide) rfl (ix_c (wz_52 hW (wf_250 hW hF)) h12) hG.1 dX10_charAt_34 ?_
      refine gf_6_0 hC hG.1 (wf_196 hW hG.1) mw_1_46 dX10_charAt_35 ?_
      refine v_ast4 hC dX10_charAt_38 (by decide) (kk := ?_)
      have hl : (txS (q_g (x_u x) 0 f t)).length ≤ 60 := by rw [← hG.2.2.2.2.1]; exact hW.2.2.2 _ (wf_196 hW hG.1)
      refine v_iload_n hC dX10_charAt_40 rfl rfl ?_
      refine v_aload hC dX10_charAt_41 rfl ?_
      refine v_alez hC (wf_196 hW hG.1) hG.2.2.2.2.1 dX10_charAt_43 ?_
      refine v_icmp_ge hC dX10_charAt_44 (tgt := 54) (by decide) (fun h44 => ?_) (fun h44 => ?_)
      · refine v_bipush (v := (-5)) hC dX10_charAt_54 (by decide) ?_
        refine v_iret hC dX10_charAt_56 ?_
        exact ⟨by rw [e_charAt, inN_s hf]; show _ = (match inN (nI t) (n_s (x_u x) f) with | none => _ | some s => _); rw [inN_s ht9 (by omega)]; show _ = (if w < 0 then _ else _); rw [if_neg (fun q => i_ab q h15)]; show _ = (match inN w (txS (q_g (x_u x) 0 f t)).length with | some i => _ | none => _); rw [inN_o (rg_hi h44 (by omega)) (by omega)], Bx.rf⟩
      · obtain ⟨i9, hi9, ei⟩ := rg_in (fun q => i_ab q h15) h44 (by omega)
        refine v_aload hC dX10_charAt_47 rfl ?_
        refine v_iload_n hC dX10_charAt_49 rfl rfl ?_
        refine v_cald 40 hC (wf_196 hW hG.1) (by decide) (by decide) (ix_e ei (by rw [hG.2.2.2.2.1]; exact hi9) (by rw [hG.2.2.2.2.1]; omega)) dX10_charAt_50 ?_
        rw [hG.2.2.2.2.2 i9 hi9]
        refine v_goto hC dX10_charAt_51 (tgt := 56) (by decide) ?_
        refine v_iret hC dX10_charAt_56 ?_
        exact ⟨by rw [e_charAt, inN_s hf]; show _ = (match inN (nI t) (n_s (x_u x) f) with | none => _ | some s => _); rw [inN_s ht9 (by omega)]; show _ = (if w < 0 then _ else _); rw [if_neg (fun q => i_ab q h15)]; show _ = (match inN w (txS (q_g (x_u x) 0 f t)).length with | some i => _ | none => _); rw [ei, inN_s hi9 (by omega)], Bx.rf⟩
    · refine v_bipush (v := (-2)) hC dX10_charAt_18 (by decide) ?_
      refine v_iret hC dX10_charAt_20 ?_
      exact ⟨by rw [e_charAt, inN_s hf]; show _ = (match inN (nI t) (n_s (x_u x) f) with | none => _ | some s => _); rw [inN_s ht9 (by omega)]; exact (if_pos (i_nle h15)).symm, Bx.rf⟩
  · refine v_if_ne hC dX10_charAt_9 (tgt := 14) (by decide) (fun hx => absurd hx (by decide)) (fun _ => ?_)
    refine v_iconst (v := (-1)) hC dX10_charAt_12 (by decide) ?_
    refine v_iret hC dX10_charAt_13 ?_
    exact ⟨by
      rw [e_charAt]
      by_cases w1 : rgI y (n_f (x_u x))
      · obtain ⟨f, hf, rfl⟩ := w1
        rw [inN_s hf]
        by_cases w2 : rgI z (n_s (x_u x) f)
        · obtain ⟨t, ht9, rfl⟩ := w2
          exact absurd ⟨f, t, hf, ht9, rfl, rfl⟩ g6
        · show _ = (match inN z (n_s (x_u x) f) with | none => _ | some s => _)
          rw [inN_o w2 (by have := hu.2.2.2.2 f hf; omega)]
      · rw [inN_o w1], Bx.rf⟩
