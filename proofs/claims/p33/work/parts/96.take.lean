theorem WfT.give {u : Si} {f t : Nat} {x y : Int32} (w : WfT u) (hx : 0 < x) (hy : ¬ y = 0) : WfT (u_i (u_i u 9 f t x) 10 f t y) := fun g s hg hs => by
  by_cases q : g = f ∧ s = t
  · obtain ⟨rfl, rfl⟩ := q
    refine Or.inr ⟨?_, ?_⟩
    · rw [q_ik (by decide), q_ie]; exact hx
    · rw [q_ie]; exact hy
  · have e9 : q_i (u_i (u_i u 9 f t x) 10 f t y) 9 g s = q_i u 9 g s := by
      rw [q_ik (by decide), q_iu, if_neg (fun z => q ⟨z.2.1, z.2.2⟩)]
    have e10 : q_i (u_i (u_i u 9 f t x) 10 f t y) 10 g s = q_i u 10 g s := by
      rw [q_iu, if_neg (fun z => q ⟨z.2.1, z.2.2⟩)]; rfl
    rw [e9, e10]
    exact w g s hg hs
theorem WfT.stM1 {v : Si} {f i : Nat} (w : WfT v) (hE : ∀ x, x < n_e v → 0 < q_i v 11 x 0) : WfT (stM f i v) := by
  unfold stM
  split
  · split
    · rename_i x hx
      exact w.give (hE x (alN_i hx)) (by decide)
    · exact w
  · exact w
theorem WfT.stMn {u : Si} {f : Nat} (w : WfT u) (hE : ∀ x, x < n_e u → 0 < q_i u 11 x 0) : ∀ i, WfT (fU (stM f) u i)
  | 0 => w
  | i + 1 => by
    have ih := WfT.stMn (f := f) w hE i
    have k : Kp u (fU (stM f) u i) := Kp.fU (fun j v => stM_kp f j v) i
    have en : n_e (fU (stM f) u i) = n_e u := by show (fU (stM f) u i).1 2 0 = u.1 2 0; rw [k.1]
    exact WfT.stM1 ih (fun x hx => by
      rw [k.2.2 11 x 0 (by omega)]
      exact hE x (by rw [← en]; exact hx))
theorem u_ic2 {v : Si} {k a j k2 a2 j2 : Nat} {x y : Int32} (h : k ≠ k2) : u_i (u_i v k a j x) k2 a2 j2 y = u_i (u_i v k2 a2 j2 y) k a j x := by
  have : (fun q b c => if q = k2 ∧ b = a2 ∧ c = j2 then y else if q = k ∧ b = a ∧ c = j then x else v.2.1 q b c) = (fun q b c => if q = k ∧ b = a ∧ c = j then x else if q = k2 ∧ b = a2 ∧ c = j2 then y else v.2.1 q b c) := funext fun q => funext fun b => funext fun c => by
    by_cases w : q = k ∧ b = a ∧ c = j
    · rw [if_pos w, if_neg (fun z => h (w.1.symm.trans z.1)), if_pos w]
    · rw [if_neg w, if_neg w]
  show (v.1, (fun q b c => if q = k2 ∧ b = a2 ∧ c = j2 then y else if q = k ∧ b = a ∧ c = j then x else v.2.1 q b c), v.2.2) = _
  rw [this]; rfl
theorem stM_c {v : Si} {f i k a j : Nat} {x : Int32} (h : k < 9) : stM f i (u_i v k a j x) = u_i (stM f i v) k a j x := by
  have e9 : q_i (u_i v k a j x) 9 f i = q_i v 9 f i := q_ik (by omega)
  have ea : alN (u_i v k a j x) (q_g (u_i v k a j x) 0 f i) = alN v (q_g v 0 f i) := rfl
  unfold stM
  rw [e9, ea]
  by_cases q : q_i v 9 f i = 0
  · rw [if_pos q, if_pos q]
    cases alN v (q_g v 0 f i) with
    | none => rfl
    | some b =>
      show u_i (u_i (u_i v k a j x) 9 f i (q_i (u_i v k a j x) 11 b 0)) 10 f i 3 = u_i (u_i (u_i v 9 f i (q_i v 11 b 0)) 10 f i 3) k a j x
      rw [show q_i (u_i v k a j x) 11 b 0 = q_i v 11 b 0 from q_ik (by omega), u_ic2 (show k ≠ 9 by omega), u_ic2 (show k ≠ 10 by omega)]
  · rw [if_neg q, if_neg q]
theorem fM_c {v : Si} {f k a j : Nat} {x : Int32} (h : k < 9) : ∀ i, fU (stM f) (u_i v k a j x) i = u_i (fU (stM f) v i) k a j x
  | 0 => rfl
  | i + 1 => by
    show stM f i (fU (stM f) (u_i v k a j x) i) = u_i (stM f i (fU (stM f) v i)) k a j x
    rw [fM_c h i, stM_c h]
set_option maxHeartbeats 4000000 in
set_option maxRecDepth 100000 in
theorem c_X11_take {l : Launch} {G : Gd} {M : Me} {h : Nat} {x : Xs} {y z : Int32} (hW : Wt M) (hX : AR M h x) (hO : WfO (x_u x)) (hS : WfS (x_u x)) (hT : WfT (x_u x)) (hE : ∀ w, w < n_e (x_u x) → 0 < q_i (x_u x) 11 w 0) : CQ (Qi G (fun r M2 => r = (d_take (x_u x) y z).1 ∧ AR M2 h (acX x (d_take (x_u x) y z).2) ∧ On M M2 ∧ Wt M2 ∧ Ta M M2 h)) l G yX11_take cX11_take 7 ((some .int)) 7 170 0 0 [.ref h, .int y, .int z] M := by
  refine c_of ([some (.ref h), some (.int y), some (.int z), none, none, none, none] : Lo) RX11 "take" (by decide) rfl rfl (Nat.le_of_ble_eq_true rfl) rfl (fun p e s m below meth c hC nw => ?_)
  have ht := hX.1
  have hA := hX.2.1.1
  have u1 := hA.1.1
  have u2 := hA.1.2.1
  have u3 := hA.1.2.2.1
  have u4 := hA.1.2.2.2.1
  have hwz := wz_31 hW (wf_276 hW ht)
  have loop : ∀ (Mb : Me) (f w : Nat), f < n_f (x_u x) → w < n_p (x_u x) → y = nI f → z = nI w → AR Mb h (pushX x) → On M Mb → Wt Mb → Ta M Mb h → q_i (x_u x) 4 f 0 = 0 → ¬ n_s (x_u x) f = 0 → ∀ (k i : Nat) (M1 : Me), i + k = 13 → i ≤ n_s (x_u x) f → Wr Mb M1 h → LA (rwM M1 h) (fU (stM f) (x_u x) i) → LPd (rwM M1 h) (x_u x) → V p l e (rmk 7 170 0 0) s m ([.ref h, .int y, .int z] : List Value).toArray below meth c 7 G (MQ below (Qi G (fun r M2 => r = (d_take (x_u x) y z).1 ∧ AR M2 h (acX x (d_take (x_u x) y z).2) ∧ On M M2 ∧ Wt M2 ∧ Ta M M2 h)) ([.ref h, .int y, .int z] : List Value).toArray s 0 0 (fr_ G)) M1 0 0 51 ([some (.ref h), some (.int (nI f)), some (.int (nI w)), some (.int (prc (x_u x) f (q_i (x_u x) 1 w 0))), some (.int (nI i)), none, none] : Lo) [] := by
    intro Mb f w hf hw ey ez hX9 hOn9 hW9 hTa9 h44 hns k
    subst ey
    subst ez
    have ht9 := hX9.1
    have hL9 := hX9.pu
    have hf8 : f < 8 := by omega
    have h12f := hA.1.2.2.2.2 f hf
    induction k with
    | zero => intro i M1 w1 w2; omega
    | succ k ih =>
      intro i M1 w1 w2 hwr hl hp
      have hW1 : Wt M1 := hwr.2.2.2.2.2.2 hW9
      have ht1 : m_t M1 h = 12 := (hwr.1.1.2.1 h).trans ht9
      have hwz1 := wz_31 hW1 (wf_276 hW1 ht1)
      have hK : Kp (x_u x) (fU (stM f) (x_u x) i) := Kp.fU (fun j v => stM_kp f j v) i
      have ens : ∀ g, n_s (fU (stM f) (x_u x) i) g = n_s (x_u x) g := fun g => by show (fU (stM f) (x_u x) i).1 4 g = (x_u x).1 4 g; rw [hK.1]
      have enf : n_f (fU (stM f) (x_u x) i) = n_f (x_u x) := by show (fU (stM f) (x_u x) i).1 0 0 = (x_u x).1 0 0; rw [hK.1]
      have ene : n_e (fU (stM f) (x_u x) i) = n_e (x_u x) := by show (fU (stM f) (x_u x) i).1 2 0 = (x_u x).1 2 0; rw [hK.1]
      have hfV : f < n_f (fU (stM f) (x_u x) i) := by rw [enf]; exact hf
      have hT1 : WfT (fU (stM f) (x_u x) i) := WfT.stMn hT hE i
      refine v_iload hC dX11_take_51 rfl ?_
      refine v_aload_n hC dX11_take_53 rfl rfl ?_
      refine v_iload_n hC dX11_take_54 rfl rfl ?_
      refine cVi1 hC (c_X11_many hW1 ht1 hl hfV) yv_X11_many rfl ht1 mw_5_15 ⟨Nat.le_of_ble_eq_true rfl, Nat.le_of_ble_eq_true rfl⟩ ⟨Nat.le_of_ble_eq_true rfl, Nat.le_of_ble_eq_true rfl⟩ (Nat.le_of_ble_eq_true rfl) dX11_take_55 (fun r55 M57 hq => ?_)
      obtain ⟨rfl, hm⟩ := hq
      have hm2 := hm.symm
      clear hm
      subst hm2
      rw [ens]
      refine v_icmp_ge hC dX11_take_58 (tgt := 118) (by decide) (fun h58 => ?_) (fun h58 => ?_)
      · have hi := lp_ge h58
        refine v_aload_n hC dX11_take_118 rfl rfl ?_
        refine gf_11_0 hC ht1 (wf_276 hW1 ht1) mw_4_120 dX11_take_119 ?_
        refine v_aload_n hC dX11_take_122 rfl rfl ?_
        refine v_iload_n hC dX11_take_123 rfl rfl ?_
        refine cVi1 hC (c_X11_fileBy ht1) yv_X11_fileBy rfl ht1 mw_4_222 ⟨Nat.le_of_ble_eq_true rfl, Nat.le_of_ble_eq_true rfl⟩ ⟨Nat.le_of_ble_eq_true rfl, Nat.le_of_ble_eq_true rfl⟩ (Nat.le_of_ble_eq_true rfl) dX11_take_124 (fun r124 M126 hq => ?_)
        obtain ⟨rfl, hm⟩ := hq
        have hm2 := hm.symm
        clear hm
        subst hm2
        refine v_iconst (v := 1) hC dX11_take_127 (by decide) ?_
        refine v_iadd hC dX11_take_128 ?_
        rw [show nI (18 + 7 * f) + 1 = nI (18 + 7 * f + 1) from nI_add _ 1]
        refine v_lconst (v := 1) hC dX11_take_129 (by decide) ?_
        refine v_last 31 hC (wf_276 hW1 ht1) (by decide) (by decide) (ix_c hwz1 (by omega)) dX11_take_130 ?_
        refine v_aload_n hC dX11_take_131 rfl rfl ?_
        refine gf_11_0 hC ht1 (wf_276 hW1 ht1) mw_4_120 dX11_take_132 ?_
        refine v_aload_n hC dX11_take_135 rfl rfl ?_
        refine v_iload_n hC dX11_take_136 rfl rfl ?_
        refine cVi1 hC (c_X11_fileBy ht1) yv_X11_fileBy rfl ht1 mw_4_222 ⟨Nat.le_of_ble_eq_true rfl, Nat.le_of_ble_eq_true rfl⟩ ⟨Nat.le_of_ble_eq_true rfl, Nat.le_of_ble_eq_true rfl⟩ (Nat.le_of_ble_eq_true rfl) dX11_take_137 (fun r137 M139 hq => ?_)
        obtain ⟨rfl, hm⟩ := hq
        have hm2 := hm.symm
        clear hm
        subst hm2
        refine v_iconst (v := 2) hC dX11_take_140 (by decide) ?_
        refine v_iadd hC dX11_take_141 ?_
        rw [show nI (18 + 7 * f) + 2 = nI (18 + 7 * f + 2) from nI_add _ 2]
        refine v_iload_n hC dX11_take_142 rfl rfl ?_
        refine v_i2l hC dX11_take_143 ?_
        refine v_last 31 hC (wf_276 hW1 ht1) (by decide) (by decide) (ix_c hwz1 (by omega)) dX11_take_144 ?_
        refine v_aload_n hC dX11_take_145 rfl rfl ?_
        refine gf_11_0 hC ht1 (wf_276 hW1 ht1) mw_4_120 dX11_take_146 ?_
        refine v_aload_n hC dX11_take_149 rfl rfl ?_
        refine v_iload_n hC dX11_take_150 rfl rfl ?_
        refine cVi1 hC (c_X11_fileBy ht1) yv_X11_fileBy rfl ht1 mw_4_222 ⟨Nat.le_of_ble_eq_true rfl, Nat.le_of_ble_eq_true rfl⟩ ⟨Nat.le_of_ble_eq_true rfl, Nat.le_of_ble_eq_true rfl⟩ (Nat.le_of_ble_eq_true rfl) dX11_take_151 (fun r151 M153 hq => ?_)
        obtain ⟨rfl, hm⟩ := hq
        have hm2 := hm.symm
        clear hm
        subst hm2
        refine v_iconst (v := 4) hC dX11_take_154 (by decide) ?_
        refine v_iadd hC dX11_take_155 ?_
        rw [show nI (18 + 7 * f) + 4 = nI (18 + 7 * f + 4) from nI_add _ 4]
        refine v_iload_n hC dX11_take_156 rfl rfl ?_
        refine v_i2l hC dX11_take_157 ?_
        refine v_last 31 hC (wf_276 hW1 ht1) (by decide) (by decide) (ix_c hwz1 (by omega)) dX11_take_158 ?_
        refine v_iload_n hC dX11_take_159 rfl rfl ?_
        refine v_iret hC dX11_take_160 ?_
        have e9 : i = n_s (x_u x) f := by omega
        have hD : d_take (x_u x) (nI f) (nI w) = (prc (x_u x) f (q_i (x_u x) 1 w 0), some (takeU (x_u x) f w)) := by rw [d_take, inN_s hf, inN_s hw]; exact if_neg (fun q => q.elim (fun k => k h44) hns)
        rw [hD]
        refine ⟨rfl, Wr.end hX9 hwr.sl.sl.sl hOn9 hW9 hTa9 ?_⟩
        have cc : ∀ k, 4 ≤ k → k ≤ 8 → cpR k f 0 := fun k q1 q2 => Or.inr (Or.inr (Or.inl ⟨q1, q2, hf8, rfl⟩))
        have n3 : ¬ q_i (x_u x) 4 f 0 = 3 := fun q => by rw [h44] at q; exact absurd q (by decide)
        have v4 : q_i (fU (stM f) (x_u x) i) 4 f 0 = 0 := (hK.2.2 4 f 0 (by omega)).trans h44
        rw [rwM_w, rwM_w, rwM_w, show 18 + 7 * f + 1 = pl 4 f 0 by simp [pl, pB_, pA_, pJ_]; omega, show 18 + 7 * f + 2 = pl 5 f 0 by simp [pl, pB_, pA_, pJ_]; omega, show 18 + 7 * f + 4 = pl 7 f 0 by simp [pl, pB_, pA_, pJ_]; omega]
        have a1 := hl.w4 (v := 1) f hf8 (Or.inr (Or.inr (fun q => by rw [v4] at q; exact absurd q (by decide))))
        have a2 := a1.w (v := nI w) 5 f 0 (cc 5 (by decide) (by decide)) (by decide) (by decide)
        have a3 := a2.w (v := prc (x_u x) f (q_i (x_u x) 1 w 0)) 7 f 0 (cc 7 (by decide) (by decide)) (by decide) (by decide)
        rw [show eb 5 (nI w) = (nI w).toInt64 from eb_o (by decide) (by decide), show eb 7 (prc (x_u x) f (q_i (x_u x) 1 w 0)) = (prc (x_u x) f (q_i (x_u x) 1 w 0)).toInt64 from eb_o (by decide) (by decide)] at a3
        have eU : takeU (x_u x) f w = u_i (u_i (u_i (fU (stM f) (x_u x) i) 4 f 0 1) 5 f 0 (nI w)) 7 f 0 (prc (x_u x) f (q_i (x_u x) 1 w 0)) := by
          unfold takeU
          rw [fM_c (by decide), fM_c (by decide), fM_c (by decide), e9, u_ic2 (show 7 ≠ 4 by decide), u_ic2 (show 7 ≠ 5 by decide)]
        rw [eU]
        have b3 := ((hp.off (v := 1) 4 f 0 u2 (Or.inl (cc 4 (by decide) (by decide))) (by decide)).off (v := (nI w).toInt64) 5 f 0 u2 (Or.inl (cc 5 (by decide) (by decide))) (by decide)).off (v := (prc (x_u x) f (q_i (x_u x) 1 w 0)).toInt64) 7 f 0 u2 (Or.inl (cc 7 (by decide) (by decide))) (by decide)
        have p0 : PdF (x_u x) (fU (stM f) (x_u x) i) := ⟨enf, fun g hg => ⟨by rw [hK.2.2 4 g 0 (by omega)], fun _ => ⟨hK.2.2 5 g 0 (by omega), hK.2.2 6 g 0 (by omega), hK.2.2 7 g 0 (by omega), by unfold w_f; rw [ens, show q_g (fU (stM f) (x_u x) i) 0 g = q_g (x_u x) 0 g from by show (fU (stM f) (x_u x) i).2.2 0 g = (x_u x).2.2 0 g; rw [hK.2.1]]⟩⟩⟩
        have p1 := p0.tr (PdF.at (v := 1) 4 f (by rw [v4]; decide) (fun _ => by decide))
        have p2 := p1.tr (PdF.at (v := nI w) 5 f (by rw [q_ie]; decide) (fun q => absurd q (by decide)))
        have p3 := p2.tr (PdF.at (v := prc (x_u x) f (q_i (x_u x) 1 w 0)) 7 f (by rw [q_ik (by decide), q_ie]; decide) (fun q => absurd q (by decide)))
        exact ⟨a3, b3.same p3 (by show (fU (stM f) (x_u x) i).1 1 0 = (x_u x).1 1 0; rw [hK.1])⟩
      · have hi := lp_lt h58
        refine v_aload_n hC dX11_take_61 rfl rfl ?_
        refine v_iload_n hC dX11_take_62 rfl rfl ?_
        refine v_iload hC dX11_take_63 rfl ?_
        refine cVi2 hC (c_X11_segmentAt ht1) yv_X11_segmentAt rfl ht1 mw_5_19 ⟨Nat.le_of_ble_eq_true rfl, Nat.le_of_ble_eq_true rfl⟩ ⟨Nat.le_of_ble_eq_true rfl, Nat.le_of_ble_eq_true rfl⟩ (Nat.le_of_ble_eq_true rfl) dX11_take_65 (fun r65 M67 hq => ?_)
        obtain ⟨rfl, hm⟩ := hq
        have hm2 := hm.symm
        clear hm
        subst hm2
        refine v_ist5 hC dX11_take_68 (by decide) (kk := ?_)
        refine v_aload_n hC dX11_take_70 rfl rfl ?_
        refine v_iload hC dX11_take_71 rfl ?_
        refine cVi1 hC (c_X11_entryLike hW1 ht1 hl (hl.sg hfV (by rw [ens]; exact hi)) (by omega)) yv_X11_entryLike rfl ht1 mw_5_111 ⟨Nat.le_of_ble_eq_true rfl, Nat.le_of_ble_eq_true rfl⟩ ⟨Nat.le_of_ble_eq_true rfl, Nat.le_of_ble_eq_true rfl⟩ (Nat.le_of_ble_eq_true rfl) dX11_take_73 (fun r73 M75 hq => ?_)
        obtain ⟨rfl, hm⟩ := hq
        have hm2 := hm.symm
        clear hm
        subst hm2
        refine v_ist6 hC dX11_take_76 (by decide) (kk := ?_)
        refine v_aload_n hC dX11_take_78 rfl rfl ?_
        refine v_iload hC dX11_take_79 rfl ?_
        refine cVi1 hC (c_X11_hasTarget hW1 ht1 hl hT1 hfV (by rw [ens]; exact hi)) yv_X11_hasTarget rfl ht1 mw_5_68 ⟨Nat.le_of_ble_eq_true rfl, Nat.le_of_ble_eq_true rfl⟩ ⟨Nat.le_of_ble_eq_true rfl, Nat.le_of_ble_eq_true rfl⟩ (Nat.le_of_ble_eq_true rfl) dX11_take_81 (fun r81 M83 hq => ?_)
        obtain ⟨hm, hq2⟩ := hq
        have hm2 := hm.symm
        clear hm
        subst hm2
        obtain ⟨g81, rfl⟩ | ⟨g81, rfl⟩ := hq2
        · refine v_if_ne hC dX11_take_84 (tgt := 112) (by decide) (fun _ => ?_) (fun hx => absurd hx (by decide))
          refine v_inc4 hC dX11_take_112 ((nI_succ i).symm) (by decide) (kk := ?_)
          refine v_goto hC dX11_take_115 (tgt := 51) (by decide) ?_
          refine v_drop 5 ?_
          refine v_drop 6 ?_
          first
            | exact ih (i + 1) M1 (by omega) (by omega) hwr (by rw [show fU (stM f) (x_u x) (i + 1) = (fU (stM f) (x_u x) i) from if_neg g81]; exact hl) hp
            | exact ih (i + 1) M1 (by omega) (by omega) hwr (by rw [show fU (stM f) (x_u x) (i + 1) = (fU (stM f) (x_u x) i) from (if_pos (Decidable.not_not.mp g81)).trans (by rw [hno])]; exact hl) hp
            | exact ih (i + 1) _ (by omega) (by omega) hwr.sl.sl (by
                rw [rwM_w, rwM_w, show fU (stM f) (x_u x) (i + 1) = u_i (u_i (fU (stM f) (x_u x) i) 9 f i (q_i (fU (stM f) (x_u x) i) 11 x1 0)) 10 f i 3 from (if_pos (Decidable.not_not.mp g81)).trans (by rw [hx1])]
                exact hl.give hf8 (by omega) hx0) (by
                rw [rwM_w, rwM_w]
                exact hp.give u2 hf8 (by omega))
        · refine v_if_ne hC dX11_take_84 (tgt := 112) (by decide) (fun hx => absurd hx (by decide)) (fun _ => ?_)
          refine v_iload hC dX11_take_87 rfl ?_
          refine v_if_lt hC dX11_take_89 (tgt := 112) (by decide) (fun h89 => ?_) (fun h89 => ?_)
          · have hno : alN (fU (stM f) (x_u x) i) (q_g (fU (stM f) (x_u x) i) 0 f i) = none := by
              cases w9 : alN (fU (stM f) (x_u x) i) (q_g (fU (stM f) (x_u x) i) 0 f i) with
              | none => rfl
              | some x1 => rw [w9] at h89; exact absurd h89 (fun z => i_ab z (nI_le (a := 0) (Nat.zero_le x1) (by have := alN_i w9; omega)))
            refine v_inc4 hC dX11_take_112 ((nI_succ i).symm) (by decide) (kk := ?_)
            refine v_goto hC dX11_take_115 (tgt := 51) (by decide) ?_
            refine v_drop 5 ?_
            refine v_drop 6 ?_
            first
              | exact ih (i + 1) M1 (by omega) (by omega) hwr (by rw [show fU (stM f) (x_u x) (i + 1) = (fU (stM f) (x_u x) i) from if_neg g81]; exact hl) hp
              | exact ih (i + 1) M1 (by omega) (by omega) hwr (by rw [show fU (stM f) (x_u x) (i + 1) = (fU (stM f) (x_u x) i) from (if_pos (Decidable.not_not.mp g81)).trans (by rw [hno])]; exact hl) hp
              | exact ih (i + 1) _ (by omega) (by omega) hwr.sl.sl (by
                  rw [rwM_w, rwM_w, show fU (stM f) (x_u x) (i + 1) = u_i (u_i (fU (stM f) (x_u x) i) 9 f i (q_i (fU (stM f) (x_u x) i) 11 x1 0)) 10 f i 3 from (if_pos (Decidable.not_not.mp g81)).trans (by rw [hx1])]
                  exact hl.give hf8 (by omega) hx0) (by
                  rw [rwM_w, rwM_w]
                  exact hp.give u2 hf8 (by omega))
          · obtain ⟨x1, hx1⟩ : ∃ x1, alN (fU (stM f) (x_u x) i) (q_g (fU (stM f) (x_u x) i) 0 f i) = some x1 := by
              cases w9 : alN (fU (stM f) (x_u x) i) (q_g (fU (stM f) (x_u x) i) 0 f i) with
              | none => rw [w9] at h89; exact absurd (show eN none < 0 by decide) h89
              | some x1 => exact ⟨x1, rfl⟩
            have hxn := alN_i hx1
            have hx0 : ¬ q_i (fU (stM f) (x_u x) i) 11 x1 0 = 0 := fun q => by
              have := hE x1 (by rw [← ene]; exact hxn)
              rw [← hK.2.2 11 x1 0 (by omega), q] at this
              exact absurd this (by decide)
            rw [hx1, show eN (some x1) = nI x1 from rfl]
            refine v_aload_n hC dX11_take_92 rfl rfl ?_
            refine v_iload hC dX11_take_93 rfl ?_
            refine v_aload_n hC dX11_take_95 rfl rfl ?_
            refine v_aload_n hC dX11_take_96 rfl rfl ?_
            refine v_iload hC dX11_take_97 rfl ?_
            refine cVi1 hC (c_X11_entryAt ht1) yv_X11_entryAt rfl ht1 mw_5_35 ⟨Nat.le_of_ble_eq_true rfl, Nat.le_of_ble_eq_true rfl⟩ ⟨Nat.le_of_ble_eq_true rfl, Nat.le_of_ble_eq_true rfl⟩ (Nat.le_of_ble_eq_true rfl) dX11_take_99 (fun r99 M101 hq => ?_)
            obtain ⟨rfl, hm⟩ := hq
            have hm2 := hm.symm
            clear hm
            subst hm2
            refine v_bipush (v := 9) hC dX11_take_102 (by decide) ?_
            refine v_iadd hC dX11_take_104 ?_
            rw [show nI (166 + 11 * x1) + 9 = nI (166 + 11 * x1 + 9) from nI_add _ 9]
            refine cVi1 hC (c_X11_number hW1 ht1 (by omega)) yv_X11_number rfl ht1 mw_4_165 ⟨Nat.le_of_ble_eq_true rfl, Nat.le_of_ble_eq_true rfl⟩ ⟨Nat.le_of_ble_eq_true rfl, Nat.le_of_ble_eq_true rfl⟩ (Nat.le_of_ble_eq_true rfl) dX11_take_105 (fun r105 M107 hq => ?_)
            obtain ⟨rfl, hm⟩ := hq
            have hm2 := hm.symm
            clear hm
            subst hm2
            rw [show (rwM M1 h (166 + 11 * x1 + 9)).toInt32 = q_i (fU (stM f) (x_u x) i) 11 x1 0 from by rw [(hl.e2 hxn).1, Int32.toInt32_toInt64]]
            refine v_iconst (v := 3) hC dX11_take_108 (by decide) ?_
            refine cVv3 hC (c_X11_give hW1 ht1 (by omega)) yv_X11_give rfl ht1 mw_5_115 ⟨Nat.le_of_ble_eq_true rfl, Nat.le_of_ble_eq_true rfl⟩ ⟨Nat.le_of_ble_eq_true rfl, Nat.le_of_ble_eq_true rfl⟩ (Nat.le_of_ble_eq_true rfl) dX11_take_109 (fun M111 hq => ?_)
            subst hq
            refine v_inc4 hC dX11_take_112 ((nI_succ i).symm) (by decide) (kk := ?_)
            refine v_goto hC dX11_take_115 (tgt := 51) (by decide) ?_
            refine v_drop 5 ?_
            refine v_drop 6 ?_
            first
              | exact ih (i + 1) M1 (by omega) (by omega) hwr (by rw [show fU (stM f) (x_u x) (i + 1) = (fU (stM f) (x_u x) i) from if_neg g81]; exact hl) hp
              | exact ih (i + 1) M1 (by omega) (by omega) hwr (by rw [show fU (stM f) (x_u x) (i + 1) = (fU (stM f) (x_u x) i) from (if_pos (Decidable.not_not.mp g81)).trans (by rw [hno])]; exact hl) hp
              | exact ih (i + 1) _ (by omega) (by omega) hwr.sl.sl (by
                  rw [rwM_w, rwM_w, show fU (stM f) (x_u x) (i + 1) = u_i (u_i (fU (stM f) (x_u x) i) 9 f i (q_i (fU (stM f) (x_u x) i) 11 x1 0)) 10 f i 3 from (if_pos (Decidable.not_not.mp g81)).trans (by rw [hx1])]
                  exact hl.give hf8 (by omega) hx0) (by
                  rw [rwM_w, rwM_w]
                  exact hp.give u2 hf8 (by omega))
  refine v_aload_n hC dX11_take_0 rfl rfl ?_
  refine v_iload_n hC dX11_take_1 rfl rfl ?_
  refine cVi1 hC (c_X11_noFile hW ht hA) yv_X11_noFile rfl ht mw_4_230 ⟨Nat.le_of_ble_eq_true rfl, Nat.le_of_ble_eq_true rfl⟩ ⟨Nat.le_of_ble_eq_true rfl, Nat.le_of_ble_eq_true rfl⟩ (Nat.le_of_ble_eq_true rfl) dX11_take_2 (fun r2 M4 hq => ?_)
  obtain ⟨hm, hq2⟩ := hq
  have hm2 := hm.symm
  clear hm
  subst hm2
  obtain ⟨g2, rfl⟩ | ⟨g2, rfl⟩ := hq2
  · refine v_if_ne hC dX11_take_5 (tgt := 16) (by decide) (fun hx => absurd hx (by decide)) (fun _ => ?_)
    refine v_aload_n hC dX11_take_8 rfl rfl ?_
    refine v_iload_n hC dX11_take_9 rfl rfl ?_
    refine cVi1 hC (c_X11_noPerson hW ht hA) yv_X11_noPerson rfl ht mw_4_194 ⟨Nat.le_of_ble_eq_true rfl, Nat.le_of_ble_eq_true rfl⟩ ⟨Nat.le_of_ble_eq_true rfl, Nat.le_of_ble_eq_true rfl⟩ (Nat.le_of_ble_eq_true rfl) dX11_take_10 (fun r10 M12 hq => ?_)
    obtain ⟨hm, hq2⟩ := hq
    have hm2 := hm.symm
    clear hm
    subst hm2
    obtain ⟨g10, rfl⟩ | ⟨g10, rfl⟩ := hq2
    · refine v_if_eq hC dX11_take_13 (tgt := 18) (by decide) (fun _ => ?_) (fun hx => absurd hx (by decide))
      obtain ⟨f, hf, rfl⟩ := g2
      obtain ⟨w, hw, rfl⟩ := g10
      have h12f := hA.1.2.2.2.2 f hf
      refine v_aload_n hC dX11_take_18 rfl rfl ?_
      refine v_iload_n hC dX11_take_19 rfl rfl ?_
      refine cVi1 hC (c_X11_state hW ht hA hf) yv_X11_state rfl ht mw_5_11 ⟨Nat.le_of_ble_eq_true rfl, Nat.le_of_ble_eq_true rfl⟩ ⟨Nat.le_of_ble_eq_true rfl, Nat.le_of_ble_eq_true rfl⟩ (Nat.le_of_ble_eq_true rfl) dX11_take_20 (fun r20 M22 hq => ?_)
      obtain ⟨rfl, hm⟩ := hq
      have hm2 := hm.symm
      clear hm
      subst hm2
      refine v_if_ne hC dX11_take_23 (tgt := 34) (by decide) (fun h23 => ?_) (fun h23 => ?_)
      · refine v_bipush (v := (-4)) hC dX11_take_34 (by decide) ?_
        refine v_iret hC dX11_take_36 ?_
        first
          | (have hD : d_take (x_u x) (nI f) (nI w) = (-4, none) := by rw [d_take, inN_s hf, inN_s hw]; exact if_pos (Or.inl h23)
             rw [hD]; exact ⟨rfl, hX, On.rf, hW, Ta.rf⟩)
          | (have hD : d_take (x_u x) (nI f) (nI w) = (-4, none) := by rw [d_take, inN_s hf, inN_s hw]; exact if_pos (Or.inr ((nI_eq (b := 0) (by omega) (by omega)).mp (Decidable.not_not.mp (fun q => q h31))))
             rw [hD]; exact ⟨rfl, hX, On.rf, hW, Ta.rf⟩)
      · have h44 : q_i (x_u x) 4 f 0 = 0 := Decidable.not_not.mp (fun q => q h23)
        refine v_aload_n hC dX11_take_26 rfl rfl ?_
        refine v_iload_n hC dX11_take_27 rfl rfl ?_
        refine cVi1 hC (c_X11_many hW ht hA hf) yv_X11_many rfl ht mw_5_15 ⟨Nat.le_of_ble_eq_true rfl, Nat.le_of_ble_eq_true rfl⟩ ⟨Nat.le_of_ble_eq_true rfl, Nat.le_of_ble_eq_true rfl⟩ (Nat.le_of_ble_eq_true rfl) dX11_take_28 (fun r28 M30 hq => ?_)
        obtain ⟨rfl, hm⟩ := hq
        have hm2 := hm.symm
        clear hm
        subst hm2
        refine v_if_ne hC dX11_take_31 (tgt := 37) (by decide) (fun h31 => ?_) (fun h31 => ?_)
        · refine v_aload_n hC dX11_take_37 rfl rfl ?_
          refine cVv0 hC (c_X11_record hW hX) yv_X11_record rfl ht mw_4_173 ⟨Nat.le_of_ble_eq_true rfl, Nat.le_of_ble_eq_true rfl⟩ ⟨Nat.le_of_ble_eq_true rfl, Nat.le_of_ble_eq_true rfl⟩ (Nat.le_of_ble_eq_true rfl) dX11_take_38 (fun M40 hq => ?_)
          obtain ⟨hX9, hOn9, hW9, hTa9⟩ := hq
          have ht9 := hX9.1
          have hL9 := hX9.pu
          have hwz9 := wz_31 hW9 (wf_276 hW9 ht9)
          
          refine v_aload_n hC dX11_take_41 rfl rfl ?_
          refine v_iload_n hC dX11_take_42 rfl rfl ?_
          refine v_iload_n hC dX11_take_43 rfl rfl ?_
          refine cVi2 hC (c_X11_priceOf hW9 ht9 hL9.1 hO hS hf (Or.inl h44) hw) yv_X11_priceOf rfl ht9 mw_5_76 ⟨Nat.le_of_ble_eq_true rfl, Nat.le_of_ble_eq_true rfl⟩ ⟨Nat.le_of_ble_eq_true rfl, Nat.le_of_ble_eq_true rfl⟩ (Nat.le_of_ble_eq_true rfl) dX11_take_44 (fun r44 M46 hq => ?_)
          obtain ⟨rfl, hB8⟩ := hq
          refine v_ist3 hC dX11_take_47 (by decide) (kk := ?_)
          refine v_iconst (v := 0) hC dX11_take_48 (by decide) ?_
          refine v_ist4 hC dX11_take_49 (by decide) (kk := ?_)
          have h44 : q_i (x_u x) 4 f 0 = 0 := Decidable.not_not.mp (fun q => q h23)
          exact loop _ f w hf hw rfl rfl hX9 hOn9 hW9 hTa9 h44 (fun q => h31 (by rw [q]; rfl)) 13 0 _ (by omega) (by omega) (Wr.rf.bd hB8) (by obtain ⟨b8, rfl⟩ := hB8; exact hL9.1) (by obtain ⟨b8, rfl⟩ := hB8; exact hL9.2)
        · refine v_bipush (v := (-4)) hC dX11_take_34 (by decide) ?_
          refine v_iret hC dX11_take_36 ?_
          first
            | (have hD : d_take (x_u x) (nI f) (nI w) = (-4, none) := by rw [d_take, inN_s hf, inN_s hw]; exact if_pos (Or.inl h23)
               rw [hD]; exact ⟨rfl, hX, On.rf, hW, Ta.rf⟩)
            | (have hD : d_take (x_u x) (nI f) (nI w) = (-4, none) := by rw [d_take, inN_s hf, inN_s hw]; exact if_pos (Or.inr ((nI_eq (b := 0) (by omega) (by omega)).mp (Decidable.not_not.mp (fun q => q h31))))
               rw [hD]; exact ⟨rfl, hX, On.rf, hW, Ta.rf⟩)
    · refine v_if_eq hC dX11_take_13 (tgt := 18) (by decide) (fun hx => absurd hx (by decide)) (fun _ => ?_)
      refine v_iconst (v := (-1)) hC dX11_take_16 (by decide) ?_
      refine v_iret hC dX11_take_17 ?_
      first
        | (have hD : d_take (x_u x) y z = (-1, none) := by rw [d_take, inN_o g2]
           rw [hD]; exact ⟨rfl, hX, On.rf, hW, Ta.rf⟩)
        | (have hD : d_take (x_u x) y z = (-1, none) := by
             rw [d_take, inN_o g10]
             split
             · rename_i q; cases q
             · rfl
           rw [hD]; exact ⟨rfl, hX, On.rf, hW, Ta.rf⟩)
  · refine v_if_ne hC dX11_take_5 (tgt := 16) (by decide) (fun _ => ?_) (fun hx => absurd hx (by decide))
    refine v_iconst (v := (-1)) hC dX11_take_16 (by decide) ?_
    refine v_iret hC dX11_take_17 ?_
    first
      | (have hD : d_take (x_u x) y z = (-1, none) := by rw [d_take, inN_o g2]
         rw [hD]; exact ⟨rfl, hX, On.rf, hW, Ta.rf⟩)
      | (have hD : d_take (x_u x) y z = (-1, none) := by
           rw [d_take, inN_o g10]
           split
           · rename_i q; cases q
           · rfl
         rw [hD]; exact ⟨rfl, hX, On.rf, hW, Ta.rf⟩)
