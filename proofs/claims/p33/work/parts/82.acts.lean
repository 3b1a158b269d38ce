/-- what is done to the row alone -/
def Wr (M M2 : Me) (h : Nat) : Prop := On M M2 ∧ asd M2 h = asd M h ∧ pas M2 h = pas M h ∧ m_i M2 279 h 0 = m_i M 279 h 0 ∧ m_i M2 280 h 0 = m_i M 280 h 0 ∧ Ta M M2 h ∧ (Wt M → Wt M2)
theorem Wr.rf {M : Me} {h : Nat} : Wr M M h := ⟨On.rf, rfl, rfl, rfl, rfl, Ta.rf, id⟩
theorem Wr.sl {M M2 : Me} {h a p : Nat} {v : Int64} (w : Wr M M2 h) : Wr M (s_l M2 31 a p v) h := ⟨w.1.sl (by decide), funext fun q => (l_sk (by decide)).trans (congrFun w.2.1 q), funext fun q => (l_sk (by decide)).trans (congrFun w.2.2.1 q), w.2.2.2.1, w.2.2.2.2.1, fun t c q => w.2.2.2.2.2.1 t c q, fun q => w.2.2.2.2.2.2 q⟩
theorem Wr.bd {M M2 M3 : Me} {h : Nat} (w : Wr M M2 h) (q : Bd M2 M3) : Wr M M3 h := by
  have on := On.bd q
  obtain ⟨b, rfl⟩ := q
  exact ⟨w.1.tr on, w.2.1, w.2.2.1, w.2.2.2.1, w.2.2.2.2.1, fun t c q => w.2.2.2.2.2.1 t c q, fun q => w.2.2.2.2.2.2 q⟩
theorem AR.fin {M M2 : Me} {h : Nat} {x : Xs} {u : Si} (a : AR M h (pushX x)) (w : Wr M M2 h) (hr : LRw (rwM M2 h) u) : AR M2 h (acX x (some u)) := by
  obtain ⟨a1, a2, ⟨a3, a4, a5⟩, a6, a7, a8⟩ := a
  obtain ⟨w1, w2, w3, w4, w5, w6, w7⟩ := w
  refine ⟨(w1.1.2.1 h).trans a1, hr, ⟨a3, w4.trans a4, fun j hj => ?_⟩, w5.trans a6, a7, fun e => ?_⟩
  · rw [w3]; exact a5 j hj
  · rw [w2]; exact a8 e
theorem Wr.end {M0 M M2 : Me} {h : Nat} {x : Xs} {u : Si} (a : AR M h (pushX x)) (w : Wr M M2 h) (o : On M0 M) (hW : Wt M) (t : Ta M0 M h) (hr : LRw (rwM M2 h) u) : AR M2 h (acX x (some u)) ∧ On M0 M2 ∧ Wt M2 ∧ Ta M0 M2 h := ⟨a.fin w hr, o.tr w.1, w.2.2.2.2.2.2 hW, t.tr w.2.2.2.2.2.1⟩
theorem AR.pu {M : Me} {h : Nat} {x : Xs} (a : AR M h (pushX x)) : LRw (rwM M h) (x_u x) := by
  have := a.2.1
  rwa [pushX_u] at this
/-! what was paid stays while the delivered files stay -/
def PdF (u v : Si) : Prop := n_f v = n_f u ∧ ∀ f, f < n_f u → (q_i v 4 f 0 = 3 ↔ q_i u 4 f 0 = 3) ∧ (q_i u 4 f 0 = 3 → q_i v 5 f 0 = q_i u 5 f 0 ∧ q_i v 6 f 0 = q_i u 6 f 0 ∧ q_i v 7 f 0 = q_i u 7 f 0 ∧ w_f v f = w_f u f)
theorem PdF.rf {u : Si} : PdF u u := ⟨rfl, fun _ _ => ⟨Iff.rfl, fun _ => ⟨rfl, rfl, rfl, rfl⟩⟩⟩
theorem PdF.tr {u v w : Si} (a : PdF u v) (b : PdF v w) : PdF u w := ⟨b.1.trans a.1, fun f hf => by
  obtain ⟨a1, a2⟩ := a.2 f hf
  obtain ⟨b1, b2⟩ := b.2 f (by rw [a.1]; exact hf)
  refine ⟨b1.trans a1, fun q => ?_⟩
  obtain ⟨x1, x2, x3, x4⟩ := a2 q
  obtain ⟨y1, y2, y3, y4⟩ := b2 (a1.mpr q)
  exact ⟨y1.trans x1, y2.trans x2, y3.trans x3, y4.trans x4⟩⟩
theorem PdF.i {u : Si} {v : Int32} (k a j : Nat) (hk : k < 4 ∨ 7 < k) : PdF u (u_i u k a j v) := ⟨rfl, fun f hf => by
  rw [q_ik (show 4 ≠ k by omega), q_ik (show 5 ≠ k by omega), q_ik (show 6 ≠ k by omega), q_ik (show 7 ≠ k by omega)]
  exact ⟨Iff.rfl, fun _ => ⟨rfl, rfl, rfl, rfl⟩⟩⟩
theorem PdF.at {u : Si} {v : Int32} (k f : Nat) (h3 : ¬ q_i u 4 f 0 = 3) (hv : k = 4 → ¬ v = 3) : PdF u (u_i u k f 0 v) := ⟨rfl, fun g hg => by
  by_cases e : g = f
  · subst e
    refine ⟨⟨fun q => ?_, fun q => absurd q h3⟩, fun q => absurd q h3⟩
    rw [q_iu] at q
    by_cases e2 : 4 = k
    · rw [if_pos ⟨e2, rfl, rfl⟩] at q
      exact absurd q (hv e2.symm)
    · rw [if_neg (fun z => e2 z.1)] at q
      exact q
  · rw [q_ia e, q_ia e, q_ia e, q_ia e]
    exact ⟨Iff.rfl, fun _ => ⟨rfl, rfl, rfl, rfl⟩⟩⟩
theorem PdF.t {u v : Si} (a : PdF u v) (x : Int32) : sm (T_wr v x) (n_f v) = sm (T_wr u x) (n_f u) ∧ sm (T_pt v x) (n_f v) = sm (T_pt u x) (n_f u) ∧ sm (T_wt v x) (n_f v) = sm (T_wt u x) (n_f u) := by
  obtain ⟨a1, a2⟩ := a
  rw [a1]
  refine ⟨sm_congr fun f hf => ?_, sm_congr fun f hf => ?_, sm_congr fun f hf => ?_⟩
  · obtain ⟨b1, b2⟩ := a2 f hf
    unfold T_wr
    by_cases q : q_i u 4 f 0 = 3
    · obtain ⟨x1, x2, x3, x4⟩ := b2 q
      rw [x2, x4, q, b1.mpr q]
    · rw [if_neg (fun z => q (b1.mp z.1)), if_neg (fun z => q z.1)]
  · obtain ⟨b1, b2⟩ := a2 f hf
    unfold T_pt
    by_cases q : q_i u 4 f 0 = 3
    · obtain ⟨x1, x2, x3, x4⟩ := b2 q
      rw [x1, x3, q, b1.mpr q]
    · rw [if_neg (fun z => q (b1.mp z.1)), if_neg (fun z => q z.1)]
  · obtain ⟨b1, b2⟩ := a2 f hf
    unfold T_wt
    by_cases q : q_i u 4 f 0 = 3
    · obtain ⟨x1, x2, x3, x4⟩ := b2 q
      rw [x1, x4, q, b1.mpr q]
    · rw [if_neg (fun z => q (b1.mp z.1)), if_neg (fun z => q z.1)]
theorem LPd.same {r : Nat → Int64} {u v : Si} (h : LPd r u) (a : PdF u v) (e : n_p v = n_p u) : LPd r v := fun p hp => by
  obtain ⟨b1, b2, b3⟩ := h p (by rw [← e]; exact hp)
  obtain ⟨t1, t2, t3⟩ := a.t (nI p)
  refine ⟨?_, ?_, ?_⟩
  · rw [b1]; unfold paid; rw [t1, t2]
  · rw [b2, t3]
  · rw [b3, t1]
theorem LPd.off {r : Nat → Int64} {u : Si} {v : Int64} (k a j : Nat) (h : LPd r u) (hn : n_p u ≤ 6) (hc : cpX k a j) (hk : k < 20 ∨ 22 < k) : LPd (updR r (pl k a j) v) u := fun p hp => by
  rw [updR_n (pl_ne hc (cX_2x (k := 20) (by decide) (by decide) (by omega)) (by omega)), updR_n (pl_ne hc (cX_2x (k := 21) (by decide) (by decide) (by omega)) (by omega)), updR_n (pl_ne hc (cX_2x (k := 22) (by decide) (by decide) (by omega)) (by omega))]
  exact h p hp
theorem LPd.hire {r : Nat → Int64} {u v : Si} (h : LPd r u) (w : WfK u) (hn : n_p u < 6) (a : PdF u v) (e : n_p v = n_p u + 1) (z : ∀ k, 20 ≤ k → k ≤ 22 → r (pl k (n_p u) 0) = 0) : LPd r v := fun p hp => by
  obtain ⟨t1, t2, t3⟩ := a.t (nI p)
  unfold paid
  rw [t1, t2, t3]
  by_cases q : p = n_p u
  · subst q
    have z1 : sm (T_wr u (nI (n_p u))) (n_f u) = 0 := by
      rw [← sm_zero (n_f u)]
      refine sm_congr fun f hf => if_neg (fun y => ?_)
      obtain ⟨-, b, hb, eb⟩ := w f hf y.1
      have := (nI_eq (by omega) (by omega)).mp (eb.symm.trans y.2)
      omega
    have z2 : sm (T_pt u (nI (n_p u))) (n_f u) = 0 := by
      rw [← sm_zero (n_f u)]
      refine sm_congr fun f hf => if_neg (fun y => ?_)
      obtain ⟨⟨b, hb, eb⟩, -⟩ := w f hf y.1
      have := (nI_eq (by omega) (by omega)).mp (eb.symm.trans y.2)
      omega
    have z3 : sm (T_wt u (nI (n_p u))) (n_f u) = 0 := by
      rw [← sm_zero (n_f u)]
      refine sm_congr fun f hf => if_neg (fun y => ?_)
      obtain ⟨⟨b, hb, eb⟩, -⟩ := w f hf y.1
      have := (nI_eq (by omega) (by omega)).mp (eb.symm.trans y.2)
      omega
    rw [z1, z2, z3, z 20 (by decide) (by decide), z 21 (by decide) (by decide), z 22 (by decide) (by decide)]
    decide
  · exact h p (by omega)
theorem LPd.file {r : Nat → Int64} {u v : Si} (h : LPd r u) (a : ∀ f, f < n_f u → (q_i v 4 f 0 = q_i u 4 f 0 ∧ q_i v 5 f 0 = q_i u 5 f 0 ∧ q_i v 6 f 0 = q_i u 6 f 0 ∧ q_i v 7 f 0 = q_i u 7 f 0 ∧ w_f v f = w_f u f)) (ef : n_f v = n_f u + 1) (e : n_p v = n_p u) (e4 : ¬ q_i v 4 (n_f u) 0 = 3) : LPd r v := fun p hp => by
  obtain ⟨b1, b2, b3⟩ := h p (by rw [← e]; exact hp)
  have t1 : sm (T_wr v (nI p)) (n_f v) = sm (T_wr u (nI p)) (n_f u) := by
    rw [ef, sm_s, show T_wr v (nI p) (n_f u) = 0 from if_neg (fun z => e4 z.1), Int32.add_zero]
    refine sm_congr fun f hf => ?_
    obtain ⟨x0, x1, x2, x3, x4⟩ := a f hf
    unfold T_wr; rw [x0, x2, x4]
  have t2 : sm (T_pt v (nI p)) (n_f v) = sm (T_pt u (nI p)) (n_f u) := by
    rw [ef, sm_s, show T_pt v (nI p) (n_f u) = 0 from if_neg (fun z => e4 z.1), Int32.add_zero]
    refine sm_congr fun f hf => ?_
    obtain ⟨x0, x1, x2, x3, x4⟩ := a f hf
    unfold T_pt; rw [x0, x1, x3]
  have t3 : sm (T_wt v (nI p)) (n_f v) = sm (T_wt u (nI p)) (n_f u) := by
    rw [ef, sm_s, show T_wt v (nI p) (n_f u) = 0 from if_neg (fun z => e4 z.1), Int32.add_zero]
    refine sm_congr fun f hf => ?_
    obtain ⟨x0, x1, x2, x3, x4⟩ := a f hf
    unfold T_wt; rw [x0, x1, x4]
  refine ⟨?_, ?_, ?_⟩
  · rw [b1]; unfold paid; rw [t1, t2]
  · rw [b2, t3]
  · rw [b3, t1]
set_option maxHeartbeats 4000000 in
set_option maxRecDepth 100000 in
theorem c_X11_setShare {l : Launch} {G : Gd} {M : Me} {h : Nat} {x : Xs} {y z : Int32} (hW : Wt M) (hX : AR M h x) : CQ (Qi G (fun r M2 => r = (d_setShare (x_u x) y z).1 ∧ AR M2 h (acX x (d_setShare (x_u x) y z).2) ∧ On M M2 ∧ Wt M2 ∧ Ta M M2 h)) l G yX11_setShare cX11_setShare 4 ((some .int)) 1 22 0 0 [.ref h, .int y, .int z] M := by
  refine c_of ([some (.ref h), some (.int y), some (.int z), none] : Lo) RX11 "setShare" (by decide) rfl rfl (Nat.le_of_ble_eq_true rfl) rfl (fun p e s m below meth c hC nw => ?_)
  have ht := hX.1
  have hA := hX.2.1.1
  have u1 := hA.1.1
  have u2 := hA.1.2.1
  have u3 := hA.1.2.2.1
  have u4 := hA.1.2.2.2.1
  have hwz := wz_31 hW (wf_276 hW ht)
  refine v_iload_n hC dX11_setShare_0 rfl rfl ?_
  refine v_iconst (v := 0) hC dX11_setShare_1 (by decide) ?_
  refine v_iconst (v := 5) hC dX11_setShare_2 (by decide) ?_
  refine cSi3 hC (c_X11_in ) ys_X11_in mw_4_181 ⟨Nat.le_of_ble_eq_true rfl, Nat.le_of_ble_eq_true rfl⟩ ⟨Nat.le_of_ble_eq_true rfl, Nat.le_of_ble_eq_true rfl⟩ (Nat.le_of_ble_eq_true rfl) dX11_setShare_3 (fun r3 M5 hq => ?_)
  obtain ⟨hm, hq2⟩ := hq
  have hm2 := hm.symm
  clear hm
  subst hm2
  obtain ⟨g3, rfl⟩ | ⟨g3, rfl⟩ := hq2
  · refine v_if_eq hC dX11_setShare_6 (tgt := 19) (by decide) (fun hx => absurd hx (by decide)) (fun _ => ?_)
    refine v_iload_n hC dX11_setShare_9 rfl rfl ?_
    refine v_iconst (v := 0) hC dX11_setShare_10 (by decide) ?_
    refine v_bipush (v := 100) hC dX11_setShare_11 (by decide) ?_
    refine cSi3 hC (c_X11_in ) ys_X11_in mw_4_181 ⟨Nat.le_of_ble_eq_true rfl, Nat.le_of_ble_eq_true rfl⟩ ⟨Nat.le_of_ble_eq_true rfl, Nat.le_of_ble_eq_true rfl⟩ (Nat.le_of_ble_eq_true rfl) dX11_setShare_13 (fun r13 M15 hq => ?_)
    obtain ⟨hm, hq2⟩ := hq
    have hm2 := hm.symm
    clear hm
    subst hm2
    obtain ⟨g13, rfl⟩ | ⟨g13, rfl⟩ := hq2
    · refine v_if_ne hC dX11_setShare_16 (tgt := 22) (by decide) (fun _ => ?_) (fun hx => absurd hx (by decide))
      obtain ⟨b1, hb1, rfl⟩ : rgI y 6 := rg_in g3.1 (fun q => g3.2 (Int32.lt_of_lt_of_le (by decide) q)) (by omega)
      refine v_aload_n hC dX11_setShare_22 rfl rfl ?_
      refine v_iconst (v := 4) hC dX11_setShare_23 (by decide) ?_
      refine v_iload_n hC dX11_setShare_24 rfl rfl ?_
      refine v_iadd hC dX11_setShare_25 ?_
      rw [show 4 + nI b1 = nI (4 + b1) from nI_add 4 b1]
      refine cVi1 hC (c_X11_number hW ht (by omega)) yv_X11_number rfl ht mw_4_165 ⟨Nat.le_of_ble_eq_true rfl, Nat.le_of_ble_eq_true rfl⟩ ⟨Nat.le_of_ble_eq_true rfl, Nat.le_of_ble_eq_true rfl⟩ (Nat.le_of_ble_eq_true rfl) dX11_setShare_26 (fun r26 M28 hq => ?_)
      obtain ⟨rfl, hm⟩ := hq
      have hm2 := hm.symm
      clear hm
      subst hm2
      rw [show rwM M h (4 + b1) = _ from hA.h0 hb1, Int32.toInt32_toInt64]
      refine v_ist3 hC dX11_setShare_29 (by decide) (kk := ?_)
      refine v_iload_n hC dX11_setShare_30 rfl rfl ?_
      refine v_iload_n hC dX11_setShare_31 rfl rfl ?_
      refine v_icmp_ne hC dX11_setShare_32 (tgt := 38) (by decide) (fun h32 => ?_) (fun h32 => ?_)
      · refine v_aload_n hC dX11_setShare_38 rfl rfl ?_
        refine cVv0 hC (c_X11_record hW hX) yv_X11_record rfl ht mw_4_173 ⟨Nat.le_of_ble_eq_true rfl, Nat.le_of_ble_eq_true rfl⟩ ⟨Nat.le_of_ble_eq_true rfl, Nat.le_of_ble_eq_true rfl⟩ (Nat.le_of_ble_eq_true rfl) dX11_setShare_39 (fun M41 hq => ?_)
        obtain ⟨hX9, hOn9, hW9, hTa9⟩ := hq
        have ht9 := hX9.1
        have hL9 := hX9.pu
        have hwz9 := wz_31 hW9 (wf_276 hW9 ht9)
        refine v_aload_n hC dX11_setShare_42 rfl rfl ?_
        refine gf_11_0 hC ht9 (wf_276 hW9 ht9) mw_4_120 dX11_setShare_43 ?_
        refine v_iconst (v := 4) hC dX11_setShare_46 (by decide) ?_
        refine v_iload_n hC dX11_setShare_47 rfl rfl ?_
        refine v_iadd hC dX11_setShare_48 ?_
        rw [show 4 + nI b1 = nI (4 + b1) from nI_add 4 b1]
        refine v_iload_n hC dX11_setShare_49 rfl rfl ?_
        refine v_i2l hC dX11_setShare_50 ?_
        refine v_last 31 hC (wf_276 hW9 ht9) (by decide) (by decide) (ix_c hwz9 (by omega)) dX11_setShare_51 ?_
        refine v_iload_n hC dX11_setShare_52 rfl rfl ?_
        refine v_iret hC dX11_setShare_53 ?_
        have hD : d_setShare (x_u x) (nI b1) z = (q_i (x_u x) 0 0 b1, some (u_i (x_u x) 0 0 b1 z)) := by rw [d_setShare, inN_s hb1]; show (if _ then _ else _) = _; rw [if_neg (fun q => q.elim g13.1 g13.2), if_neg h32]
        rw [hD]
        refine ⟨rfl, Wr.end hX9 (by repeat (first | exact Wr.rf | refine Wr.sl ?_)) hOn9 hW9 hTa9 ?_⟩
        have hc : cpR 0 0 b1 := Or.inl ⟨rfl, rfl, hb1⟩
        rw [rwM_w, show 4 + b1 = pl 0 0 b1 by simp [pl, pB_, pA_, pJ_]]
        exact ⟨hL9.1.w 0 0 b1 hc (by decide) (by decide), (hL9.2.off 0 0 b1 u2 (Or.inl hc) (by decide)).same (PdF.i 0 0 b1 (by decide)) rfl⟩
      · refine v_bipush (v := (-5)) hC dX11_setShare_35 (by decide) ?_
        refine v_iret hC dX11_setShare_37 ?_
        have hD : d_setShare (x_u x) (nI b1) z = (-5, none) := by rw [d_setShare, inN_s hb1]; show (if _ then _ else _) = _; rw [if_neg (fun q => q.elim g13.1 g13.2), if_pos (Decidable.not_not.mp (fun q => q h32))]
        rw [hD]; exact ⟨rfl, hX, On.rf, hW, Ta.rf⟩
    · refine v_if_ne hC dX11_setShare_16 (tgt := 22) (by decide) (fun hx => absurd hx (by decide)) (fun _ => ?_)
      refine v_bipush (v := (-2)) hC dX11_setShare_19 (by decide) ?_
      refine v_iret hC dX11_setShare_21 ?_
      first
        | (have hD : d_setShare (x_u x) y z = (-2, none) := by rw [d_setShare, inN_o (fun q => g3 (in6 q))]
           rw [hD]; exact ⟨rfl, hX, On.rf, hW, Ta.rf⟩)
        | (have hD : d_setShare (x_u x) y z = (-2, none) := by
             obtain ⟨b1, hb1, rfl⟩ : rgI y 6 := rg_in g3.1 (fun q => g3.2 (Int32.lt_of_lt_of_le (by decide) q)) (by omega)
             rw [d_setShare, inN_s hb1]
             refine if_pos ?_
             by_cases k1 : z < 0
             · exact Or.inl k1
             · exact Or.inr (Decidable.byContradiction fun k2 => g13 ⟨k1, k2⟩)
           rw [hD]; exact ⟨rfl, hX, On.rf, hW, Ta.rf⟩)
  · refine v_if_eq hC dX11_setShare_6 (tgt := 19) (by decide) (fun _ => ?_) (fun hx => absurd hx (by decide))
    refine v_bipush (v := (-2)) hC dX11_setShare_19 (by decide) ?_
    refine v_iret hC dX11_setShare_21 ?_
    first
      | (have hD : d_setShare (x_u x) y z = (-2, none) := by rw [d_setShare, inN_o (fun q => g3 (in6 q))]
         rw [hD]; exact ⟨rfl, hX, On.rf, hW, Ta.rf⟩)
      | (have hD : d_setShare (x_u x) y z = (-2, none) := by
           obtain ⟨b1, hb1, rfl⟩ : rgI y 6 := rg_in g3.1 (fun q => g3.2 (Int32.lt_of_lt_of_le (by decide) q)) (by omega)
           rw [d_setShare, inN_s hb1]
           refine if_pos ?_
           by_cases k1 : z < 0
           · exact Or.inl k1
           · exact Or.inr (Decidable.byContradiction fun k2 => g13 ⟨k1, k2⟩)
         rw [hD]; exact ⟨rfl, hX, On.rf, hW, Ta.rf⟩)

set_option maxHeartbeats 4000000 in
set_option maxRecDepth 100000 in
theorem c_X11_addPerson {l : Launch} {G : Gd} {M : Me} {h : Nat} {x : Xs} {y : Int32} (hW : Wt M) (hX : AR M h x) (hK : WfK (x_u x)) : CQ (Qi G (fun r M2 => r = (d_addPerson (x_u x) y).1 ∧ AR M2 h (acX x (d_addPerson (x_u x) y).2) ∧ On M M2 ∧ Wt M2 ∧ Ta M M2 h)) l G yX11_addPerson cX11_addPerson 3 ((some .int)) 1 22 0 0 [.ref h, .int y] M := by
  refine c_of ([some (.ref h), some (.int y), none] : Lo) RX11 "addPerson" (by decide) rfl rfl (Nat.le_of_ble_eq_true rfl) rfl (fun p e s m below meth c hC nw => ?_)
  have ht := hX.1
  have hA := hX.2.1.1
  have u1 := hA.1.1
  have u2 := hA.1.2.1
  have u3 := hA.1.2.2.1
  have u4 := hA.1.2.2.2.1
  have hwz := wz_31 hW (wf_276 hW ht)
  refine v_iload_n hC dX11_addPerson_0 rfl rfl ?_
  refine v_iconst (v := 1) hC dX11_addPerson_1 (by decide) ?_
  refine v_bipush (v := 50) hC dX11_addPerson_2 (by decide) ?_
  refine cSi3 hC (c_X11_in ) ys_X11_in mw_4_181 ⟨Nat.le_of_ble_eq_true rfl, Nat.le_of_ble_eq_true rfl⟩ ⟨Nat.le_of_ble_eq_true rfl, Nat.le_of_ble_eq_true rfl⟩ (Nat.le_of_ble_eq_true rfl) dX11_addPerson_4 (fun r4 M6 hq => ?_)
  obtain ⟨hm, hq2⟩ := hq
  have hm2 := hm.symm
  clear hm
  subst hm2
  obtain ⟨g4, rfl⟩ | ⟨g4, rfl⟩ := hq2
  · refine v_if_ne hC dX11_addPerson_7 (tgt := 13) (by decide) (fun _ => ?_) (fun hx => absurd hx (by decide))
    refine v_aload_n hC dX11_addPerson_13 rfl rfl ?_
    refine gf_11_0 hC ht (wf_276 hW ht) mw_4_120 dX11_addPerson_14 ?_
    refine v_iconst (v := 1) hC dX11_addPerson_17 (by decide) ?_
    refine v_lald 31 hC (wf_276 hW ht) (by decide) (by decide) (ix_q (j := 1) (wz_31 hW (wf_276 hW ht)) (by decide)) dX11_addPerson_18 ?_
    rw [show m_l M 31 (m_r M 276 h 0) 1 = _ from hA.c1]
    refine v_ldc2 hC mw_4_184 dX11_addPerson_19 ?_
    refine v_lcmp hC dX11_addPerson_22 ?_
    refine v_if_ne hC dX11_addPerson_23 (tgt := 29) (by decide) (fun h23 => ?_) (fun h23 => ?_)
    · have hk : n_p (x_u x) < 6 := by
        rcases Nat.lt_or_ge (n_p (x_u x)) 6 with q | q
        · exact q
        · exact absurd ((lg_cmp_eq _ _).mpr (show lN (n_p (x_u x)) = lN 6 from by rw [show n_p (x_u x) = 6 by omega])) h23
      refine v_aload_n hC dX11_addPerson_29 rfl rfl ?_
      refine cVv0 hC (c_X11_record hW hX) yv_X11_record rfl ht mw_4_173 ⟨Nat.le_of_ble_eq_true rfl, Nat.le_of_ble_eq_true rfl⟩ ⟨Nat.le_of_ble_eq_true rfl, Nat.le_of_ble_eq_true rfl⟩ (Nat.le_of_ble_eq_true rfl) dX11_addPerson_30 (fun M32 hq => ?_)
      obtain ⟨hX9, hOn9, hW9, hTa9⟩ := hq
      have ht9 := hX9.1
      have hL9 := hX9.pu
      have hwz9 := wz_31 hW9 (wf_276 hW9 ht9)
      refine v_aload_n hC dX11_addPerson_33 rfl rfl ?_
      refine v_iconst (v := 1) hC dX11_addPerson_34 (by decide) ?_
      refine cVi1 hC (c_X11_number hW9 ht9 (q := 1) (by decide)) yv_X11_number rfl ht9 mw_4_165 ⟨Nat.le_of_ble_eq_true rfl, Nat.le_of_ble_eq_true rfl⟩ ⟨Nat.le_of_ble_eq_true rfl, Nat.le_of_ble_eq_true rfl⟩ (Nat.le_of_ble_eq_true rfl) dX11_addPerson_35 (fun r35 M37 hq => ?_)
      obtain ⟨rfl, hm⟩ := hq
      have hm2 := hm.symm
      clear hm
      subst hm2
      rw [show rwM M32 h 1 = _ from hL9.1.c1, lN_i]
      refine v_ist2 hC dX11_addPerson_38 (by decide) (kk := ?_)
      refine v_aload_n hC dX11_addPerson_39 rfl rfl ?_
      refine gf_11_0 hC ht9 (wf_276 hW9 ht9) mw_4_120 dX11_addPerson_40 ?_
      refine v_aload_n hC dX11_addPerson_43 rfl rfl ?_
      refine v_iload_n hC dX11_addPerson_44 rfl rfl ?_
      refine cVi1 hC (c_X11_personBy ht9) yv_X11_personBy rfl ht9 mw_4_185 ⟨Nat.le_of_ble_eq_true rfl, Nat.le_of_ble_eq_true rfl⟩ ⟨Nat.le_of_ble_eq_true rfl, Nat.le_of_ble_eq_true rfl⟩ (Nat.le_of_ble_eq_true rfl) dX11_addPerson_45 (fun r45 M47 hq => ?_)
      obtain ⟨rfl, hm⟩ := hq
      have hm2 := hm.symm
      clear hm
      subst hm2
      refine v_iconst (v := 0) hC dX11_addPerson_48 (by decide) ?_
      refine v_iadd hC dX11_addPerson_49 ?_
      rw [show nI (74 + 7 * n_p (x_u x)) + 0 = nI (74 + 7 * n_p (x_u x)) from nI_add _ 0]
      refine v_iload_n hC dX11_addPerson_50 rfl rfl ?_
      refine v_i2l hC dX11_addPerson_51 ?_
      refine v_last 31 hC (wf_276 hW9 ht9) (by decide) (by decide) (ix_c hwz9 (by omega)) dX11_addPerson_52 ?_
      refine v_aload_n hC dX11_addPerson_53 rfl rfl ?_
      refine gf_11_0 hC ht9 (wf_276 hW9 ht9) mw_4_120 dX11_addPerson_54 ?_
      refine v_aload_n hC dX11_addPerson_57 rfl rfl ?_
      refine v_iload_n hC dX11_addPerson_58 rfl rfl ?_
      refine cVi1 hC (c_X11_personBy ht9) yv_X11_personBy rfl ht9 mw_4_185 ⟨Nat.le_of_ble_eq_true rfl, Nat.le_of_ble_eq_true rfl⟩ ⟨Nat.le_of_ble_eq_true rfl, Nat.le_of_ble_eq_true rfl⟩ (Nat.le_of_ble_eq_true rfl) dX11_addPerson_59 (fun r59 M61 hq => ?_)
      obtain ⟨rfl, hm⟩ := hq
      have hm2 := hm.symm
      clear hm
      subst hm2
      refine v_iconst (v := 1) hC dX11_addPerson_62 (by decide) ?_
      refine v_iadd hC dX11_addPerson_63 ?_
      rw [show nI (74 + 7 * n_p (x_u x)) + 1 = nI (74 + 7 * n_p (x_u x) + 1) from nI_add _ 1]
      refine v_lconst (v := 0) hC dX11_addPerson_64 (by decide) ?_
      refine v_last 31 hC (wf_276 hW9 ht9) (by decide) (by decide) (ix_c hwz9 (by omega)) dX11_addPerson_65 ?_
      refine v_aload_n hC dX11_addPerson_66 rfl rfl ?_
      refine gf_11_0 hC ht9 (wf_276 hW9 ht9) mw_4_120 dX11_addPerson_67 ?_
      refine v_aload_n hC dX11_addPerson_70 rfl rfl ?_
      refine v_iload_n hC dX11_addPerson_71 rfl rfl ?_
      refine cVi1 hC (c_X11_personBy ht9) yv_X11_personBy rfl ht9 mw_4_185 ⟨Nat.le_of_ble_eq_true rfl, Nat.le_of_ble_eq_true rfl⟩ ⟨Nat.le_of_ble_eq_true rfl, Nat.le_of_ble_eq_true rfl⟩ (Nat.le_of_ble_eq_true rfl) dX11_addPerson_72 (fun r72 M74 hq => ?_)
      obtain ⟨rfl, hm⟩ := hq
      have hm2 := hm.symm
      clear hm
      subst hm2
      refine v_iconst (v := 2) hC dX11_addPerson_75 (by decide) ?_
      refine v_iadd hC dX11_addPerson_76 ?_
      rw [show nI (74 + 7 * n_p (x_u x)) + 2 = nI (74 + 7 * n_p (x_u x) + 2) from nI_add _ 2]
      refine v_ldc2 hC mw_4_189 dX11_addPerson_77 ?_
      refine v_last 31 hC (wf_276 hW9 ht9) (by decide) (by decide) (ix_c hwz9 (by omega)) dX11_addPerson_80 ?_
      refine v_aload_n hC dX11_addPerson_81 rfl rfl ?_
      refine gf_11_0 hC ht9 (wf_276 hW9 ht9) mw_4_120 dX11_addPerson_82 ?_
      refine v_aload_n hC dX11_addPerson_85 rfl rfl ?_
      refine v_iload_n hC dX11_addPerson_86 rfl rfl ?_
      refine cVi1 hC (c_X11_personBy ht9) yv_X11_personBy rfl ht9 mw_4_185 ⟨Nat.le_of_ble_eq_true rfl, Nat.le_of_ble_eq_true rfl⟩ ⟨Nat.le_of_ble_eq_true rfl, Nat.le_of_ble_eq_true rfl⟩ (Nat.le_of_ble_eq_true rfl) dX11_addPerson_87 (fun r87 M89 hq => ?_)
      obtain ⟨rfl, hm⟩ := hq
      have hm2 := hm.symm
      clear hm
      subst hm2
      refine v_iconst (v := 3) hC dX11_addPerson_90 (by decide) ?_
      refine v_iadd hC dX11_addPerson_91 ?_
      rw [show nI (74 + 7 * n_p (x_u x)) + 3 = nI (74 + 7 * n_p (x_u x) + 3) from nI_add _ 3]
      refine v_lconst (v := 0) hC dX11_addPerson_92 (by decide) ?_
      refine v_last 31 hC (wf_276 hW9 ht9) (by decide) (by decide) (ix_c hwz9 (by omega)) dX11_addPerson_93 ?_
      refine v_aload_n hC dX11_addPerson_94 rfl rfl ?_
      refine gf_11_0 hC ht9 (wf_276 hW9 ht9) mw_4_120 dX11_addPerson_95 ?_
      refine v_aload_n hC dX11_addPerson_98 rfl rfl ?_
      refine v_iload_n hC dX11_addPerson_99 rfl rfl ?_
      refine cVi1 hC (c_X11_personBy ht9) yv_X11_personBy rfl ht9 mw_4_185 ⟨Nat.le_of_ble_eq_true rfl, Nat.le_of_ble_eq_true rfl⟩ ⟨Nat.le_of_ble_eq_true rfl, Nat.le_of_ble_eq_true rfl⟩ (Nat.le_of_ble_eq_true rfl) dX11_addPerson_100 (fun r100 M102 hq => ?_)
      obtain ⟨rfl, hm⟩ := hq
      have hm2 := hm.symm
      clear hm
      subst hm2
      refine v_iconst (v := 4) hC dX11_addPerson_103 (by decide) ?_
      refine v_iadd hC dX11_addPerson_104 ?_
      rw [show nI (74 + 7 * n_p (x_u x)) + 4 = nI (74 + 7 * n_p (x_u x) + 4) from nI_add _ 4]
      refine v_lconst (v := 0) hC dX11_addPerson_105 (by decide) ?_
      refine v_last 31 hC (wf_276 hW9 ht9) (by decide) (by decide) (ix_c hwz9 (by omega)) dX11_addPerson_106 ?_
      refine v_aload_n hC dX11_addPerson_107 rfl rfl ?_
      refine gf_11_0 hC ht9 (wf_276 hW9 ht9) mw_4_120 dX11_addPerson_108 ?_
      refine v_aload_n hC dX11_addPerson_111 rfl rfl ?_
      refine v_iload_n hC dX11_addPerson_112 rfl rfl ?_
      refine cVi1 hC (c_X11_personBy ht9) yv_X11_personBy rfl ht9 mw_4_185 ⟨Nat.le_of_ble_eq_true rfl, Nat.le_of_ble_eq_true rfl⟩ ⟨Nat.le_of_ble_eq_true rfl, Nat.le_of_ble_eq_true rfl⟩ (Nat.le_of_ble_eq_true rfl) dX11_addPerson_113 (fun r113 M115 hq => ?_)
      obtain ⟨rfl, hm⟩ := hq
      have hm2 := hm.symm
      clear hm
      subst hm2
      refine v_iconst (v := 5) hC dX11_addPerson_116 (by decide) ?_
      refine v_iadd hC dX11_addPerson_117 ?_
      rw [show nI (74 + 7 * n_p (x_u x)) + 5 = nI (74 + 7 * n_p (x_u x) + 5) from nI_add _ 5]
      refine v_lconst (v := 0) hC dX11_addPerson_118 (by decide) ?_
      refine v_last 31 hC (wf_276 hW9 ht9) (by decide) (by decide) (ix_c hwz9 (by omega)) dX11_addPerson_119 ?_
      refine v_aload_n hC dX11_addPerson_120 rfl rfl ?_
      refine gf_11_0 hC ht9 (wf_276 hW9 ht9) mw_4_120 dX11_addPerson_121 ?_
      refine v_iconst (v := 1) hC dX11_addPerson_124 (by decide) ?_
      refine v_iload_n hC dX11_addPerson_125 rfl rfl ?_
      refine v_iconst (v := 1) hC dX11_addPerson_126 (by decide) ?_
      refine v_iadd hC dX11_addPerson_127 ?_
      rw [show nI (n_p (x_u x)) + 1 = nI (n_p (x_u x) + 1) from (nI_succ _).symm]
      refine v_i2l hC dX11_addPerson_128 ?_
      rw [nI_l (by omega)]
      refine v_last 31 hC (wf_276 hW9 ht9) (by decide) (by decide) (ix_q (j := 1) hwz9 rfl) dX11_addPerson_129 ?_
      refine v_iload_n hC dX11_addPerson_130 rfl rfl ?_
      refine v_iret hC dX11_addPerson_131 ?_
      have hD : d_addPerson (x_u x) y = (nI (n_p (x_u x)), some (hireU (x_u x) y)) := by rw [d_addPerson, if_neg (fun q => q.elim g4.1 g4.2), if_pos hk]
      rw [hD]
      refine ⟨rfl, Wr.end hX9 (by repeat (first | exact Wr.rf | refine Wr.sl ?_)) hOn9 hW9 hTa9 ?_⟩
      have cc : ∀ k, 1 ≤ k → k ≤ 3 → cpR k (n_p (x_u x)) 0 := fun k q1 q2 => Or.inr (Or.inl ⟨q1, q2, hk, rfl⟩)
      have c2 : ∀ k, 20 ≤ k → k ≤ 22 → cpX k (n_p (x_u x)) 0 := fun k q1 q2 => cX_2x q1 q2 hk
      have ns : ∀ k, 20 ≤ k → k ≤ 22 → ∀ v : Si, ¬ sp v k (n_p (x_u x)) 0 := fun k q1 q2 v q => by
        have q3 := q.1
        unfold spN at q3
        omega
      have hA1 := hL9.1.w (v := y) 1 (n_p (x_u x)) 0 (cc 1 (by decide) (by decide)) (by decide) (by decide)
      have hA2 := hA1.w (v := 0) 2 (n_p (x_u x)) 0 (cc 2 (by decide) (by decide)) (by decide) (by decide)
      have hA3 := hA2.w (v := -5) 3 (n_p (x_u x)) 0 (cc 3 (by decide) (by decide)) (by decide) (by decide)
      have hA4 := hA3.off (v := 0) 20 (n_p (x_u x)) 0 (c2 20 (by decide) (by decide)) (ns 20 (by decide) (by decide) _)
      have hA5 := hA4.off (v := 0) 21 (n_p (x_u x)) 0 (c2 21 (by decide) (by decide)) (ns 21 (by decide) (by decide) _)
      have hA6 := hA5.off (v := 0) 22 (n_p (x_u x)) 0 (c2 22 (by decide) (by decide)) (ns 22 (by decide) (by decide) _)
      have eb5 : eb 3 (-5) = -5 := by decide
      have eb0 : eb 2 0 = 0 := by decide
      have eby : eb 1 y = y.toInt64 := eb_o (by decide) (by decide)
      rw [eb5, eb0, eby] at hA6
      rw [rwM_w, rwM_w, rwM_w, rwM_w, rwM_w, rwM_w, rwM_w, show 74 + 7 * n_p (x_u x) + 1 = pl 2 (n_p (x_u x)) 0 by simp [pl, pB_, pA_, pJ_]; omega, show 74 + 7 * n_p (x_u x) + 2 = pl 3 (n_p (x_u x)) 0 by simp [pl, pB_, pA_, pJ_]; omega, show 74 + 7 * n_p (x_u x) + 3 = pl 20 (n_p (x_u x)) 0 by simp [pl, pB_, pA_, pJ_]; omega, show 74 + 7 * n_p (x_u x) + 4 = pl 21 (n_p (x_u x)) 0 by simp [pl, pB_, pA_, pJ_]; omega, show 74 + 7 * n_p (x_u x) + 5 = pl 22 (n_p (x_u x)) 0 by simp [pl, pB_, pA_, pJ_]; omega, show 74 + 7 * n_p (x_u x) = pl 1 (n_p (x_u x)) 0 by simp [pl, pB_, pA_, pJ_]]
      have gr := hA6.growP hk (fun k q1 q2 => by
        rcases (show k = 1 ∨ k = 2 ∨ k = 3 by omega) with rfl | rfl | rfl
        · show updR _ _ _ (pl 1 (n_p (x_u x)) 0) = eb 1 (q_i _ 1 (n_p (x_u x)) 0)
          rw [updR_n (pl_ne (c2 22 (by decide) (by decide)) (Or.inl (cc 1 (by decide) (by decide))) (by omega)), updR_n (pl_ne (c2 21 (by decide) (by decide)) (Or.inl (cc 1 (by decide) (by decide))) (by omega)), updR_n (pl_ne (c2 20 (by decide) (by decide)) (Or.inl (cc 1 (by decide) (by decide))) (by omega)), updR_n (pl_ne (Or.inl (cc 3 (by decide) (by decide))) (Or.inl (cc 1 (by decide) (by decide))) (by omega)), updR_n (pl_ne (Or.inl (cc 2 (by decide) (by decide))) (Or.inl (cc 1 (by decide) (by decide))) (by omega)), updR_e, q_ik (by decide), q_ik (by decide), q_ie, eby]
        · show updR _ _ _ (pl 2 (n_p (x_u x)) 0) = eb 2 (q_i _ 2 (n_p (x_u x)) 0)
          rw [updR_n (pl_ne (c2 22 (by decide) (by decide)) (Or.inl (cc 2 (by decide) (by decide))) (by omega)), updR_n (pl_ne (c2 21 (by decide) (by decide)) (Or.inl (cc 2 (by decide) (by decide))) (by omega)), updR_n (pl_ne (c2 20 (by decide) (by decide)) (Or.inl (cc 2 (by decide) (by decide))) (by omega)), updR_n (pl_ne (Or.inl (cc 3 (by decide) (by decide))) (Or.inl (cc 2 (by decide) (by decide))) (by omega)), updR_e, q_ik (by decide), q_ie, eb0]
        · show updR _ _ _ (pl 3 (n_p (x_u x)) 0) = eb 3 (q_i _ 3 (n_p (x_u x)) 0)
          rw [updR_n (pl_ne (c2 22 (by decide) (by decide)) (Or.inl (cc 3 (by decide) (by decide))) (by omega)), updR_n (pl_ne (c2 21 (by decide) (by decide)) (Or.inl (cc 3 (by decide) (by decide))) (by omega)), updR_n (pl_ne (c2 20 (by decide) (by decide)) (Or.inl (cc 3 (by decide) (by decide))) (by omega)), updR_e, q_ie, eb5])
      refine ⟨gr, ?_⟩
      have hP : LPd (updR (updR (updR (updR (updR (updR (updR (rwM M32 h) (pl 1 (n_p (x_u x)) 0) y.toInt64) (pl 2 (n_p (x_u x)) 0) 0) (pl 3 (n_p (x_u x)) 0) (-5)) (pl 20 (n_p (x_u x)) 0) 0) (pl 21 (n_p (x_u x)) 0) 0) (pl 22 (n_p (x_u x)) 0) 0) (pl 18 0 1) (lN (n_p (x_u x) + 1))) (x_u x) := fun p hp => by
        have d : ∀ k a j k2, 20 ≤ k2 → k2 ≤ 22 → cpX k a j → ¬ (k2 = k ∧ p = a ∧ 0 = j) → pl k2 p 0 ≠ pl k a j := fun k a j k2 q1 q2 hc hn => pl_ne hc (cX_2x q1 q2 (by omega)) hn
        have e : ∀ k2, 20 ≤ k2 → k2 ≤ 22 → updR (updR (updR (updR (updR (updR (updR (rwM M32 h) (pl 1 (n_p (x_u x)) 0) y.toInt64) (pl 2 (n_p (x_u x)) 0) 0) (pl 3 (n_p (x_u x)) 0) (-5)) (pl 20 (n_p (x_u x)) 0) 0) (pl 21 (n_p (x_u x)) 0) 0) (pl 22 (n_p (x_u x)) 0) 0) (pl 18 0 1) (lN (n_p (x_u x) + 1)) (pl k2 p 0) = rwM M32 h (pl k2 p 0) := fun k2 q1 q2 => by
          rw [updR_n (d _ _ _ k2 q1 q2 (cX_18 (by decide)) (by omega)), updR_n (d _ _ _ k2 q1 q2 (c2 22 (by decide) (by decide)) (by omega)), updR_n (d _ _ _ k2 q1 q2 (c2 21 (by decide) (by decide)) (by omega)), updR_n (d _ _ _ k2 q1 q2 (c2 20 (by decide) (by decide)) (by omega)), updR_n (d _ _ _ k2 q1 q2 (Or.inl (cc 3 (by decide) (by decide))) (by omega)), updR_n (d _ _ _ k2 q1 q2 (Or.inl (cc 2 (by decide) (by decide))) (by omega)), updR_n (d _ _ _ k2 q1 q2 (Or.inl (cc 1 (by decide) (by decide))) (by omega))]
        rw [e 20 (by decide) (by decide), e 21 (by decide) (by decide), e 22 (by decide) (by decide)]
        exact hL9.2 p hp
      have hPd : PdF (x_u x) (hireU (x_u x) y) := ((PdF.i (v := y) 1 (n_p (x_u x)) 0 (by decide)).tr (PdF.i (v := 0) 2 (n_p (x_u x)) 0 (by decide))).tr (PdF.i (v := -5) 3 (n_p (x_u x)) 0 (by decide))
      refine hP.hire hK hk hPd rfl (fun k q1 q2 => ?_)
      rcases (show k = 20 ∨ k = 21 ∨ k = 22 by omega) with rfl | rfl | rfl
      · rw [updR_n (pl_ne (cX_18 (by decide)) (c2 20 (by decide) (by decide)) (by omega)), updR_n (pl_ne (c2 22 (by decide) (by decide)) (c2 20 (by decide) (by decide)) (by omega)), updR_n (pl_ne (c2 21 (by decide) (by decide)) (c2 20 (by decide) (by decide)) (by omega)), updR_e]
      · rw [updR_n (pl_ne (cX_18 (by decide)) (c2 21 (by decide) (by decide)) (by omega)), updR_n (pl_ne (c2 22 (by decide) (by decide)) (c2 21 (by decide) (by decide)) (by omega)), updR_e]
      · rw [updR_n (pl_ne (cX_18 (by decide)) (c2 22 (by decide) (by decide)) (by omega)), updR_e]
    · have hk : n_p (x_u x) = 6 := (lN_eq (b := 6) (by omega) (by omega)).mp ((lg_cmp_eq _ _).mp (Decidable.not_not.mp (fun q => q h23)))
      refine v_bipush (v := (-3)) hC dX11_addPerson_26 (by decide) ?_
      refine v_iret hC dX11_addPerson_28 ?_
      have hD : d_addPerson (x_u x) y = (-3, none) := by rw [d_addPerson, if_neg (fun q => q.elim g4.1 g4.2), if_neg (by omega)]
      rw [hD]; exact ⟨rfl, hX, On.rf, hW, Ta.rf⟩
  · refine v_if_ne hC dX11_addPerson_7 (tgt := 13) (by decide) (fun hx => absurd hx (by decide)) (fun _ => ?_)
    refine v_bipush (v := (-2)) hC dX11_addPerson_10 (by decide) ?_
    refine v_iret hC dX11_addPerson_12 ?_
    have hD : d_addPerson (x_u x) y = (-2, none) := by rw [d_addPerson, if_pos (Decidable.byContradiction fun q => g4 ⟨fun w => q (Or.inl w), fun w => q (Or.inr w)⟩)]
    rw [hD]; exact ⟨rfl, hX, On.rf, hW, Ta.rf⟩
