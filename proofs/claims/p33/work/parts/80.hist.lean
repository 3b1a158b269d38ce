/-! what the reference touches -/
def On (M M2 : Me) : Prop := Fx M M2 ∧ (∀ k a j, mkey k = false → m_i M2 k a j = m_i M k a j) ∧ ∀ k a j, mkey k = false → m_l M2 k a j = m_l M k a j
theorem On.rf {M : Me} : On M M := ⟨Fx.rf, fun _ _ _ _ => rfl, fun _ _ _ _ => rfl⟩
theorem On.tr {M M2 M3 : Me} (h : On M M2) (h2 : On M2 M3) : On M M3 := ⟨h.1.tr h2.1, fun k a j q => (h2.2.1 k a j q).trans (h.2.1 k a j q), fun k a j q => (h2.2.2 k a j q).trans (h.2.2 k a j q)⟩
theorem On.si {M M2 : Me} {k a j : Nat} {v : Int32} (h : On M M2) (hk : mkey k = true) : On M (s_i M2 k a j v) := ⟨h.1, fun k2 a2 j2 q => by
  rw [i_sk (fun e => by rw [e, hk] at q; cases q)]; exact h.2.1 k2 a2 j2 q, h.2.2⟩
theorem On.sl {M M2 : Me} {k a j : Nat} {v : Int64} (h : On M M2) (hk : mkey k = true) : On M (s_l M2 k a j v) := ⟨h.1, h.2.1, fun k2 a2 j2 q => by
  rw [l_sk (fun e => by rw [e, hk] at q; cases q)]; exact h.2.2 k2 a2 j2 q⟩
theorem On.bd {M M2 : Me} (h : Bd M M2) : On M M2 := by
  obtain ⟨b, rfl⟩ := h
  exact ⟨Fx.rf, fun k a j q => if_neg (fun e => by rcases e with rfl | rfl <;> cases q), fun _ _ _ _ => rfl⟩
abbrev pas (M : Me) (h : Nat) : Nat → Int64 := fun p => m_l M 32 (m_r M 277 h 0) p
abbrev asd (M : Me) (h : Nat) : Nat → Int64 := fun p => m_l M 33 (m_r M 278 h 0) p
def TA (M : Me) (h t : Nat) (c : Nat → Int32) : Prop := t ≤ 60 ∧ m_i M 282 h 0 = nI t ∧ ∀ j, j < t → m_i M 42 (m_r M 281 h 0) j = c j
def Ta (M M2 : Me) (h : Nat) : Prop := ∀ t c, TA M h t c → TA M2 h t c
theorem Ta.rf {M : Me} {h : Nat} : Ta M M h := fun _ _ q => q
theorem Ta.tr {M M2 M3 : Me} {h : Nat} (a : Ta M M2 h) (b : Ta M2 M3 h) : Ta M M3 h := fun t c q => b t c (a t c q)
theorem Ta.si {M : Me} {h k a j : Nat} {v : Int32} (h1 : k ≠ 282) (h2 : k ≠ 42) : Ta M (s_i M k a j v) h := fun _ _ q => ⟨q.1, (i_sk (fun z => h1 z.symm)).trans q.2.1, fun i hi => (i_sk (fun z => h2 z.symm)).trans (q.2.2 i hi)⟩
/-- the reference holds the bureau's state -/
def AR (M : Me) (h : Nat) (x : Xs) : Prop := m_t M h = 12 ∧ LRw (rwM M h) (x_u x) ∧ (x_n x ≤ 4 ∧ m_i M 279 h 0 = nI (x_n x) ∧ ∀ j, j < x_n x → LRw (fun p => pas M h (1662 * j + p)) (x_h x j)) ∧ m_i M 280 h 0 = x_f x ∧ (x_f x = 0 ∨ x_f x = 1) ∧ (x_f x = 1 → LRw (asd M h) (x_s x))
def s_q (M : Me) (b : Nat → Nat → Nat → Int64) : Me := (M.1, M.2.1, M.2.2.1, M.2.2.2.1, fun k a j => if k = 31 ∨ k = 32 ∨ k = 33 then b k a j else M.2.2.2.2.1 k a j, M.2.2.2.2.2)
def Qd (M M2 : Me) : Prop := ∃ b, M2 = s_q M b
theorem me_extl {n : Nat} {t z : Nat → Nat} {i : Nat → Nat → Nat → Int32} {l l2 : Nat → Nat → Nat → Int64} {r : Nat → Nat → Nat → Nat} (h : ∀ k a j, l k a j = l2 k a j) : ((n, t, z, i, l, r) : Me) = (n, t, z, i, l2, r) := by
  have : l = l2 := funext fun k => funext fun a => funext fun j => h k a j
  rw [this]
theorem Qd.rf {M : Me} : Qd M M := ⟨M.2.2.2.2.1, me_extl (fun k a j => (ite_self _).symm)⟩
theorem Qd.tr {M M2 M3 : Me} (h : Qd M M2) (h2 : Qd M2 M3) : Qd M M3 := by
  obtain ⟨b, rfl⟩ := h
  obtain ⟨b2, rfl⟩ := h2
  exact ⟨b2, me_extl (fun k a j => by
    show (if k = 31 ∨ k = 32 ∨ k = 33 then b2 k a j else if k = 31 ∨ k = 32 ∨ k = 33 then b k a j else M.2.2.2.2.1 k a j) = _
    by_cases q : k = 31 ∨ k = 32 ∨ k = 33
    · rw [if_pos q, if_pos q]
    · rw [if_neg q, if_neg q, if_neg q])⟩
theorem Qd.sl {M : Me} {k x i : Nat} {v : Int64} (hk : k = 31 ∨ k = 32 ∨ k = 33) : Qd M (s_l M k x i v) := ⟨(s_l M k x i v).2.2.2.2.1, me_extl (fun k2 a j => by
  show (if k2 = k ∧ a = x ∧ j = i then v else M.2.2.2.2.1 k2 a j) = if k2 = 31 ∨ k2 = 32 ∨ k2 = 33 then (if k2 = k ∧ a = x ∧ j = i then v else M.2.2.2.2.1 k2 a j) else M.2.2.2.2.1 k2 a j
  by_cases q : k2 = 31 ∨ k2 = 32 ∨ k2 = 33
  · rw [if_pos q]
  · rw [if_neg q, if_neg (fun w => q (by rw [w.1]; exact hk))])⟩
theorem On.qd {M M2 : Me} (h : Qd M M2) : On M M2 := by
  obtain ⟨b, rfl⟩ := h
  exact ⟨Fx.rf, fun _ _ _ _ => rfl, fun k a j q => if_neg (fun e => by rcases e with rfl | rfl | rfl <;> cases q)⟩
theorem l_sw {M : Me} {k a j : Nat} {v : Int64} {i : Nat} : m_l (s_l M k a j v) k a i = if i = j then v else m_l M k a i := by
  by_cases q : i = j
  · rw [q, if_pos rfl]; exact l_se
  · rw [if_neg q]; exact l_sj q
theorem rwM_w {M : Me} {h p : Nat} {v : Int64} : rwM (s_l M 31 (m_r M 276 h 0) p v) h = updR (rwM M h) p v := funext fun q => by
  by_cases w : q = p
  · rw [w, updR_e]; exact l_se
  · rw [updR_n w]; exact l_sj w
theorem AR.drop {M : Me} {h : Nat} {x : Xs} {b : Nat → Nat → Nat → Int64} (a : AR M h x) (h4 : x_n x = 4) (hr : rwM (s_q M b) h = rwM M h) (hs : asd (s_q M b) h = asd M h) (hp : ∀ p, p < 4986 → pas (s_q M b) h p = pas M h (1662 + p)) : AR (s_i (s_q M b) 279 h 0 (nI 3)) h (dropX x) := by
  obtain ⟨a1, a2, ⟨a3, a4, a5⟩, a6, a7, a8⟩ := a
  refine ⟨a1, ?_, ⟨show 3 ≤ 4 by decide, i_se, fun j hj => ?_⟩, (i_sk (by decide)).trans a6, a7, fun e => ?_⟩
  · show LRw (rwM (s_q M b) h) (x_u x)
    rw [hr]; exact a2
  · have hj2 : j < 3 := hj
    refine (a5 (j + 1) (by omega)).congr (fun p hp2 => ?_)
    refine (hp (1662 * j + p) (by omega)).trans ?_
    exact congrArg (pas M h) (by omega)
  · show LRw (asd (s_q M b) h) (x_s x)
    rw [hs]; exact a8 e
theorem AR.push {M : Me} {h : Nat} {x : Xs} {b : Nat → Nat → Nat → Int64} (a : AR M h x) (h4 : x_n x < 4) (hr : rwM (s_q M b) h = rwM M h) (hs : asd (s_q M b) h = asd M h) (hp : ∀ p, p < 1662 * x_n x → pas (s_q M b) h p = pas M h p) (hp2 : ∀ p, p < 1662 → pas (s_q M b) h (1662 * x_n x + p) = rwM M h p) : AR (s_i (s_q M b) 279 h 0 (nI (x_n x + 1))) h (pushX0 x) := by
  obtain ⟨a1, a2, ⟨a3, a4, a5⟩, a6, a7, a8⟩ := a
  refine ⟨a1, ?_, ⟨by show x_n x + 1 ≤ 4; omega, i_se, fun j hj => ?_⟩, (i_sk (by decide)).trans a6, a7, fun e => ?_⟩
  · show LRw (rwM (s_q M b) h) (x_u x)
    rw [hr]; exact a2
  · have hj2 : j < x_n x + 1 := hj
    show LRw (fun p => pas (s_q M b) h (1662 * j + p)) (if j = x_n x then x_u x else x_h x j)
    by_cases w : j = x_n x
    · rw [if_pos w, w]
      exact a2.congr (fun p hq => hp2 p hq)
    · rw [if_neg w]
      have : 1662 * (j + 1) ≤ 1662 * x_n x := Nat.mul_le_mul_left _ (by omega)
      exact (a5 j (by omega)).congr (fun p hq => hp _ (by omega))
  · show LRw (asd (s_q M b) h) (x_s x)
    rw [hs]; exact a8 e
/-- the row after an act -/
theorem AR.act {M M2 : Me} {h : Nat} {x : Xs} {u : Si} {b : Nat → Nat → Nat → Int64} (a : AR M h (pushX x)) (e : M2 = s_q M b) (hs : asd M2 h = asd M h) (hp : pas M2 h = pas M h) (hr : LRw (rwM M2 h) u) : AR M2 h (acX x (some u)) := by
  subst e
  obtain ⟨a1, a2, ⟨a3, a4, a5⟩, a6, a7, a8⟩ := a
  refine ⟨a1, hr, ⟨a3, a4, fun j hj => ?_⟩, a6, a7, fun e => ?_⟩
  · show LRw (fun p => pas (s_q M b) h (1662 * j + p)) _
    rw [hp]; exact a5 j hj
  · show LRw (asd (s_q M b) h) _
    rw [hs]; exact a8 e
set_option maxHeartbeats 4000000 in
set_option maxRecDepth 100000 in
theorem c_X11_record {l : Launch} {G : Gd} {M : Me} {h : Nat} {x : Xs} (hW : Wt M) (hX : AR M h x) : CQ (Qv G (fun M2 => AR M2 h (pushX x) ∧ On M M2 ∧ Wt M2 ∧ Ta M M2 h)) l G yX11_record cX11_record 2 (none) 0 0 0 0 [.ref h] M := by
  refine c_of ([some (.ref h), none] : Lo) RX11 "record" (by decide) rfl rfl (Nat.le_of_ble_eq_true rfl) rfl (fun p e s m below meth c hC nw => ?_)
  have ht := hX.1
  have hn4 := hX.2.2.1.1
  have hst := hX.2.2.1.2.1
  have loopB : ∀ (Mb : Me) (y : Xs), AR Mb h y → Wt Mb → On M Mb → Ta M Mb h → x_n y < 4 → pushX0 y = pushX x → ∀ (k i : Nat) (M1 : Me), i + k = 1663 → i ≤ 1662 → Qd Mb M1 → rwM M1 h = rwM Mb h → asd M1 h = asd Mb h → (∀ p, p < 1662 * x_n y → pas M1 h p = pas Mb h p) → (∀ p, p < i → pas M1 h (1662 * x_n y + p) = rwM Mb h p) → V p l e (rmk 0 0 0 0) s m ([.ref h] : List Value).toArray below meth c 2 G (MQ below (Qv G (fun M2 => AR M2 h (pushX x) ∧ On M M2 ∧ Wt M2 ∧ Ta M M2 h)) ([.ref h] : List Value).toArray s 0 0 (fr_ G)) M1 0 0 51 ([some (.ref h), some (.int (nI i))] : Lo) [] := by
    intro Mb y hY hWb hOn hTa hn hpu
    have htb := hY.1
    have hstb := hY.2.2.1.2.1
    intro k
    induction k with
    | zero => intro i M1 w1 w2; omega
    | succ k ih =>
      intro i M1 w1 w2 hB hr hs hp hq
      obtain ⟨b9, rfl⟩ := hB
      have hW : Wt (s_q Mb b9) := hWb
      have ht : m_t (s_q Mb b9) h = 12 := htb
      have hst9 : m_i (s_q Mb b9) 279 h 0 = nI (x_n y) := hstb
      refine v_iload_n hC dX11_record_51 rfl rfl ?_
      refine v_sipush (v := 1662) hC dX11_record_52 (by decide) ?_
      refine v_icmp_ge hC dX11_record_55 (tgt := 85) (by decide) (fun h55 => ?_) (fun h55 => ?_)
      · have hi := lp_ge (N := 1662) h55
        refine v_aload_n hC dX11_record_85 rfl rfl ?_
        refine v_dup hC dX11_record_86 rfl ?_
        refine gf_11_3 hC ht mw_4_123 dX11_record_87 ?_
        rw [hst9]
        refine v_iconst (v := 1) hC dX11_record_90 (by decide) ?_
        refine v_iadd hC dX11_record_91 ?_
        rw [← nI_succ]
        refine pf_11_3 hC ht mw_4_123 dX11_record_92 ?_
        refine v_vret hC dX11_record_95 ?_
        have hie : i = 1662 := by omega
        subst hie
        refine ⟨?_, hOn.tr ((On.qd ⟨b9, rfl⟩).si (by decide)), hW, hTa.tr (Ta.tr (M2 := s_q Mb b9) (fun _ _ q => q) (Ta.si (by decide) (by decide)))⟩
        rw [← hpu]
        exact hY.push hn hr hs hp hq
      · have hi := lp_lt (N := 1662) h55
        refine v_aload_n hC dX11_record_58 rfl rfl ?_
        refine gf_11_1 hC ht (wf_277 hW ht) mw_4_121 dX11_record_59 ?_
        refine v_sipush (v := 1662) hC dX11_record_62 (by decide) ?_
        refine v_aload_n hC dX11_record_65 rfl rfl ?_
        refine gf_11_3 hC ht mw_4_123 dX11_record_66 ?_
        rw [hst9]
        refine v_imul hC dX11_record_69 ?_
        rw [show 1662 * nI (x_n y) = nI (1662 * x_n y) from nI_ml 1662 _]
        refine v_iload_n hC dX11_record_70 rfl rfl ?_
        refine v_iadd hC dX11_record_71 ?_
        rw [nI_add]
        refine v_aload_n hC dX11_record_72 rfl rfl ?_
        refine gf_11_0 hC ht (wf_276 hW ht) mw_4_120 dX11_record_73 ?_
        refine v_iload_n hC dX11_record_76 rfl rfl ?_
        refine v_lald 31 hC (wf_276 hW ht) (by decide) (by decide) (ix_c (wz_31 hW (wf_276 hW ht)) (by omega)) dX11_record_77 ?_
        refine v_last 32 hC (wf_277 hW ht) (by decide) (by decide) (ix_c (wz_32 hW (wf_277 hW ht)) (by omega)) dX11_record_78 ?_
        refine v_inc1 hC dX11_record_79 ((nI_succ i).symm) (by decide) (kk := ?_)
        refine v_goto hC dX11_record_82 (tgt := 51) (by decide) ?_
        exact ih (i + 1) _ (by omega) (by omega) (Qd.tr ⟨b9, rfl⟩ (Qd.sl (Or.inr (Or.inl rfl)))) (funext fun q => (l_sk (by decide)).trans (congrFun hr q)) (funext fun q => (l_sk (by decide)).trans (congrFun hs q)) (fun p hp2 => by
          refine l_sw.trans ?_
          rw [if_neg (by omega)]; exact hp p hp2) (fun p hp2 => by
          refine l_sw.trans ?_
          by_cases q : p = i
          · rw [if_pos (by omega), q]; exact congrFun hr i
          · rw [if_neg (by omega)]; exact hq p (by omega))
  have loopA : x_n x = 4 → ∀ (k i : Nat) (M1 : Me), i + k = 4987 → i ≤ 4986 → Qd M M1 → rwM M1 h = rwM M h → asd M1 h = asd M h → (∀ p, p < i → pas M1 h p = pas M h (1662 + p)) → (∀ p, i ≤ p → pas M1 h p = pas M h p) → V p l e (rmk 0 0 0 0) s m ([.ref h] : List Value).toArray below meth c 2 G (MQ below (Qv G (fun M2 => AR M2 h (pushX x) ∧ On M M2 ∧ Wt M2 ∧ Ta M M2 h)) ([.ref h] : List Value).toArray s 0 0 (fr_ G)) M1 0 0 10 ([some (.ref h), some (.int (nI i))] : Lo) [] := by
    intro h4
    intro k
    induction k with
    | zero => intro i M1 w1 w2; omega
    | succ k ih =>
      intro i M1 w1 w2 hB hr hs hp hq
      obtain ⟨b9, rfl⟩ := hB
      have hW : Wt (s_q M b9) := hW
      have ht : m_t (s_q M b9) h = 12 := ht
      refine v_iload_n hC dX11_record_10 rfl rfl ?_
      refine v_sipush (v := 4986) hC dX11_record_11 (by decide) ?_
      refine v_icmp_ge hC dX11_record_14 (tgt := 39) (by decide) (fun h14 => ?_) (fun h14 => ?_)
      · have hi := lp_ge (N := 4986) h14
        refine v_aload_n hC dX11_record_39 rfl rfl ?_
        refine v_dup hC dX11_record_40 rfl ?_
        refine gf_11_3 hC ht mw_4_123 dX11_record_41 ?_
        rw [show m_i (s_q M b9) 279 h 0 = nI (x_n x) from hst, h4]
        refine v_iconst (v := 1) hC dX11_record_44 (by decide) ?_
        refine v_isub hC dX11_record_45 ?_
        rw [show nI 4 - 1 = nI 3 by decide]
        refine pf_11_3 hC ht mw_4_123 dX11_record_46 ?_
        refine v_iconst (v := 0) hC dX11_record_49 (by decide) ?_
        refine v_ist1 hC dX11_record_50 (by decide) (kk := ?_)
        first
          | exact loopB M x hX hW On.rf Ta.rf (by omega) (if_pos (by omega)).symm 1663 0 M (by omega) (by omega) Qd.rf rfl rfl (fun p _ => rfl) (fun p hp => absurd hp (Nat.not_lt_zero p))
          | exact loopB _ (dropX x) (AR.drop hX h4 hr hs (fun p hp2 => hp p (by omega))) hW ((On.qd ⟨b9, rfl⟩).si (by decide)) (Ta.tr (M2 := s_q M b9) (fun _ _ q => q) (Ta.si (by decide) (by decide))) (show 3 < 4 by decide) (if_neg (by omega)).symm 1663 0 _ (by omega) (by omega) Qd.rf rfl rfl (fun p _ => rfl) (fun p hp => absurd hp (Nat.not_lt_zero p))
      · have hi := lp_lt (N := 4986) h14
        refine v_aload_n hC dX11_record_17 rfl rfl ?_
        refine gf_11_1 hC ht (wf_277 hW ht) mw_4_121 dX11_record_18 ?_
        refine v_iload_n hC dX11_record_21 rfl rfl ?_
        refine v_aload_n hC dX11_record_22 rfl rfl ?_
        refine gf_11_1 hC ht (wf_277 hW ht) mw_4_121 dX11_record_23 ?_
        refine v_sipush (v := 1662) hC dX11_record_26 (by decide) ?_
        refine v_iload_n hC dX11_record_29 rfl rfl ?_
        refine v_iadd hC dX11_record_30 ?_
        rw [show 1662 + nI i = nI (1662 + i) from nI_add 1662 i]
        refine v_lald 32 hC (wf_277 hW ht) (by decide) (by decide) (ix_c (wz_32 hW (wf_277 hW ht)) (by omega)) dX11_record_31 ?_
        refine v_last 32 hC (wf_277 hW ht) (by decide) (by decide) (ix_c (wz_32 hW (wf_277 hW ht)) (by omega)) dX11_record_32 ?_
        refine v_inc1 hC dX11_record_33 ((nI_succ i).symm) (by decide) (kk := ?_)
        refine v_goto hC dX11_record_36 (tgt := 10) (by decide) ?_
        exact ih (i + 1) _ (by omega) (by omega) (Qd.tr ⟨b9, rfl⟩ (Qd.sl (Or.inr (Or.inl rfl)))) (funext fun q => (l_sk (by decide)).trans (congrFun hr q)) (funext fun q => (l_sk (by decide)).trans (congrFun hs q)) (fun p hp2 => by
          refine l_sw.trans ?_
          by_cases q : p = i
          · rw [if_pos q, q]; exact hq (1662 + i) (by omega)
          · rw [if_neg q]; exact hp p (by omega)) (fun p hp2 => by
          refine l_sw.trans ?_
          rw [if_neg (by omega)]; exact hq p (by omega))
  refine v_aload_n hC dX11_record_0 rfl rfl ?_
  refine gf_11_3 hC ht mw_4_123 dX11_record_1 ?_
  rw [hst]
  refine v_iconst (v := 4) hC dX11_record_4 (by decide) ?_
  refine v_icmp_ne hC dX11_record_5 (tgt := 49) (by decide) (fun h5 => ?_) (fun h5 => ?_)
  · have h4 : x_n x < 4 := by
      rcases Nat.lt_or_ge (x_n x) 4 with q | q
      · exact q
      · exact absurd (show nI (x_n x) = 4 from congrArg nI (show x_n x = 4 by omega)) h5
    refine v_iconst (v := 0) hC dX11_record_49 (by decide) ?_
    refine v_ist1 hC dX11_record_50 (by decide) (kk := ?_)
    first
      | exact loopB M x hX hW On.rf Ta.rf (by omega) (if_pos (by omega)).symm 1663 0 M (by omega) (by omega) Qd.rf rfl rfl (fun p _ => rfl) (fun p hp => absurd hp (Nat.not_lt_zero p))
      | exact loopB _ (dropX x) (AR.drop hX h4 hr hs (fun p hp2 => hp p (by omega))) hW ((On.qd ⟨b9, rfl⟩).si (by decide)) (Ta.tr (M2 := s_q M b9) (fun _ _ q => q) (Ta.si (by decide) (by decide))) (show 3 < 4 by decide) (if_neg (by omega)).symm 1663 0 _ (by omega) (by omega) Qd.rf rfl rfl (fun p _ => rfl) (fun p hp => absurd hp (Nat.not_lt_zero p))
  · have h4 : x_n x = 4 := (nI_eq (b := 4) (by omega) (by omega)).mp (Decidable.not_not.mp (fun q => q h5))
    refine v_iconst (v := 0) hC dX11_record_8 (by decide) ?_
    refine v_ist1 hC dX11_record_9 (by decide) (kk := ?_)
    exact loopA h4 4987 0 M (by omega) (by omega) Qd.rf rfl rfl (fun p hp => absurd hp (Nat.not_lt_zero p)) (fun p _ => rfl)
