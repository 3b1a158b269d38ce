/-- the characters of a Segment under way -/
def Cg (M : Me) (z : Nat) (d : Nat → Int32) (M1 : Me) (i : Nat) : Prop := Fx (s_new M 40 z) M1 ∧ (∀ k a j, ¬ (k = 40 ∧ a = m_n M) → m_i M1 k a j = m_i (s_new M 40 z) k a j) ∧ (∀ k a j, m_l M1 k a j = m_l (s_new M 40 z) k a j) ∧ ∀ j, j < i → m_i M1 40 (m_n M) j = d j
theorem Wg.sm {M M2 : Me} {h ch a : Nat} {g : Sg} (x : Wg M h ch M2 g) (h1 : a ≠ h) (h2 : a < m_n M) : Sm M M2 a := by
  have s1 : Sm M (f_sg M h ch) a := (((Sm.sr h1).tr (Sm.sn (M := s_r M 196 h 0 ch) (Nat.ne_of_lt h2))).tr (Sm.sr h1)).tr (Sm.si h1)
  refine s1.tr ⟨x.1.2.1 a, x.1.2.2.1 a, fun k j => x.2.1 k a j (fun z => h1 z.2), fun k j => x.2.2.1 k a j (fun z => Nat.ne_of_lt h2 z.2), fun k j => x.1.2.2.2 k a j⟩
theorem Cg.sm {M M1 : Me} {z a i : Nat} {d : Nat → Int32} (x : Cg M z d M1 i) (h2 : a < m_n M) : Sm M M1 a := (Sm.sn (Nat.ne_of_lt h2)).tr ⟨x.1.2.1 a, x.1.2.2.1 a, fun k j => x.2.1 k a j (fun z => Nat.ne_of_lt h2 z.2), fun k j => x.2.2.1 k a j, fun k j => x.1.2.2.2 k a j⟩
theorem Ns.of {M M1 M2 : Me} {z : Nat} {d : Nat → Int32} {q : Pt} (nw : Nw M) (hW : Wt M) (hz : z ≤ 60) (x : Cg M z d M1 z) (y : Wg (s_new M1 7 0) (m_n M1) (m_n M) M2 (q.2.1 ++ [q.2.2])) (he : pS d z = some q) (he0 : q.1 = []) (hep : 0 < q.2.2.length) : m_n M1 = m_n M + 1 ∧ Ns M (m_n M1) M2 (q.2.1 ++ [q.2.2]) ∧ Nw M2 := by
  have n1 : m_n M1 = m_n M + 1 := x.1.1
  have n2 : m_n M2 = m_n M + 3 := y.1.1.trans (show m_n M1 + 1 + 1 = m_n M + 3 by omega)
  have nX : m_n (s_new M1 7 0) = m_n M + 2 := by show m_n M1 + 1 = _; omega
  have sm : ∀ a, a < m_n M → Sm M M2 a := fun a ha => ((x.sm ha).tr (Sm.sn (by omega))).tr (y.sm (by omega) (by omega))
  have tt : ∀ a, m_t M2 a = if a = m_n M + 2 then 30 else if a = m_n M + 1 then 7 else if a = m_n M then 40 else m_t M a := fun a => by
    rw [y.1.2.1 a]
    show (if a = m_n (s_new M1 7 0) then 30 else if a = m_n M1 then 7 else m_t M1 a) = _
    rw [nX, n1, x.1.2.1 a]
    rfl
  have tC : m_t M2 (m_n M) = 40 := by rw [tt, if_neg (by omega), if_neg (by omega), if_pos rfl]
  have tS : m_t M2 (m_n M + 1) = 7 := by rw [tt, if_neg (by omega), if_pos rfl]
  have tL : m_t M2 (m_n M + 2) = 30 := by rw [tt, if_pos rfl]
  have zL : m_z M2 (m_n M + 2) = 8 := by
    rw [y.1.2.2.1 _]
    show (if m_n M + 2 = m_n (s_new M1 7 0) then 8 else _) = _
    rw [if_pos nX.symm]
  have zC : m_z M2 (m_n M) = z := by
    rw [y.1.2.2.1 _]
    show (if m_n M = m_n (s_new M1 7 0) then 8 else if m_n M = m_n M1 then 0 else m_z M1 (m_n M)) = _
    rw [if_neg (by omega), if_neg (by omega), x.1.2.2.1 _]
    exact if_pos rfl
  have rC : m_r M2 196 (m_n M + 1) 0 = m_n M := by
    rw [y.1.2.2.2, ← n1]
    show m_r (f_sg _ _ _) _ _ _ = _
    unfold f_sg
    rw [r_si, r_sk (by decide), r_sn, if_neg (by rw [n_sr, nX]; omega), r_se]
  have rL : m_r M2 197 (m_n M + 1) 0 = m_n M + 2 := by
    rw [y.1.2.2.2, ← n1]
    show m_r (f_sg _ _ _) _ _ _ = _
    unfold f_sg
    rw [r_si, r_se, nX]
  have nw2 : Nw M2 := fun a ha => by
    rw [tt] at ha
    rw [n2]
    by_cases z1 : a < m_n M + 3
    · exact z1
    · rw [if_neg (by omega), if_neg (by omega), if_neg (by omega)] at ha
      have := nw a ha
      omega
  obtain ⟨l1, l2⟩ := pS_tx he he0
  have hg := (pS_G he).s hep
  refine ⟨n1, ⟨n2, sm, ⟨by rw [n1]; exact tS, hg, by rw [n1, ← n1]; exact y.2.2.2.1, fun i hi => ?_, ?_, fun i hi => ?_⟩, Wt.of fun a => ?_⟩, nw2⟩
  · rw [n1, rL, ← nX]; exact y.2.2.2.2 i hi
  · rw [n1, rC, zC, txP_S, l1]
  · rw [txP_S, l1] at hi
    rw [n1, rC, txP_S, ← l2 i hi, y.2.1 40 (m_n M) i (fun w => absurd w.1 (by decide))]
    show m_i (f_sg _ _ _) _ _ _ = _
    unfold f_sg
    rw [i_sk (by decide), i_sr, i_sn, if_neg (by rw [n_sr, nX]; omega), i_sr, i_sn, if_neg (by omega)]
    exact x.2.2.2 i hi
  · by_cases c1 : a < m_n M
    · exact Wta.keep (M := M) (fun b hb => (sm b (nw b hb)).1) (sm a c1) ⟨fun q hq => hW.1 q hq a, fun q hq => hW.2.1 q hq a, fun q hq => hW.2.2.1 q hq a, hW.2.2.2 a⟩
    · by_cases c2 : a = m_n M
      · rw [c2]; exact Wta.arr (t := 40) (z := z) tC zC (by decide) (fun q hq e => absurd e ((show ∀ q ∈ tgL, q.1 ≠ 40 by decide) q hq)) (by decide) (fun _ => hz)
      · by_cases c3 : a = m_n M + 1
        · rw [c3]; exact Wta.obj (t := 7) tS (tf_7 (by rw [rC]; exact tC) (by rw [rL]; exact tL)) (by decide) (by decide) (by decide)
        · by_cases c4 : a = m_n M + 2
          · rw [c4]; exact Wta.arr (t := 30) (z := 8) tL zL (by decide) (by decide) (by decide) (fun e => absurd e (by decide))
          · refine Wta.zero ?_
            rw [tt, if_neg c4, if_neg c3, if_neg c2]
            exact Classical.byContradiction fun w => c1 (nw a w)
theorem Ns.rg {M M2 : Me} {r S : Nat} {g : Sg} (x : Ns M r M2 g) : Rg M M2 S := ⟨by rw [x.1]; omega, fun a ha => ⟨(x.2.1 a ha).1, (x.2.1 a ha).2.1, (x.2.1 a ha).2.2.2.1, fun k j _ => (x.2.1 a ha).2.2.2.2 k j, fun k j _ => (x.2.1 a ha).2.2.1 k j⟩⟩
theorem CR.ns {M M2 : Me} {r S : Nat} {g : Sg} {u : Si} (h : CR M S u) (nw : Nw M) (hW : Wt M) (hn : S + 97 ≤ m_n M) (x : Ns M r M2 g) : CR M2 S u := h.far nw hW hn (S := S + 97) (Or.inl (Nat.le_refl _)) x.rg
set_option maxHeartbeats 4000000 in
set_option maxRecDepth 100000 in
theorem c_X8_segmentBetween {l : Launch} {G : Gd} {M : Me} {n st en : Nat} {tc : Nat → Int32} {qe : Pt} (hW : Wt M) (ht : m_t M (n + 5) = 9) (hch : m_r M 228 (n + 5) 0 = n + 6) (hc : m_t M (n + 6) = 41) (h1 : st ≤ en) (h2 : en ≤ 60) (hT : ∀ j, j < en → m_i M 41 (n + 6) j = tc j) (he : pS (fun j => tc (st + j)) (en - st) = some qe) (he0 : qe.1 = []) (hep : 0 < qe.2.2.length) : CQ (Qr G (fun r M2 => r = m_n M + 1 ∧ Ns M r M2 (qe.2.1 ++ [qe.2.2]) ∧ Nw M2)) l G yX8_segmentBetween cX8_segmentBetween 5 ((some (.object "MatchBureau$Segment"))) 2 46 3 71 [.ref (n + 5), .int (nI st), .int (nI en)] M := by
  refine c_of ([some (.ref (n + 5)), some (.int (nI st)), some (.int (nI en)), none, none] : Lo) RX8 "segmentBetween" (by decide) rfl rfl (Nat.le_of_ble_eq_true rfl) rfl (fun p e s m below meth c hC nw => ?_)
  generalize hz : en - st = z at he
  have hb5 : n + 5 < m_n M := nw _ (by rw [ht]; decide)
  have hb6 : n + 6 < m_n M := nw _ (by rw [hc]; decide)
  have e5 : m_t (s_new M 40 z) (n + 5) = 9 := (if_neg (Nat.ne_of_lt hb5)).trans ht
  have e6 : m_t (s_new M 40 z) (n + 6) = 41 := (if_neg (Nat.ne_of_lt hb6)).trans hc
  have z6 : m_z (s_new M 40 z) (n + 6) = 60 := (if_neg (Nat.ne_of_lt hb6)).trans (wz_41 hW hc)
  have eC : m_t (s_new M 40 z) (m_n M) = 40 := if_pos rfl
  have zC : m_z (s_new M 40 z) (m_n M) = z := if_pos rfl
  have r228 : m_r (s_new M 40 z) 228 (n + 5) 0 = n + 6 := (if_neg (Nat.ne_of_lt hb5)).trans hch
  have hTT : ∀ j, j < en → m_i (s_new M 40 z) 41 (n + 6) j = tc j := fun j hj => (if_neg (Nat.ne_of_lt hb6)).trans (hT j hj)
  have loop : ∀ (k i : Nat) (M1 : Me), i + k = 61 → i ≤ z → Cg M z (fun j => tc (st + j)) M1 i → V p l e (rmk 2 46 3 71) s m ([.ref (n + 5), .int (nI st), .int (nI en)] : List Value).toArray below meth c 5 G (MQ below (Qr G (fun r M2 => r = m_n M + 1 ∧ Ns M r M2 (qe.2.1 ++ [qe.2.2]) ∧ Nw M2)) ([.ref (n + 5), .int (nI st), .int (nI en)] : List Value).toArray s 3 71 (fr_ G)) M1 (0 + 1) (0 + z) 13 ([some (.ref (n + 5)), some (.int (nI st)), some (.int (nI en)), some (.ref (m_n M)), some (.int (nI i))] : Lo) [] := by
    intro k
    induction k with
    | zero => intro i M1 w1 w2; omega
    | succ k ih =>
      intro i M1 w1 w2 hg
      have ht : m_t M1 (n + 5) = 9 := (hg.1.2.1 _).trans e5
      have hc : m_t M1 (n + 6) = 41 := (hg.1.2.1 _).trans e6
      have hcA : m_t M1 (m_n M) = 40 := (hg.1.2.1 _).trans eC
      have hzA : m_z M1 (m_n M) = z := (hg.1.2.2.1 _).trans zC
      have hz6 : m_z M1 (n + 6) = 60 := (hg.1.2.2.1 _).trans z6
      have hch : m_r M1 228 (n + 5) 0 = n + 6 := (hg.1.2.2.2 _ _ _).trans r228
      refine v_iload hC dX8_segmentBetween_13 rfl ?_
      refine v_aload_n hC dX8_segmentBetween_15 rfl rfl ?_
      refine v_alez hC hcA hzA dX8_segmentBetween_16 ?_
      refine v_icmp_ge hC dX8_segmentBetween_17 (tgt := 39) (by decide) (fun h17 => ?_) (fun h17 => ?_)
      · have hi := lp_ge h17
        have hie : i = z := by omega
        subst hie
        refine nw_6 hC mw_2_216 (Nat.le_of_ble_eq_true rfl) (by show 0 + i + 3 ≤ 71; omega) dX8_segmentBetween_39 (fun nw39 => ?_)
        refine v_dup hC dX8_segmentBetween_42 rfl ?_
        refine v_aload_n hC dX8_segmentBetween_43 rfl rfl ?_
        refine cIv1 hC (c_X6_init (tn_n (z := 0)) ((Nw.kt (t := 7) (z := 0) nw39).u hcA) ((zn_o nw39 hcA).trans hzA) (by omega) (fun j hj => ((i_sn _ _ _ _ _ _).trans (if_neg (by rw [hg.1.1]; exact Nat.ne_of_lt (Nat.lt_succ_self _)))).trans (hg.2.2.2 j hj)) he he0 hep) yi_X6_init mw_2_217 ⟨Nat.le_of_ble_eq_true rfl, Nat.le_of_ble_eq_true rfl⟩ ⟨Nat.le_of_ble_eq_true rfl, by show 0 + i + 3 + 8 ≤ 71; omega⟩ (Nat.le_of_ble_eq_true rfl) dX8_segmentBetween_44 (fun M46 hq => ?_)
        skip
        refine v_wide (k := 3) (n := 71) (Nat.le_of_ble_eq_true rfl) (by omega) ?_
        refine v_aret hC dX8_segmentBetween_47 ?_
        obtain ⟨n1, n2, n3⟩ := Ns.of nw hW (by omega) hg hq he he0 hep
        exact ⟨n1, n2, n3⟩
      · have hi := lp_lt h17
        obtain ⟨r, hr⟩ := pS_b he (i + 1) (by omega)
        obtain ⟨q, hq⟩ := pS_b he i (by omega)
        obtain ⟨y, hy, ey⟩ := pst_ch ((pS_s hq).symm.trans hr)
        have hnar : narrow .char (.int (tc (st + i))) = .int (tc (st + i)) := by rw [show tc (st + i) = nI y from ey]; exact (pk_charN hy).1
        refine v_aload_n hC dX8_segmentBetween_20 rfl rfl ?_
        refine v_iload hC dX8_segmentBetween_21 rfl ?_
        refine v_aload_n hC dX8_segmentBetween_23 rfl rfl ?_
        refine gf_8_0 hC ht (by rw [hch]; exact hc) mw_1_69 dX8_segmentBetween_24 ?_
        rw [hch]
        refine v_iload_n hC dX8_segmentBetween_27 rfl rfl ?_
        refine v_iload hC dX8_segmentBetween_28 rfl ?_
        refine v_iadd hC dX8_segmentBetween_30 ?_
        rw [nI_add]
        refine v_cald 41 hC hc (by decide) (by decide) (ix_c hz6 (by omega)) dX8_segmentBetween_31 ?_
        rw [hg.2.1 41 (n + 6) (st + i) (fun w => absurd w.1 (by decide)), hTT (st + i) (by omega)]
        refine v_cast 40 hC hcA (by decide) (by decide) (ix_c hzA hi (by omega)) hnar dX8_segmentBetween_32 ?_
        refine v_inc4 hC dX8_segmentBetween_33 ((nI_succ i).symm) (by decide) (kk := ?_)
        refine v_goto hC dX8_segmentBetween_36 (tgt := 13) (by decide) ?_
        refine ih (i + 1) _ (by omega) (by omega) ⟨hg.1.si, fun k2 a2 j2 z2 => ?_, fun k2 a2 j2 => hg.2.2.1 k2 a2 j2, fun j hj => ?_⟩
        · rw [i_sx (fun w => z2 ⟨w.1, w.2.1⟩)]; exact hg.2.1 k2 a2 j2 z2
        · rw [i_sj]
          by_cases w : j = i
          · rw [if_pos w, w]
          · rw [if_neg w]; exact hg.2.2.2 j (by omega)
  refine v_iconst (v := 0) hC dX8_segmentBetween_0 (by decide) ?_
  refine v_iload_n hC dX8_segmentBetween_1 rfl rfl ?_
  refine v_iload_n hC dX8_segmentBetween_2 rfl rfl ?_
  refine v_isub hC dX8_segmentBetween_3 ?_
  rw [nI_sb h1, hz]
  refine v_mmax hC mw_2_213 (Nat.le_of_ble_eq_true rfl) (Nat.le_of_ble_eq_true rfl) ⟨Nat.le_of_ble_eq_true rfl, Nat.le_of_ble_eq_true rfl⟩ dX8_segmentBetween_4 ?_
  rw [nI_mx (by omega)]
  refine v_newc 40 hC (N := z) (by decide) (by decide) (nI_pos (by omega)) (nI_clamp (by omega)) (by omega) (Nat.le_of_ble_eq_true rfl) (by show 0 + z ≤ 71; omega) dX8_segmentBetween_7 (fun nw7 => ?_)
  refine v_ast3 hC dX8_segmentBetween_9 (by decide) (kk := ?_)
  refine v_iconst (v := 0) hC dX8_segmentBetween_10 (by decide) ?_
  refine v_ist4 hC dX8_segmentBetween_11 (by decide) (kk := ?_)
  exact loop 61 0 _ (by omega) (by omega) ⟨Fx.rf, fun _ _ _ _ => rfl, fun _ _ _ => rfl, fun j hj => absurd hj (Nat.not_lt_zero j)⟩

set_option maxHeartbeats 4000000 in
set_option maxRecDepth 100000 in
theorem c_X8_wholeSegment {l : Launch} {G : Gd} {M : Me} {n t : Nat} {tc : Nat → Int32} {qe : Pt} (hW : Wt M) (ht : m_t M (n + 5) = 9) (hch : m_r M 228 (n + 5) 0 = n + 6) (hc : m_t M (n + 6) = 41) (hT : TX M n t tc) (he : pS tc t = some qe) (he0 : qe.1 = []) (hep : 0 < qe.2.2.length) : CQ (Qr G (fun r M2 => r = m_n M + 1 ∧ Ns M r M2 (qe.2.1 ++ [qe.2.2]) ∧ Nw M2)) l G yX8_wholeSegment cX8_wholeSegment 1 ((some (.object "MatchBureau$Segment"))) 3 70 3 71 [.ref (n + 5)] M := by
  refine c_of ([some (.ref (n + 5))] : Lo) RX8 "wholeSegment" (by decide) rfl rfl (Nat.le_of_ble_eq_true rfl) rfl (fun p e s m below meth c hC nw => ?_)
  refine v_aload_n hC dX8_wholeSegment_0 rfl rfl ?_
  refine v_iconst (v := 0) hC dX8_wholeSegment_1 (by decide) ?_
  refine v_aload_n hC dX8_wholeSegment_2 rfl rfl ?_
  refine gf_8_1 hC ht mw_1_70 dX8_wholeSegment_3 ?_
  rw [hT.2.1]
  refine cVr2 hC (c_X8_segmentBetween hW ht hch hc (st := 0) (Nat.zero_le t) hT.1 hT.2.2 (by rw [Nat.sub_zero, show (fun j => tc (0 + j)) = tc from funext fun j => by rw [Nat.zero_add]]; exact he) he0 hep) yv_X8_segmentBetween rfl ht mw_2_209 ⟨Nat.le_of_ble_eq_true rfl, Nat.le_of_ble_eq_true rfl⟩ ⟨Nat.le_of_ble_eq_true rfl, Nat.le_of_ble_eq_true rfl⟩ (Nat.le_of_ble_eq_true rfl) dX8_wholeSegment_6 (fun r6 M8 hq => ?_)
  skip
  refine v_wide (k := 3) (n := 71) (Nat.le_of_ble_eq_true rfl) (Nat.le_of_ble_eq_true rfl) ?_
  refine v_aret hC dX8_wholeSegment_9 ?_
  exact hq

def apU (u : Si) (f : Nat) (gs : List Sg) : Si := gs.foldl (fun v g => appU v f g) u
theorem apU_a (u : Si) (f : Nat) (gs : List Sg) (g : Sg) : apU u f (gs ++ [g]) = appU (apU u f gs) f g := by unfold apU; rw [List.foldl_append]; rfl
theorem appU_s (u : Si) (f : Nat) (g : Sg) : n_s (appU u f g) f = n_s u f + 1 ∧ n_f (appU u f g) = n_f u := ⟨if_pos ⟨rfl, rfl⟩, rfl⟩
theorem apU_s (u : Si) (f : Nat) (gs : List Sg) : n_s (apU u f gs) f = n_s u f + gs.length ∧ n_f (apU u f gs) = n_f u := by
  induction gs generalizing u with
  | nil => exact ⟨rfl, rfl⟩
  | cons g gs ih =>
    obtain ⟨h1, h2⟩ := ih (appU u f g)
    obtain ⟨h3, h4⟩ := appU_s u f g
    exact ⟨h1.trans (by rw [h3, List.length_cons]; omega), h2.trans h4⟩
theorem pst_len {x : Int32} {q r : Pt} (e : pst x q = some r) : q.1.length ≤ r.1.length := by
  unfold pst at e
  split at e
  · cases e; exact Nat.le_refl _
  · split at e
    · cases e; exact Nat.le_refl _
    · split at e
      · cases e; simp
      · cases e
theorem pS_len {f : Nat → Int32} : ∀ {n : Nat} {q : Pt}, pS f n = some q → ∀ i r, i ≤ n → pS f i = some r → r.1.length ≤ q.1.length
  | 0, q, h, i, r, hi, hr => by
    rw [show i = 0 by omega, h] at hr; cases hr; exact Nat.le_refl _
  | n + 1, q, h, i, r, hi, hr => by
    by_cases w : i = n + 1
    · rw [w, h] at hr; cases hr; exact Nat.le_refl _
    · cases hn : pS f n with
      | none => rw [pS, hn] at h; cases h
      | some p => exact Nat.le_trans (pS_len hn i r (by omega) hr) (pst_len ((pS_s hn).symm.trans h))
/-- what one character does does not depend on the segments that are done -/
theorem pst_loc {x : Int32} {q r : Pt} (hx : ¬ x = 46) (e : pst x q = some r) : pst x ([], q.2) = some ([], r.2) := by
  unfold pst at e ⊢
  split at e
  · rename_i c1
    cases e
    rw [if_pos c1]
  · rename_i c1
    rw [if_neg c1]
    split at e
    · rename_i c2
      cases e
      rw [if_pos c2]
    · rw [if_neg (fun z => hx z.1)] at e; cases e
set_option maxHeartbeats 4000000 in
set_option maxRecDepth 100000 in
theorem c_X8_appendSegmentsTo {l : Launch} {G : Gd} {M : Me} {n t S f : Nat} {tc : Nat → Int32} {u : Si} {qe : Pt} (hW : Wt M) (ht : m_t M (n + 5) = 9) (hch : m_r M 228 (n + 5) 0 = n + 6) (hc : m_t M (n + 6) = 41) (hT : TX M n t tc) (he : pS tc t = some qe) (hep : 0 < qe.2.2.length) (htF : m_t M (cA S 4 f) = 10) (hR : CR M S u) (hf : f < n_f u) (h12 : n_s u f + (qe.1.length + 1) ≤ 12) (hnS : n + 7 ≤ S) (hSn : S + 97 ≤ m_n M) (hnn : n + 591 ≤ m_n M) : CQ (Qv G (fun M2 => CR M2 S (apU u f (qe.1 ++ [qe.2.1 ++ [qe.2.2]])) ∧ Rg M M2 S ∧ Wt M2 ∧ Nw M2)) l G yX8_appendSegmentsTo cX8_appendSegmentsTo 4 (none) 3 70 36 852 [.ref (n + 5), .ref (cA S 4 f)] M := by
  refine c_of ([some (.ref (n + 5)), some (.ref (cA S 4 f)), none, none] : Lo) RX8 "appendSegmentsTo" (by decide) rfl rfl (Nat.le_of_ble_eq_true rfl) rfl (fun p e s m below meth c hC nw => ?_)
  have hb60 := hT.1
  have hb5 : n + 5 < m_n M := nw _ (by rw [ht]; decide)
  have hb6 : n + 6 < m_n M := nw _ (by rw [hc]; decide)
  have hbF : cA S 4 f < m_n M := nw _ (by rw [htF]; decide)
  have tt : ∀ M1 : Me, Rg M M1 S → m_t M1 (n + 5) = 9 ∧ m_t M1 (n + 6) = 41 ∧ m_t M1 (cA S 4 f) = 10 ∧ m_r M1 228 (n + 5) 0 = n + 6 := fun M1 hr => ⟨((hr.2 _ hb5).1).trans ht, ((hr.2 _ hb6).1).trans hc, ((hr.2 _ hbF).1).trans htF, ((hr.2 _ hb5).2.2.2.1 228 0 (Or.inl ⟨by decide, by decide⟩)).trans hch⟩
  have loop : ∀ (k i st : Nat) (q : Pt) (M1 : Me), i + k = 61 → i ≤ t → st ≤ i → pS tc i = some q → pS (fun j => tc (st + j)) (i - st) = some ([], q.2) → CR M1 S (apU u f q.1) → Rg M M1 S → Wt M1 → Nw M1 → V p l e (rmk 3 70 36 852) s m ([.ref (n + 5), .ref (cA S 4 f)] : List Value).toArray below meth c 4 G (MQ below (Qv G (fun M2 => CR M2 S (apU u f (qe.1 ++ [qe.2.1 ++ [qe.2.2]])) ∧ Rg M M2 S ∧ Wt M2 ∧ Nw M2)) ([.ref (n + 5), .ref (cA S 4 f)] : List Value).toArray s 36 852 (fr_ G)) M1 (3 * q.1.length) (71 * q.1.length) 4 ([some (.ref (n + 5)), some (.ref (cA S 4 f)), some (.int (nI st)), some (.int (nI i))] : Lo) [] := by
    intro k
    induction k with
    | zero => intro i st q M1 w1 w2; omega
    | succ k ih =>
      intro i st q M1 w1 w2 w3 hq hl hR hr hW nw1
      obtain ⟨ht, hc, htF, hch⟩ := tt M1 hr
      have hT := hT.rg hnn hr hnS
      obtain ⟨n1, n2⟩ := apU_s u f q.1
      have hlen := pS_len he i q w2 hq
      refine v_iload_n hC dX8_appendSegmentsTo_4 rfl rfl ?_
      refine v_aload_n hC dX8_appendSegmentsTo_5 rfl rfl ?_
      refine gf_8_1 hC ht mw_1_70 dX8_appendSegmentsTo_6 ?_
      rw [hT.2.1]
      refine v_icmp_ge hC dX8_appendSegmentsTo_9 (tgt := 43) (by decide) (fun h9 => ?_) (fun h9 => ?_)
      · have hi := lp_ge h9
        have hie : i = t := by omega
        subst hie
        have hqe : q = qe := Option.some.inj (hq.symm.trans he)
        subst hqe
        refine v_aload_n hC dX8_appendSegmentsTo_43 rfl rfl ?_
        refine v_aload_n hC dX8_appendSegmentsTo_44 rfl rfl ?_
        refine v_iload_n hC dX8_appendSegmentsTo_45 rfl rfl ?_
        refine v_aload_n hC dX8_appendSegmentsTo_46 rfl rfl ?_
        refine gf_8_1 hC ht mw_1_70 dX8_appendSegmentsTo_47 ?_
        rw [hT.2.1]
        refine cVr2 hC (c_X8_segmentBetween hW ht hch hc w3 (by omega) (fun j hj => hT.2.2 j (by omega)) hl rfl hep) yv_X8_segmentBetween rfl ht mw_2_209 ⟨Nat.le_of_ble_eq_true rfl, Nat.le_of_ble_eq_true rfl⟩ ⟨by show 3 * q.1.length + 3 ≤ 36; omega, by show 71 * q.1.length + 71 ≤ 852; omega⟩ (Nat.le_of_ble_eq_true rfl) dX8_appendSegmentsTo_50 (fun r50 M52 hq9 => ?_)
        obtain ⟨rfl, hN, nw2⟩ := hq9
        have hR2 := hR.ns nw1 hW (by have := hr.1; omega) hN
        have hr2 : Rg M M52 S := hr.tr hN.rg
        obtain ⟨ht, hc, htF, hch⟩ := tt M52 hr2
        refine cVv1 hC (c_X9_append hN.2.2.2 htF hR2 (by rw [n2]; exact hf) hN.2.2.1 (by rw [n1]; omega)) yv_X9_append rfl htF mw_2_218 ⟨Nat.le_of_ble_eq_true rfl, Nat.le_of_ble_eq_true rfl⟩ ⟨by show 3 * q.1.length + 3 + 0 ≤ 36; omega, by show 71 * q.1.length + 71 + 0 ≤ 852; omega⟩ (Nat.le_of_ble_eq_true rfl) dX8_appendSegmentsTo_53 (fun M55 hq8 => ?_)
        obtain ⟨hR3, hr3x, hW3, hx3⟩ := hq8
        have hr3 := hr2.tr hr3x
        have nw3 : Nw M55 := fun a ha => by rw [hx3.1]; exact nw2 a (by rw [← hx3.2]; exact ha)
        refine v_wide (k := 36) (n := 852) (by show 3 * q.1.length + 3 + 0 ≤ 36; omega) (by show 71 * q.1.length + 71 + 0 ≤ 852; omega) ?_
        refine v_vret hC dX8_appendSegmentsTo_56 ?_
        exact ⟨by rw [apU_a]; exact hR3, hr3, hW3, nw3⟩
      · have hi := lp_lt h9
        obtain ⟨r, hrr⟩ := pS_b he (i + 1) (by omega)
        have er := (pS_s hq).symm.trans hrr
        refine v_aload_n hC dX8_appendSegmentsTo_12 rfl rfl ?_
        refine gf_8_0 hC ht (wf_228 hW ht) mw_1_69 dX8_appendSegmentsTo_13 ?_
        rw [hch]
        refine v_iload_n hC dX8_appendSegmentsTo_16 rfl rfl ?_
        refine v_cald 41 hC hc (by decide) (by decide) (ix_c (wz_41 hW hc) (by omega)) dX8_appendSegmentsTo_17 ?_
        rw [hT.2.2 i hi]
        refine v_bipush (v := 46) hC dX8_appendSegmentsTo_18 (by decide) ?_
        refine v_icmp_ne hC dX8_appendSegmentsTo_20 (tgt := 37) (by decide) (fun h20 => ?_) (fun h20 => ?_)
        · refine v_inc3 hC dX8_appendSegmentsTo_37 ((nI_succ i).symm) (by decide) (kk := ?_)
          refine v_goto hC dX8_appendSegmentsTo_40 (tgt := 4) (by decide) ?_
          first
            | (rw [show q.1 = r.1 from (pst_nd h20 er).symm] at hR
               refine v_wide (k := 3 * r.1.length) (n := 71 * r.1.length) (by rw [pst_nd h20 er]; exact Nat.le_refl _) (by rw [pst_nd h20 er]; exact Nat.le_refl _) ?_
               exact ih (i + 1) st r M1 (by omega) (by omega) (by omega) hrr (by rw [show i + 1 - st = (i - st) + 1 by omega, pS_s hl, show st + (i - st) = i by omega]; exact pst_loc h20 er) hR hr hW nw1)
            | (have e2 : r.1.length = q.1.length + 1 := by rw [er2]; show (q.1 ++ _).length = _; rw [List.length_append]; rfl
               refine v_wide (k := 3 * r.1.length) (n := 71 * r.1.length) (by show 3 * q.1.length + 3 + 0 ≤ _; omega) (by show 71 * q.1.length + 71 + 0 ≤ _; omega) ?_
               exact ih (i + 1) (i + 1) r _ (by omega) (by omega) (Nat.le_refl _) hrr (by rw [Nat.sub_self, er2]; rfl) (by rw [er2]; show CR _ S (apU u f (q.1 ++ [q.2.1 ++ [q.2.2]])); rw [apU_a]; exact hR3) hr3 hW3 nw3)
        · have er1 := er
          rw [h20] at er1
          obtain ⟨er3, er2⟩ := pst_dot er1
          have hlen2 := pS_len he (i + 1) r (by omega) hrr
          rw [er2] at hlen2
          have hlen3 : q.1.length + 1 ≤ qe.1.length := by have z := hlen2; simp only [List.length_append, List.length_cons, List.length_nil] at z; omega
          refine v_aload_n hC dX8_appendSegmentsTo_23 rfl rfl ?_
          refine v_aload_n hC dX8_appendSegmentsTo_24 rfl rfl ?_
          refine v_iload_n hC dX8_appendSegmentsTo_25 rfl rfl ?_
          refine v_iload_n hC dX8_appendSegmentsTo_26 rfl rfl ?_
          refine cVr2 hC (c_X8_segmentBetween hW ht hch hc w3 (by omega) (fun j hj => hT.2.2 j (by omega)) hl rfl er3) yv_X8_segmentBetween rfl ht mw_2_209 ⟨Nat.le_of_ble_eq_true rfl, Nat.le_of_ble_eq_true rfl⟩ ⟨by show 3 * q.1.length + 3 ≤ 36; omega, by show 71 * q.1.length + 71 ≤ 852; omega⟩ (Nat.le_of_ble_eq_true rfl) dX8_appendSegmentsTo_27 (fun r27 M29 hq9 => ?_)
          obtain ⟨rfl, hN, nw2⟩ := hq9
          have hR2 := hR.ns nw1 hW (by have := hr.1; omega) hN
          have hr2 : Rg M M29 S := hr.tr hN.rg
          obtain ⟨ht, hc, htF, hch⟩ := tt M29 hr2
          refine cVv1 hC (c_X9_append hN.2.2.2 htF hR2 (by rw [n2]; exact hf) hN.2.2.1 (by rw [n1]; omega)) yv_X9_append rfl htF mw_2_218 ⟨Nat.le_of_ble_eq_true rfl, Nat.le_of_ble_eq_true rfl⟩ ⟨by show 3 * q.1.length + 3 + 0 ≤ 36; omega, by show 71 * q.1.length + 71 + 0 ≤ 852; omega⟩ (Nat.le_of_ble_eq_true rfl) dX8_appendSegmentsTo_30 (fun M32 hq8 => ?_)
          obtain ⟨hR3, hr3x, hW3, hx3⟩ := hq8
          have hr3 := hr2.tr hr3x
          have nw3 : Nw M32 := fun a ha => by rw [hx3.1]; exact nw2 a (by rw [← hx3.2]; exact ha)
          obtain ⟨ht, hc, htF, hch⟩ := tt M32 hr3
          refine v_iload_n hC dX8_appendSegmentsTo_33 rfl rfl ?_
          refine v_iconst (v := 1) hC dX8_appendSegmentsTo_34 (by decide) ?_
          refine v_iadd hC dX8_appendSegmentsTo_35 ?_
          rw [nI_1]
          refine v_ist2 hC dX8_appendSegmentsTo_36 (by decide) (kk := ?_)
          refine v_inc3 hC dX8_appendSegmentsTo_37 ((nI_succ i).symm) (by decide) (kk := ?_)
          refine v_goto hC dX8_appendSegmentsTo_40 (tgt := 4) (by decide) ?_
          first
            | (rw [show q.1 = r.1 from (pst_nd h20 er).symm] at hR
               refine v_wide (k := 3 * r.1.length) (n := 71 * r.1.length) (by rw [pst_nd h20 er]; exact Nat.le_refl _) (by rw [pst_nd h20 er]; exact Nat.le_refl _) ?_
               exact ih (i + 1) st r M1 (by omega) (by omega) (by omega) hrr (by rw [show i + 1 - st = (i - st) + 1 by omega, pS_s hl, show st + (i - st) = i by omega]; exact pst_loc h20 er) hR hr hW nw1)
            | (have e2 : r.1.length = q.1.length + 1 := by rw [er2]; show (q.1 ++ _).length = _; rw [List.length_append]; rfl
               refine v_wide (k := 3 * r.1.length) (n := 71 * r.1.length) (by show 3 * q.1.length + 3 + 0 ≤ _; omega) (by show 71 * q.1.length + 71 + 0 ≤ _; omega) ?_
               exact ih (i + 1) (i + 1) r _ (by omega) (by omega) (Nat.le_refl _) hrr (by rw [Nat.sub_self, er2]; rfl) (by rw [er2]; show CR _ S (apU u f (q.1 ++ [q.2.1 ++ [q.2.2]])); rw [apU_a]; exact hR3) hr3 hW3 nw3)
  refine v_iconst (v := 0) hC dX8_appendSegmentsTo_0 (by decide) ?_
  refine v_ist2 hC dX8_appendSegmentsTo_1 (by decide) (kk := ?_)
  refine v_iconst (v := 0) hC dX8_appendSegmentsTo_2 (by decide) ?_
  refine v_ist3 hC dX8_appendSegmentsTo_3 (by decide) (kk := ?_)
  exact loop 61 0 0 ([], [], []) M (by omega) (by omega) (Nat.le_refl 0) rfl rfl hR Rg.rf hW nw
