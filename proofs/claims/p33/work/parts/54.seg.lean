theorem pst_32 {q r : Pt} (e : pst 32 q = some r) : 0 < q.2.2.length ∧ q.2.1.length + 1 < 8 ∧ r = (q.1, q.2.1 ++ [q.2.2], []) := by
  unfold pst at e
  rw [if_neg (fun z => z.1 (by decide))] at e
  split at e
  · rename_i c2; cases e; exact ⟨c2.2.1, c2.2.2, rfl⟩
  · rw [if_neg (fun z => absurd z.1 (by decide))] at e; cases e
theorem pst_l {x : Int32} {q r : Pt} (hx : ¬ x = 32) (hd : r.1 = []) (e : pst x q = some r) : ∃ y, 1 ≤ y ∧ y ≤ 26 ∧ x = nI (96 + y) ∧ q.2.2.length < 8 ∧ r = (q.1, q.2.1, q.2.2 ++ [y]) := by
  unfold pst at e
  split at e
  · rename_i c1
    obtain ⟨y, y1, y2, y3, y4⟩ := ltr c1.1 c1.2.1
    cases e
    exact ⟨y, y1, y2, y3, c1.2.2, by rw [y4]⟩
  · rw [if_neg (fun z => hx z.1)] at e
    split at e
    · cases e
      exact absurd hd (by simp)
    · cases e
theorem pst_e {x : Int32} {q r : Pt} (e : pst x q = some r) (h : r.1 = []) : q.1 = [] := by
  unfold pst at e
  split at e
  · cases e; exact h
  · split at e
    · cases e; exact h
    · split at e
      · cases e; exact absurd h (by simp)
      · cases e
theorem pS_e {f : Nat → Int32} : ∀ {n : Nat} {q : Pt}, pS f n = some q → q.1 = [] → ∀ i r, i ≤ n → pS f i = some r → r.1 = []
  | 0, q, h, h0, i, r, hi, hr => by
    rw [show i = 0 by omega, h] at hr; cases hr; exact h0
  | n + 1, q, h, h0, i, r, hi, hr => by
    by_cases w : i = n + 1
    · rw [w, h] at hr; cases hr; exact h0
    · cases hn : pS f n with
      | none => rw [pS, hn] at h; cases h
      | some p =>
        have e := (pS_s hn).symm.trans h
        exact pS_e hn (pst_e e h0) i r (by omega) hr
/-- a character of a good text is one of those that are allowed -/
theorem pst_ch {x : Int32} {q r : Pt} (e : pst x q = some r) : ∃ y, y < 65536 ∧ x = nI y := by
  unfold pst at e
  split at e
  · rename_i c1
    obtain ⟨y, y1, y2, y3, y4⟩ := ltr c1.1 c1.2.1
    exact ⟨96 + y, by omega, y3⟩
  · split at e
    · rename_i c2; exact ⟨32, by decide, c2.1⟩
    · split at e
      · rename_i c3; exact ⟨46, by decide, c3.1⟩
      · cases e
/-- the characters of words and letters -/
def txP (ws : Sg) (w : List Nat) : List Nat := (ws.map (fun v => v.map (96 + ·) ++ [32])).flatten ++ w.map (96 + ·)
theorem txS_2 (v w : List Nat) (g : Sg) : txS (v :: w :: g) = v.map (96 + ·) ++ 32 :: txS (w :: g) := rfl
theorem txP_S : ∀ (ws : Sg) (w : List Nat), txS (ws ++ [w]) = txP ws w
  | [], w => by simp [txS, txP]
  | [v], w => by
    show txS (v :: w :: []) = _
    rw [txS_2]
    simp [txS, txP]
  | v :: v2 :: ws, w => by
    show txS (v :: v2 :: (ws ++ [w])) = _
    rw [txS_2]
    have ih := txP_S (v2 :: ws) w
    rw [show v2 :: (ws ++ [w]) = (v2 :: ws) ++ [w] from rfl, ih]
    simp [txP]
theorem txP_b (ws : Sg) (w : List Nat) : txP (ws ++ [w]) [] = txP ws w ++ [32] := by simp [txP]
theorem txP_l (ws : Sg) (w : List Nat) (y : Nat) : txP ws (w ++ [y]) = txP ws w ++ [96 + y] := by simp [txP]
theorem gD_a {L : List Nat} {y j : Nat} : (L ++ [y]).getD j 0 = if j < L.length then L.getD j 0 else if j = L.length then y else 0 := by
  rw [List.getD_eq_getElem?_getD, List.getD_eq_getElem?_getD]
  by_cases h : j < L.length
  · rw [if_pos h, List.getElem?_append_left h]
  · rw [if_neg h, List.getElem?_append_right (by omega)]
    by_cases h2 : j = L.length
    · rw [if_pos h2, h2, Nat.sub_self]; rfl
    · rw [if_neg h2]
      obtain ⟨m, hm⟩ : ∃ m, j - L.length = m + 1 := ⟨j - L.length - 1, by omega⟩
      rw [hm]; rfl
/-- what was read of one segment is its characters -/
theorem pS_tx {f : Nat → Int32} : ∀ {n : Nat} {q : Pt}, pS f n = some q → q.1 = [] → (txP q.2.1 q.2.2).length = n ∧ ∀ j, j < n → f j = nI ((txP q.2.1 q.2.2).getD j 0)
  | 0, q, h, h0 => by cases h; exact ⟨rfl, fun j hj => absurd hj (Nat.not_lt_zero j)⟩
  | n + 1, q, h, h0 => by
    cases hn : pS f n with
    | none => rw [pS, hn] at h; cases h
    | some p =>
      have e := (pS_s hn).symm.trans h
      obtain ⟨i1, i2⟩ := pS_tx hn (pst_e e h0)
      have ext : ∀ y, txP q.2.1 q.2.2 = txP p.2.1 p.2.2 ++ [y] → f n = nI y → (txP q.2.1 q.2.2).length = n + 1 ∧ ∀ j, j < n + 1 → f j = nI ((txP q.2.1 q.2.2).getD j 0) := fun y ey fy => by
        rw [ey]
        refine ⟨by rw [List.length_append, i1]; rfl, fun j hj => ?_⟩
        rw [gD_a, i1]
        by_cases w : j < n
        · rw [if_pos w]; exact i2 j w
        · rw [if_neg w, if_pos (by omega), show j = n by omega]; exact fy
      by_cases h32 : f n = 32
      · rw [h32] at e
        obtain ⟨a1, a2, a3⟩ := pst_32 e
        refine ext 32 ?_ h32
        rw [a3]; exact txP_b _ _
      · obtain ⟨y, y1, y2, y3, y4, y5⟩ := pst_l h32 h0 e
        refine ext (96 + y) ?_ y3
        rw [y5]; exact txP_l _ _ _
/-- a Segment under way -/
def Wg (M : Me) (h ch : Nat) (M2 : Me) (g : Sg) : Prop := Fx (f_sg M h ch) M2 ∧ (∀ k a j, ¬ (k = 198 ∧ a = h) → m_i M2 k a j = m_i (f_sg M h ch) k a j) ∧ (∀ k a j, ¬ (k = 30 ∧ a = m_n M) → m_l M2 k a j = m_l (f_sg M h ch) k a j) ∧ m_i M2 198 h 0 = nI g.length ∧ ∀ i, i < g.length → m_l M2 30 (m_n M) i = Int64.ofNat (v32 (g.getD i []))
theorem gG_a {L : Sg} {y : List Nat} {j : Nat} : (L ++ [y]).getD j [] = if j < L.length then L.getD j [] else if j = L.length then y else [] := by
  rw [List.getD_eq_getElem?_getD, List.getD_eq_getElem?_getD]
  by_cases h : j < L.length
  · rw [if_pos h, List.getElem?_append_left h]
  · rw [if_neg h, List.getElem?_append_right (by omega)]
    by_cases h2 : j = L.length
    · rw [if_pos h2, h2, Nat.sub_self]; rfl
    · rw [if_neg h2]
      obtain ⟨m, hm⟩ : ∃ m, j - L.length = m + 1 := ⟨j - L.length - 1, by omega⟩
      rw [hm]; rfl
theorem Wg.add {M M2 : Me} {h ch : Nat} {g : Sg} {w : List Nat} (x : Wg M h ch M2 g) : Wg M h ch (s_i (s_l M2 30 (m_n M) g.length (Int64.ofNat (v32 w))) 198 h 0 (nI (g.length + 1))) (g ++ [w]) := by
  obtain ⟨a1, a2, a3, a4, a5⟩ := x
  refine ⟨a1.sl.si, fun k a j q => ?_, fun k a j q => ?_, by rw [i_se, List.length_append]; rfl, fun i hi => ?_⟩
  · rw [i_sx (fun z => q ⟨z.1, z.2.1⟩), i_sl]; exact a2 k a j q
  · rw [l_si]
    exact (if_neg (fun z => q ⟨z.1, z.2.1⟩)).trans (a3 k a j q)
  · rw [List.length_append] at hi
    have hi2 : i < g.length + 1 := hi
    rw [l_si, gG_a]
    by_cases z : i < g.length
    · rw [if_pos z, l_sj (by omega)]; exact a5 i z
    · have z2 : i = g.length := by omega
      rw [if_neg z, if_pos z2, z2, l_se]
theorem ch_y {y : Nat} (y1 : 1 ≤ y) : nI (96 + y) - 97 + 1 = nI y := by
  obtain ⟨k, rfl⟩ : ∃ k, y = k + 1 := ⟨y - 1, by omega⟩
  rw [show 96 + (k + 1) = k + 97 by omega, ← nI_add, show (97 : Int32) = nI 97 from rfl, Int32.add_sub_cancel, ← nI_succ]
theorem wd32 {a y : Nat} (y1 : 1 ≤ y) (y2 : y ≤ 26) : Int64.ofNat a * 32 + (nI (96 + y) - 97 + 1).toInt64 = Int64.ofNat (a * 32 + y) := by
  rw [ch_y y1, nI_l (by omega)]
  show lN a * lN 32 + lN y = lN (a * 32 + y)
  rw [lN_mul, lN_add]
theorem v32_0 {w : List Nat} (h : gWord w) : ¬ Int64.ofNat (v32 w) = 0 := fun q => by
  have e := v_i64 (m := 0) (v32_lt h) (by decide) q
  rcases List.eq_nil_or_concat w with z | ⟨x, c, z⟩
  · rw [z] at h; exact absurd h.1 (by decide)
  · rw [List.concat_eq_append] at z
    subst z
    have := h.2.2 c (by simp)
    unfold v32 at e
    rw [vB_snoc] at e
    omega
/-- a segment that is new, and what is as it was -/
def Ns (M : Me) (r : Nat) (M2 : Me) (g : Sg) : Prop := m_n M2 = m_n M + 3 ∧ (∀ a, a < m_n M → Sm M M2 a) ∧ SgR M2 r g ∧ Wt M2
theorem nI_mx {z : Nat} (h : z < 2 ^ 31) : (if 0 < nI z then nI z else 0) = nI z := by
  cases z with
  | zero => rfl
  | succ k => exact if_pos (nI_lt (a := 0) (b := k + 1) (Nat.succ_pos k) h)
theorem nI_sb {a b : Nat} (h : b ≤ a) : nI a - nI b = nI (a - b) := by
  obtain ⟨k, rfl⟩ : ∃ k, a = k + b := ⟨a - b, by omega⟩
  rw [← nI_add, Int32.add_sub_cancel, Nat.add_sub_cancel]
set_option maxHeartbeats 4000000 in
set_option maxRecDepth 100000 in
theorem c_X6_addWord {l : Launch} {G : Gd} {M : Me} {h i : Nat} {y : Int64} (ht : m_t M h = 7) (hk : m_i M 198 h 0 = nI i) (hi : i < 8) (hr7 : m_t M (m_r M 197 h 0) = 30) (hz : m_z M (m_r M 197 h 0) = 8) (hy : ¬ y = 0) : CQ (Qv G (fun M2 => M2 = s_i (s_l M 30 (m_r M 197 h 0) i y) 198 h 0 (nI (i + 1)))) l G yX6_addWord cX6_addWord 3 (none) 0 0 0 0 [.ref h, .long y] M := by
  refine c_of ([some (.ref h), some (.long y), none] : Lo) RX6 "addWord" (by decide) rfl rfl (Nat.le_of_ble_eq_true rfl) rfl (fun p e s m below meth c hC nw => ?_)
  refine v_lload_n hC dX6_addWord_0 rfl rfl ?_
  refine v_lconst (v := 0) hC dX6_addWord_1 (by decide) ?_
  refine v_lcmp hC dX6_addWord_2 ?_
  refine v_if_eq hC dX6_addWord_3 (tgt := 35) (by decide) (fun h3 => absurd ((lg_cmp_eq _ _).mp h3) hy) (fun h3 => ?_)
  refine v_aload_n hC dX6_addWord_6 rfl rfl ?_
  refine gf_6_2 hC ht mw_1_49 dX6_addWord_7 ?_
  rw [hk]
  refine v_bipush (v := 8) hC dX6_addWord_10 (by decide) ?_
  refine v_icmp_ge hC dX6_addWord_12 (tgt := 35) (by decide) (fun h12 => absurd (nI_lt (a := i) (b := 8) hi (by decide)) (fun q => i_ab q h12)) (fun h12 => ?_)
  refine v_aload_n hC dX6_addWord_15 rfl rfl ?_
  refine gf_6_1 hC ht hr7 mw_1_47 dX6_addWord_16 ?_
  refine v_aload_n hC dX6_addWord_19 rfl rfl ?_
  refine gf_6_2 hC ht mw_1_49 dX6_addWord_20 ?_
  rw [hk]
  refine v_lload_n hC dX6_addWord_23 rfl rfl ?_
  refine v_last 30 hC hr7 (by decide) (by decide) (ix_c hz hi) dX6_addWord_24 ?_
  refine v_aload_n hC dX6_addWord_25 rfl rfl ?_
  refine v_dup hC dX6_addWord_26 rfl ?_
  refine gf_6_2 hC ht mw_1_49 dX6_addWord_27 ?_
  erw [hk]
  refine v_iconst (v := 1) hC dX6_addWord_30 (by decide) ?_
  refine v_iadd hC dX6_addWord_31 ?_
  rw [← nI_succ]
  refine pf_6_2 hC ht mw_1_49 dX6_addWord_32 ?_
  refine v_vret hC dX6_addWord_35 ?_
  exact rfl

set_option maxHeartbeats 4000000 in
set_option maxRecDepth 100000 in
theorem c_X6_init {l : Launch} {G : Gd} {M : Me} {h ch z : Nat} {d : Nat → Int32} {qe : Pt} (ht : m_t M h = 7) (hc : m_t M ch = 40) (hz0 : m_z M ch = z) (hzb : z ≤ 60) (hd : ∀ j, j < z → m_i M 40 ch j = d j) (he : pS d z = some qe) (he0 : qe.1 = []) (hep : 0 < qe.2.2.length) : CQ (Qv G (fun M2 => Wg M h ch M2 (qe.2.1 ++ [qe.2.2]))) l G yX6_init cX6_init 5 (none) 1 22 1 8 [.ref h, .ref ch] M := by
  refine c_of ([some (.ref h), some (.ref ch), none, none, none] : Lo) RX6 "<init>" (by decide) rfl rfl (Nat.le_of_ble_eq_true rfl) rfl (fun p e s m below meth c hC nw => ?_)
  have hB : h < m_n M := nw h (by rw [ht]; decide)
  have hBc : ch < m_n M := nw ch (by rw [hc]; decide)
  have ht2 : m_t (f_sg M h ch) h = 7 := (if_neg (Nat.ne_of_lt hB)).trans ht
  have hc2 : m_t (f_sg M h ch) ch = 40 := (if_neg (Nat.ne_of_lt hBc)).trans hc
  have hz2 : m_z (f_sg M h ch) ch = z := (if_neg (Nat.ne_of_lt hBc)).trans hz0
  have r197 : m_r (f_sg M h ch) 197 h 0 = m_n M := r_se
  have t30 : m_t (f_sg M h ch) (m_n M) = 30 := if_pos rfl
  have z30 : m_z (f_sg M h ch) (m_n M) = 8 := if_pos rfl
  have hdd : ∀ j, j < z → m_i (f_sg M h ch) 40 ch j = d j := fun j hj => (i_sk (by decide)).trans ((if_neg (Nat.ne_of_lt hBc)).trans (hd j hj))
  have hw0 : Wg M h ch (f_sg M h ch) [] := ⟨Fx.rf, fun _ _ _ _ => rfl, fun _ _ _ _ => rfl, i_se, fun i hi => absurd hi (Nat.not_lt_zero i)⟩
  have loop : ∀ (k i : Nat) (q : Pt) (M1 : Me), i + k = 61 → i ≤ z → pS d i = some q → q.1 = [] → Wg M h ch M1 q.2.1 → V p l e (rmk 1 22 1 8) s m ([.ref h, .ref ch] : List Value).toArray below meth c 5 G (MQ below (Qv G (fun M2 => Wg M h ch M2 (qe.2.1 ++ [qe.2.2]))) ([.ref h, .ref ch] : List Value).toArray s 1 8 (fr_ G)) M1 (0 + 1) (0 + 8) 27 ([some (.ref h), some (.ref ch), some (.long (Int64.ofNat (v32 q.2.2))), none, some (.int (nI i))] : Lo) [] := by
    intro k
    induction k with
    | zero => intro i q M1 w1 w2; omega
    | succ k ih =>
      intro i q M1 w1 w2 hq q0 hg
      have ht : m_t M1 h = 7 := (hg.1.2.1 h).trans ht2
      have hc : m_t M1 ch = 40 := (hg.1.2.1 ch).trans hc2
      have hr197 : m_r M1 197 h 0 = m_n M := (hg.1.2.2.2 197 h 0).trans r197
      have hr7 : m_t M1 (m_n M) = 30 := (hg.1.2.1 _).trans t30
      have hz8 : m_z M1 (m_n M) = 8 := (hg.1.2.2.1 _).trans z30
      have hG := pS_G hq
      refine v_iload hC dX6_init_27 rfl ?_
      refine v_aload_n hC dX6_init_29 rfl rfl ?_
      refine v_alez hC hc ((hg.1.2.2.1 ch).trans hz2) dX6_init_30 ?_
      refine v_icmp_ge hC dX6_init_31 (tgt := 76) (by decide) (fun h31 => ?_) (fun h31 => ?_)
      · have hi := lp_ge h31
        have hie : i = z := by omega
        subst hie
        cases hq.symm.trans he
        refine v_aload_n hC dX6_init_76 rfl rfl ?_
        refine v_lload_n hC dX6_init_77 rfl rfl ?_
        refine cVv1 hC (c_X6_addWord ht hg.2.2.2.1 hG.2.2.1 (by rw [hr197]; exact hr7) (by rw [hr197]; exact hz8) (v32_0 (hG.w hep))) yv_X6_addWord rfl ht mw_1_40 ⟨Nat.le_of_ble_eq_true rfl, Nat.le_of_ble_eq_true rfl⟩ ⟨Nat.le_of_ble_eq_true rfl, Nat.le_of_ble_eq_true rfl⟩ (Nat.le_of_ble_eq_true rfl) dX6_init_78 (fun M80 hq => ?_)
        subst hq
        refine v_wide (k := 1) (n := 8) (Nat.le_of_ble_eq_true rfl) (Nat.le_of_ble_eq_true rfl) ?_
        refine v_vret hC dX6_init_81 ?_
        rw [hr197]
        exact hg.add
      · have hi := lp_lt h31
        obtain ⟨r, hr⟩ := pS_b he (i + 1) (by omega)
        have er0 := (pS_s hq).symm.trans hr
        have r0 := pS_e he he0 (i + 1) r (by omega) hr
        refine v_aload_n hC dX6_init_34 rfl rfl ?_
        refine v_iload hC dX6_init_35 rfl ?_
        refine v_cald 40 hC hc (by decide) (by decide) (ix_c ((hg.1.2.2.1 ch).trans hz2) hi (by omega)) dX6_init_37 ?_
        rw [hg.2.1 40 ch i (fun z => absurd z.1 (by decide)), hdd i hi]
        refine v_bipush (v := 32) hC dX6_init_38 (by decide) ?_
        refine v_icmp_ne hC dX6_init_40 (tgt := 53) (by decide) (fun h40 => ?_) (fun h40 => ?_)
        · obtain ⟨y, y1, y2, y3, y4, er⟩ := pst_l h40 r0 er0
          refine v_lload_n hC dX6_init_53 rfl rfl ?_
          refine v_ldc2 hC mw_1_44 dX6_init_54 ?_
          refine v_lmul hC dX6_init_57 ?_
          refine v_aload_n hC dX6_init_58 rfl rfl ?_
          refine v_iload hC dX6_init_59 rfl ?_
          refine v_cald 40 hC hc (by decide) (by decide) (ix_c ((hg.1.2.2.1 ch).trans hz2) hi (by omega)) dX6_init_61 ?_
          rw [hg.2.1 40 ch i (fun z => absurd z.1 (by decide)), hdd i hi, y3]
          refine v_bipush (v := 97) hC dX6_init_62 (by decide) ?_
          refine v_isub hC dX6_init_64 ?_
          refine v_iconst (v := 1) hC dX6_init_65 (by decide) ?_
          refine v_iadd hC dX6_init_66 ?_
          refine v_i2l hC dX6_init_67 ?_
          refine v_ladd hC dX6_init_68 ?_
          rw [wd32 y1 y2, show v32 q.2.2 * 32 + y = v32 (q.2.2 ++ [y]) from vB_snoc.symm]
          refine v_lst2 hC dX6_init_69 (by decide) (kk := ?_)
          refine v_inc4 hC dX6_init_70 ((nI_succ i).symm) (by decide) (kk := ?_)
          refine v_goto hC dX6_init_73 (tgt := 27) (by decide) ?_
          first
            | exact ih (i + 1) (q.1, q.2.1 ++ [q.2.2], []) _ (by omega) (by omega) (hr.trans (congrArg some er)) q0 (by rw [hr197]; exact hg.add)
            | exact ih (i + 1) (q.1, q.2.1, q.2.2 ++ [y]) _ (by omega) (by omega) (hr.trans (congrArg some er)) q0 hg
        · rw [h40] at er0
          obtain ⟨a1, a2, er⟩ := pst_32 er0
          refine v_aload_n hC dX6_init_43 rfl rfl ?_
          refine v_lload_n hC dX6_init_44 rfl rfl ?_
          refine cVv1 hC (c_X6_addWord ht hg.2.2.2.1 (by omega) (by rw [hr197]; exact hr7) (by rw [hr197]; exact hz8) (v32_0 (hG.w a1))) yv_X6_addWord rfl ht mw_1_40 ⟨Nat.le_of_ble_eq_true rfl, Nat.le_of_ble_eq_true rfl⟩ ⟨Nat.le_of_ble_eq_true rfl, Nat.le_of_ble_eq_true rfl⟩ (Nat.le_of_ble_eq_true rfl) dX6_init_45 (fun M47 hq => ?_)
          subst hq
          refine v_lconst (v := 0) hC dX6_init_48 (by decide) ?_
          refine v_lst2 hC dX6_init_49 (by decide) (kk := ?_)
          refine v_goto hC dX6_init_50 (tgt := 70) (by decide) ?_
          refine v_inc4 hC dX6_init_70 ((nI_succ i).symm) (by decide) (kk := ?_)
          refine v_goto hC dX6_init_73 (tgt := 27) (by decide) ?_
          first
            | exact ih (i + 1) (q.1, q.2.1 ++ [q.2.2], []) _ (by omega) (by omega) (hr.trans (congrArg some er)) q0 (by rw [hr197]; exact hg.add)
            | exact ih (i + 1) (q.1, q.2.1, q.2.2 ++ [y]) _ (by omega) (by omega) (hr.trans (congrArg some er)) q0 hg
  refine v_aload_n hC dX6_init_0 rfl rfl ?_
  refine v_oinit hC mw_1_39 (Nat.le_of_ble_eq_true rfl) (Nat.le_of_ble_eq_true rfl) dX6_init_1 ?_
  refine v_aload_n hC dX6_init_4 rfl rfl ?_
  refine v_aload_n hC dX6_init_5 rfl rfl ?_
  refine pf_6_0 hC ht hc mw_1_45 dX6_init_6 ?_
  refine v_aload_n hC dX6_init_9 rfl rfl ?_
  refine v_bipush (v := 8) hC dX6_init_10 (by decide) ?_
  refine v_newl 30 hC (N := 8) (by decide) (by decide) (by decide) (by decide) (by decide) (Nat.le_of_ble_eq_true rfl) (Nat.le_of_ble_eq_true rfl) dX6_init_12 (fun nw12 => ?_)
  refine pf_6_1 hC ((Nw.kt (t := 30) (z := 8) nw12).u ht) (tn_n (z := 8)) mw_1_47 dX6_init_14 ?_
  refine v_aload_n hC dX6_init_17 rfl rfl ?_
  refine v_iconst (v := 0) hC dX6_init_18 (by decide) ?_
  refine pf_6_2 hC ((Nw.kt (t := 30) (z := 8) nw12).u ht) mw_1_49 dX6_init_19 ?_
  refine v_lconst (v := 0) hC dX6_init_22 (by decide) ?_
  refine v_lst2 hC dX6_init_23 (by decide) (kk := ?_)
  refine v_iconst (v := 0) hC dX6_init_24 (by decide) ?_
  refine v_ist4 hC dX6_init_25 (by decide) (kk := ?_)
  exact loop 61 0 ([], [], []) _ (by omega) (by omega) rfl rfl hw0
