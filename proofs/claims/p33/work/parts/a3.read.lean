/-! what the readers touch: at, reads, and the row of what was read -/
def s_e (M : Me) (bi : Nat → Nat → Nat → Int32) (bl : Nat → Nat → Nat → Int64) : Me := (M.1, M.2.1, M.2.2.1, (fun k a j => if k = 284 ∨ k = 285 then bi k a j else M.2.2.2.1 k a j), (fun k a j => if k = 34 then bl k a j else M.2.2.2.2.1 k a j), M.2.2.2.2.2)
def Rd (M M2 : Me) : Prop := ∃ bi bl, M2 = s_e M bi bl
theorem Rd.rf {M : Me} : Rd M M := ⟨M.2.2.2.1, M.2.2.2.2.1, (me_ext (fun k a j => (ite_self _).symm)).trans (me_extl (fun k a j => (ite_self _).symm))⟩
theorem Rd.tr {M M2 M3 : Me} (h : Rd M M2) (h2 : Rd M2 M3) : Rd M M3 := by
  obtain ⟨b, l, rfl⟩ := h
  obtain ⟨b2, l2, rfl⟩ := h2
  refine ⟨b2, l2, (me_ext (fun k a j => ?_)).trans (me_extl (fun k a j => ?_))⟩
  · show (if k = 284 ∨ k = 285 then b2 k a j else if k = 284 ∨ k = 285 then b k a j else M.2.2.2.1 k a j) = _
    by_cases q : k = 284 ∨ k = 285
    · rw [if_pos q, if_pos q]
    · rw [if_neg q, if_neg q, if_neg q]
  · show (if k = 34 then l2 k a j else if k = 34 then l k a j else M.2.2.2.2.1 k a j) = _
    by_cases q : k = 34
    · rw [if_pos q, if_pos q]
    · rw [if_neg q, if_neg q, if_neg q]
theorem Rd.si {M : Me} {k x i : Nat} {v : Int32} (hk : k = 284 ∨ k = 285) : Rd M (s_i M k x i v) := ⟨(s_i M k x i v).2.2.2.1, M.2.2.2.2.1, (me_ext (fun k2 a j => by
  show (if k2 = k ∧ a = x ∧ j = i then v else M.2.2.2.1 k2 a j) = if k2 = 284 ∨ k2 = 285 then (if k2 = k ∧ a = x ∧ j = i then v else M.2.2.2.1 k2 a j) else M.2.2.2.1 k2 a j
  by_cases q : k2 = 284 ∨ k2 = 285
  · rw [if_pos q]
  · rw [if_neg q, if_neg (fun w => q (by rw [w.1]; exact hk))])).trans (me_extl (fun k a j => (ite_self _).symm))⟩
theorem Rd.sl {M : Me} {x i : Nat} {v : Int64} : Rd M (s_l M 34 x i v) := ⟨M.2.2.2.1, (s_l M 34 x i v).2.2.2.2.1, (me_ext (fun k a j => (ite_self _).symm)).trans (me_extl (fun k2 a j => by
  show (if k2 = 34 ∧ a = x ∧ j = i then v else M.2.2.2.2.1 k2 a j) = if k2 = 34 then (if k2 = 34 ∧ a = x ∧ j = i then v else M.2.2.2.2.1 k2 a j) else M.2.2.2.2.1 k2 a j
  by_cases q : k2 = 34
  · rw [if_pos q]
  · rw [if_neg q, if_neg (fun w => q w.1)]))⟩
theorem e_i {M : Me} {bi : Nat → Nat → Nat → Int32} {bl : Nat → Nat → Nat → Int64} {k a j : Nat} (hk : ¬ (k = 284 ∨ k = 285)) : m_i (s_e M bi bl) k a j = m_i M k a j := if_neg hk
theorem e_l {M : Me} {bi : Nat → Nat → Nat → Int32} {bl : Nat → Nat → Nat → Int64} {k a j : Nat} (hk : ¬ k = 34) : m_l (s_e M bi bl) k a j = m_l M k a j := if_neg hk
theorem TA.rd {M M2 : Me} {h t : Nat} {c : Nat → Int32} (q : TA M h t c) (r : Rd M M2) : TA M2 h t c := by
  obtain ⟨b, l, rfl⟩ := r
  exact ⟨q.1, (e_i (by decide)).trans q.2.1, fun j hj => (e_i (by decide)).trans (q.2.2 j hj)⟩
theorem On.rd {M M2 : Me} (r : Rd M M2) : On M M2 := by
  obtain ⟨b, l, rfl⟩ := r
  exact ⟨Fx.rf, fun k a j q => if_neg (fun e => by rcases e with rfl | rfl <;> cases q), fun k a j q => if_neg (fun e => by rcases e with rfl; cases q)⟩
theorem Rd.rw_ {M M2 : Me} {h : Nat} (r : Rd M M2) : rwM M2 h = rwM M h := by
  obtain ⟨b, l, rfl⟩ := r
  exact funext fun p => e_l (by decide)
theorem AR.rd {M M2 : Me} {h : Nat} {x : Xs} (q : AR M h x) (r : Rd M M2) : AR M2 h x := by
  have e1 := r.rw_ (h := h)
  obtain ⟨b, l, rfl⟩ := r
  obtain ⟨a1, a2, ⟨a3, a4, a5⟩, a6, a7, a8⟩ := q
  have e2 : pas (s_e M b l) h = pas M h := funext fun p => e_l (by decide)
  have e3 : asd (s_e M b l) h = asd M h := funext fun p => e_l (by decide)
  refine ⟨a1, by rw [e1]; exact a2, ⟨a3, (e_i (by decide)).trans a4, fun j hj => ?_⟩, (e_i (by decide)).trans a6, a7, fun e => ?_⟩
  · rw [e2]; exact a5 j hj
  · rw [e3]; exact a8 e
theorem Rd.wt {M M2 : Me} (r : Rd M M2) (w : Wt M) : Wt M2 := by
  obtain ⟨b, l, rfl⟩ := r
  exact w
theorem Rd.mt {M M2 : Me} (r : Rd M M2) (h : Nat) : m_t M2 h = m_t M h := by
  obtain ⟨b, l, rfl⟩ := r
  rfl
theorem w27_s {x : Int32} {y : Nat} {w : List Nat} (e : x = nI (96 + y)) (h1 : 1 ≤ y) (h2 : y ≤ 26) : 27 * Int64.ofNat (v27 w) + (x - 97 + 1).toInt64 = Int64.ofNat (v27 (w ++ [y])) := by
  have e1 : x - 97 + 1 = nI y := by
    obtain ⟨z, rfl⟩ : ∃ z, y = z + 1 := ⟨y - 1, by omega⟩
    rw [e, show (97 : Int32) = nI 97 from rfl, nI_sb (by omega), show 96 + (z + 1) - 97 = z by omega, ← nI_succ]
  rw [e1, nI_l (by omega), show v27 (w ++ [y]) = v27 w * 27 + y from vB_snoc, Int64.ofNat_add, Int64.ofNat_mul, Int64.mul_comm]
  rfl
theorem pz_l {x : Int32} {gs : List Sg} {ws : Sg} {w : List Nat} {y : Nat} (h1 : ¬ x < 97) (h2 : ¬ 122 < x) (h3 : w.length < 8) (e : (x - 96).toNatClampNeg = y) : pst x (gs, ws, w) = some (gs, ws, w ++ [y]) := by
  unfold pst
  rw [if_pos ⟨h1, h2, h3⟩, e]
theorem pz_b {gs : List Sg} {ws : Sg} {w : List Nat} (h1 : 0 < w.length) (h2 : ws.length + 1 < 8) : pst 32 (gs, ws, w) = some (gs, ws ++ [w], []) := by
  unfold pst
  rw [if_neg (fun z => z.1 (by decide)), if_pos ⟨rfl, h1, h2⟩]
theorem pz_d {gs : List Sg} {ws : Sg} {w : List Nat} (h1 : 0 < w.length) : pst 46 (gs, ws, w) = some (gs ++ [ws ++ [w]], [], []) := by
  unfold pst
  rw [if_neg (fun z => z.1 (by decide)), if_neg (fun z => absurd z.1 (by decide)), if_pos ⟨rfl, h1⟩]
theorem pz_n {x : Int32} {gs : List Sg} {ws : Sg} {w : List Nat} (h1 : ¬ (¬ x < 97 ∧ ¬ 122 < x ∧ w.length < 8)) (h2 : ¬ (x = 32 ∧ 0 < w.length ∧ ws.length + 1 < 8)) (h3 : ¬ (x = 46 ∧ 0 < w.length)) : pst x (gs, ws, w) = none := by
  unfold pst
  rw [if_neg h1, if_neg h2, if_neg h3]
theorem flt_w {f : Nat → Int32} {t i : Nat} {gs : List Sg} {ws : Sg} (h : pS f i = some (gs, ws, [])) (hi : i ≤ t) (hn : ¬ ltA f t i) : fltF f t = some i := by
  by_cases q : i < t
  · exact flt_at q h (pz_n (fun z => hn ⟨q, z.1, z.2.1⟩) (fun z => absurd z.2.1 (Nat.lt_irrefl 0)) (fun z => absurd z.2 (Nat.lt_irrefl 0)))
  · have e : i = t := by omega
    subst e
    exact flt_end h rfl
theorem pS_k {f : Nat → Int32} : ∀ {n : Nat} {gs : List Sg} {ws : Sg} {w : List Nat}, pS f n = some (gs, ws, w) → 2 * gs.length + 2 * ws.length + w.length ≤ n
  | 0, gs, ws, w, h => by cases h; exact Nat.le_refl _
  | n + 1, gs, ws, w, h => by
    cases hn : pS f n with
    | none => rw [pS, hn] at h; cases h
    | some r =>
      obtain ⟨gs0, ws0, w0⟩ := r
      have ih := pS_k hn
      rw [pS_s hn] at h
      unfold pst at h
      split at h
      · cases h
        rw [List.length_append]
        show 2 * gs0.length + 2 * ws0.length + (w0.length + 1) ≤ _
        omega
      · split at h
        · rename_i c2
          cases h
          have c3 : 0 < w0.length := c2.2.1
          rw [List.length_append]
          show 2 * gs0.length + 2 * (ws0.length + 1) + 0 ≤ _
          omega
        · split at h
          · rename_i c2
            cases h
            have c3 : 0 < w0.length := c2.2
            rw [List.length_append]
            show 2 * (gs0.length + 1) + 2 * 0 + 0 ≤ _
            omega
          · cases h
theorem w27_p {w : List Nat} (h : ¬ lg_cmp (Int64.ofNat (v27 w)) 0 = 0) : 0 < w.length := by
  cases w with
  | nil => exact absurd ((lg_cmp_eq _ _).mpr rfl) h
  | cons a w => exact Nat.succ_pos _
theorem w27_z {w : List Nat} (hl : w.length ≤ 8) (h2 : ∀ c ∈ w, 1 ≤ c ∧ c ≤ 26) (h : lg_cmp (Int64.ofNat (v27 w)) 0 = 0) : w = [] := by
  have e := v_i64 (m := 0) (v27_lt hl h2) (by decide) ((lg_cmp_eq _ _).mp h)
  have := (tk_z h2 (Nat.le_refl w.length)).mp (by rw [List.take_length]; exact e)
  exact List.length_eq_zero_iff.mp this
theorem gD_ap {ws : Sg} {w : List Nat} {a : Nat} : (ws ++ [w]).getD a [] = if a = ws.length then w else ws.getD a [] := by
  rw [List.getD_eq_getElem?_getD]
  by_cases q : a = ws.length
  · rw [if_pos q, q, List.getElem?_append_right (Nat.le_refl _), Nat.sub_self]; rfl
  · rw [if_neg q]
    by_cases q2 : a < ws.length
    · rw [List.getElem?_append_left q2, List.getD_eq_getElem?_getD]
    · rw [List.getElem?_append_right (by omega), List.getElem?_eq_none (by show 1 ≤ _; omega), List.getD_eq_getElem?_getD, List.getElem?_eq_none (by omega)]
set_option maxHeartbeats 4000000 in
set_option maxRecDepth 100000 in
theorem c_X11_readsWord {l : Launch} {G : Gd} {M : Me} {h t i0 : Nat} {tc : Nat → Int32} {gs : List Sg} {ws : Sg} (hW : Wt M) (ht : m_t M h = 12) (hT : TA M h t tc) (hat : m_i M 285 h 0 = nI i0) (hp : pS tc i0 = some (gs, ws, [])) (hi : i0 ≤ t) : CQ (Ql G (fun r M2 => ∃ w, r = Int64.ofNat (v27 w) ∧ w.length ≤ 8 ∧ Rd M M2 ∧ m_i M2 285 h 0 = nI (i0 + w.length) ∧ m_i M2 284 h 0 = m_i M 284 h 0 ∧ rdM M2 h = rdM M h ∧ pS tc (i0 + w.length) = some (gs, ws, w) ∧ i0 + w.length ≤ t ∧ (w.length = 8 ∨ ¬ ltA tc t (i0 + w.length)))) l G yX11_readsWord cX11_readsWord 4 ((some .long)) 1 20 0 0 [.ref h] M := by
  refine c_of ([some (.ref h), none, none, none] : Lo) RX11 "readsWord" (by decide) rfl rfl (Nat.le_of_ble_eq_true rfl) rfl (fun p e s m below meth c hC nw => ?_)
  have hb := hT.1
  have loop : ∀ (j n : Nat) (w : List Nat) (M1 : Me), n + j = 9 → w.length = n → n ≤ 8 → Rd M M1 → m_i M1 285 h 0 = nI (i0 + n) → m_i M1 284 h 0 = m_i M 284 h 0 → rdM M1 h = rdM M h → pS tc (i0 + n) = some (gs, ws, w) → i0 + n ≤ t → V p l e (rmk 1 20 0 0) s m ([.ref h] : List Value).toArray below meth c 4 G (MQ below (Ql G (fun r M2 => ∃ w, r = Int64.ofNat (v27 w) ∧ w.length ≤ 8 ∧ Rd M M2 ∧ m_i M2 285 h 0 = nI (i0 + w.length) ∧ m_i M2 284 h 0 = m_i M 284 h 0 ∧ rdM M2 h = rdM M h ∧ pS tc (i0 + w.length) = some (gs, ws, w) ∧ i0 + w.length ≤ t ∧ (w.length = 8 ∨ ¬ ltA tc t (i0 + w.length)))) ([.ref h] : List Value).toArray s 0 0 (fr_ G)) M1 0 0 4 ([some (.ref h), some (.long (Int64.ofNat (v27 w))), none, some (.int (nI n))] : Lo) [] := by
    intro j
    induction j with
    | zero => intro n w M1 w1 w2; omega
    | succ j ih =>
      intro n w M1 w1 w2 w3 hR9 hat1 hrs hrd hps hit
      have hT1 := hT.rd hR9
      obtain ⟨bi, bl, rfl⟩ := hR9
      have hW1 : Wt (s_e M bi bl) := hW
      have ht1 : m_t (s_e M bi bl) h = 12 := ht
      refine v_iload_n hC dX11_readsWord_4 rfl rfl ?_
      refine v_bipush (v := 8) hC dX11_readsWord_5 (by decide) ?_
      refine v_icmp_ge hC dX11_readsWord_7 (tgt := 55) (by decide) (fun h7 => ?_) (fun h7 => ?_)
      · have h8 := lp_ge (N := 8) h7
        refine v_lload_n hC dX11_readsWord_55 rfl rfl ?_
        refine v_lret hC dX11_readsWord_56 ?_
        exact ⟨w, rfl, by omega, ⟨bi, bl, rfl⟩, by rw [w2]; exact hat1, hrs, hrd, by rw [w2]; exact hps, by omega, by first | exact Or.inl (by omega) | exact Or.inr (by rw [w2]; exact g11)⟩
      · have h8 := lp_lt (N := 8) h7
        refine v_aload_n hC dX11_readsWord_10 rfl rfl ?_
        refine cVi0 hC (c_X11_isLetter hW1 ht1 hT1 hat1 (by omega)) yv_X11_isLetter rfl ht1 mw_5_6 ⟨Nat.le_of_ble_eq_true rfl, Nat.le_of_ble_eq_true rfl⟩ ⟨Nat.le_of_ble_eq_true rfl, Nat.le_of_ble_eq_true rfl⟩ (Nat.le_of_ble_eq_true rfl) dX11_readsWord_11 (fun r11 M13 hq => ?_)
        obtain ⟨hm, hq2⟩ := hq
        have hm2 := hm.symm
        clear hm
        subst hm2
        obtain ⟨g11, rfl⟩ | ⟨g11, rfl⟩ := hq2
        · refine v_if_eq hC dX11_readsWord_14 (tgt := 55) (by decide) (fun hx => absurd hx (by decide)) (fun _ => ?_)
          refine v_ldc2 hC mw_5_10 dX11_readsWord_17 ?_
          refine v_lload_n hC dX11_readsWord_20 rfl rfl ?_
          refine v_lmul hC dX11_readsWord_21 ?_
          refine v_aload_n hC dX11_readsWord_22 rfl rfl ?_
          refine gf_11_5 hC ht1 (wf_281 hW1 ht1) mw_4_125 dX11_readsWord_23 ?_
          refine v_aload_n hC dX11_readsWord_26 rfl rfl ?_
          refine gf_11_9 hC ht1 mw_4_129 dX11_readsWord_27 ?_
          rw [hat1]
          refine v_cald 42 hC (wf_281 hW1 ht1) (by decide) (by decide) (ix_c (wz_42 hW1 (wf_281 hW1 ht1)) (by have := g11.1; omega)) dX11_readsWord_30 ?_
          rw [hT1.2.2 (i0 + n) g11.1]
          refine v_bipush (v := 97) hC dX11_readsWord_31 (by decide) ?_
          refine v_isub hC dX11_readsWord_33 ?_
          refine v_iconst (v := 1) hC dX11_readsWord_34 (by decide) ?_
          refine v_iadd hC dX11_readsWord_35 ?_
          refine v_i2l hC dX11_readsWord_36 ?_
          refine v_ladd hC dX11_readsWord_37 ?_
          obtain ⟨y1, k1, k2, k3, k4⟩ := ltr g11.2.1 g11.2.2
          rw [w27_s (w := w) k3 k1 k2]
          refine v_lst1 hC dX11_readsWord_38 (by decide) (kk := ?_)
          refine v_aload_n hC dX11_readsWord_39 rfl rfl ?_
          refine v_dup hC dX11_readsWord_40 rfl ?_
          refine gf_11_9 hC ht1 mw_4_129 dX11_readsWord_41 ?_
          rw [hat1]
          refine v_iconst (v := 1) hC dX11_readsWord_44 (by decide) ?_
          refine v_iadd hC dX11_readsWord_45 ?_
          rw [← nI_succ]
          refine pf_11_9 hC ht1 mw_4_129 dX11_readsWord_46 ?_
          refine v_inc3 hC dX11_readsWord_49 ((nI_succ n).symm) (by decide) (kk := ?_)
          refine v_goto hC dX11_readsWord_52 (tgt := 4) (by decide) ?_
          exact ih (n + 1) (w ++ [y1]) _ (by omega) (by rw [List.length_append]; exact congrArg (· + 1) w2) (by omega) (Rd.tr ⟨bi, bl, rfl⟩ (Rd.si (Or.inr rfl))) i_se ((i_sk (by decide)).trans hrs) hrd ((pS_s hps).trans (pz_l g11.2.1 g11.2.2 (by omega) k4)) (by have := g11.1; omega)
        · refine v_if_eq hC dX11_readsWord_14 (tgt := 55) (by decide) (fun _ => ?_) (fun hx => absurd hx (by decide))
          refine v_lload_n hC dX11_readsWord_55 rfl rfl ?_
          refine v_lret hC dX11_readsWord_56 ?_
          exact ⟨w, rfl, by omega, ⟨bi, bl, rfl⟩, by rw [w2]; exact hat1, hrs, hrd, by rw [w2]; exact hps, by omega, by first | exact Or.inl (by omega) | exact Or.inr (by rw [w2]; exact g11)⟩
  refine v_lconst (v := 0) hC dX11_readsWord_0 (by decide) ?_
  refine v_lst1 hC dX11_readsWord_1 (by decide) (kk := ?_)
  refine v_iconst (v := 0) hC dX11_readsWord_2 (by decide) ?_
  refine v_ist3 hC dX11_readsWord_3 (by decide) (kk := ?_)
  exact loop 9 0 [] M (by omega) rfl (by omega) Rd.rf hat rfl rfl hp hi

set_option maxHeartbeats 4000000 in
set_option maxRecDepth 100000 in
theorem c_X11_readsSegment {l : Launch} {G : Gd} {M : Me} {h t i0 k : Nat} {tc : Nat → Int32} {gs : List Sg} (hW : Wt M) (ht : m_t M h = 12) (hT : TA M h t tc) (hat : m_i M 285 h 0 = nI i0) (hrs : m_i M 284 h 0 = nI k) (hp : pS tc i0 = some (gs, [], [])) (hi : i0 ≤ t) (hk : gs.length = k) : CQ (Qi G (fun r M2 => Rd M M2 ∧ ((∃ i, r = 0 ∧ fltF tc t = some i ∧ i ≤ t ∧ m_i M2 285 h 0 = nI i) ∨ ∃ i ws w, r = 1 ∧ m_i M2 285 h 0 = nI i ∧ m_i M2 284 h 0 = nI (k + 1) ∧ pS tc i = some (gs, ws, w) ∧ 0 < w.length ∧ i ≤ t ∧ (w.length = 8 ∨ ¬ ltA tc t i) ∧ (ws.length + 1 = 8 ∨ ¬ (i < t ∧ tc i = 32)) ∧ SgN (fun a => rdM M2 h (11 * k + a)) (ws ++ [w]) ∧ ∀ a, a < 11 * k → rdM M2 h a = rdM M h a))) l G yX11_readsSegment cX11_readsSegment 6 ((some .boolean)) 2 43 0 0 [.ref h] M := by
  refine c_of ([some (.ref h), none, none, none, none, none] : Lo) RX11 "readsSegment" (by decide) rfl rfl (Nat.le_of_ble_eq_true rfl) rfl (fun p e s m below meth c hC nw => ?_)
  have hb := hT.1
  have zeros : ∀ (i : Nat) (ws : Sg) (w : List Nat), pS tc i = some (gs, ws, w) → 0 < w.length → i ≤ t → (w.length = 8 ∨ ¬ ltA tc t i) → (ws.length + 1 = 8 ∨ ¬ (i < t ∧ tc i = 32)) → k ≤ 29 → ws.length < 8 → ∀ (j n : Nat) (M1 : Me), n + j = 9 → ws.length + 1 ≤ n → n ≤ 8 → Rd M M1 → m_i M1 285 h 0 = nI i → m_i M1 284 h 0 = nI k → rdM M1 h (11 * k) = lN (ws.length + 1) → (∀ a, ws.length + 1 ≤ a → a < n → rdM M1 h (11 * k + 1 + a) = 0) → (∀ a, a < ws.length + 1 → rdM M1 h (11 * k + 1 + a) = Int64.ofNat (v27 ((ws ++ [w]).getD a []))) → (∀ a, a < 11 * k → rdM M1 h a = rdM M h a) → V p l e (rmk 2 43 0 0) s m ([.ref h] : List Value).toArray below meth c 6 G (MQ below (Qi G (fun r M2 => Rd M M2 ∧ ((∃ i, r = 0 ∧ fltF tc t = some i ∧ i ≤ t ∧ m_i M2 285 h 0 = nI i) ∨ ∃ i ws w, r = 1 ∧ m_i M2 285 h 0 = nI i ∧ m_i M2 284 h 0 = nI (k + 1) ∧ pS tc i = some (gs, ws, w) ∧ 0 < w.length ∧ i ≤ t ∧ (w.length = 8 ∨ ¬ ltA tc t i) ∧ (ws.length + 1 = 8 ∨ ¬ (i < t ∧ tc i = 32)) ∧ SgN (fun a => rdM M2 h (11 * k + a)) (ws ++ [w]) ∧ ∀ a, a < 11 * k → rdM M2 h a = rdM M h a))) ([.ref h] : List Value).toArray s 0 0 (fr_ G)) M1 0 0 117 ([some (.ref h), some (.int (nI (11 * k))), some (.int (nI (ws.length + 1))), none, some (.int (nI n)), none] : Lo) [] := by
    intro i ws w hps hw0 hit hlt hbk hk29 hws j
    induction j with
    | zero => intro n M1 w1 w2; omega
    | succ j ih =>
      intro n M1 w1 w2 w3 hR9 hat1 hrs1 hl0 hz hwd hbl
      have hT1 := hT.rd hR9
      obtain ⟨bi, bl, rfl⟩ := hR9
      have hW1 : Wt (s_e M bi bl) := hW
      have ht1 : m_t (s_e M bi bl) h = 12 := ht
      refine v_iload hC dX11_readsSegment_117 rfl ?_
      refine v_bipush (v := 8) hC dX11_readsSegment_119 (by decide) ?_
      refine v_icmp_ge hC dX11_readsSegment_121 (tgt := 142) (by decide) (fun h121 => ?_) (fun h121 => ?_)
      · have h8 := lp_ge (N := 8) h121
        refine v_aload_n hC dX11_readsSegment_142 rfl rfl ?_
        refine v_dup hC dX11_readsSegment_143 rfl ?_
        refine gf_11_8 hC ht1 mw_4_128 dX11_readsSegment_144 ?_
        rw [hrs1]
        refine v_iconst (v := 1) hC dX11_readsSegment_147 (by decide) ?_
        refine v_iadd hC dX11_readsSegment_148 ?_
        rw [← nI_succ]
        refine pf_11_8 hC ht1 mw_4_128 dX11_readsSegment_149 ?_
        refine v_iconst (v := 1) hC dX11_readsSegment_152 (by decide) ?_
        refine v_zret hC (Or.inr rfl) dX11_readsSegment_153 ?_
        have hn8 : n = 8 := by omega
        subst hn8
        refine ⟨Rd.tr ⟨bi, bl, rfl⟩ (Rd.si (Or.inl rfl)), Or.inr ⟨i, ws, w, rfl, (i_sk (by decide)).trans hat1, i_se, hps, hw0, hit, hlt, hbk, ⟨(pS_G hps).s hw0, ?_, fun a ha => ?_⟩, hbl⟩⟩
        · rw [List.length_append]; exact hl0
        · show rdM (s_e M bi bl) h (11 * k + (1 + a)) = _
          rw [← Nat.add_assoc]
          by_cases q : a < ws.length + 1
          · exact hwd a q
          · rw [hz a (by omega) ha, List.getD_eq_getElem?_getD, List.getElem?_eq_none (by rw [List.length_append]; show ws.length + 1 ≤ a; omega)]; rfl
      · have h8 := lp_lt (N := 8) h121
        refine v_aload_n hC dX11_readsSegment_124 rfl rfl ?_
        refine gf_11_7 hC ht1 (wf_283 hW1 ht1) mw_4_127 dX11_readsSegment_125 ?_
        refine v_iload_n hC dX11_readsSegment_128 rfl rfl ?_
        refine v_iconst (v := 1) hC dX11_readsSegment_129 (by decide) ?_
        refine v_iadd hC dX11_readsSegment_130 ?_
        rw [show nI (11 * k) + 1 = nI (11 * k + 1) from nI_add _ 1]
        refine v_iload hC dX11_readsSegment_131 rfl ?_
        refine v_iadd hC dX11_readsSegment_133 ?_
        rw [nI_add]
        refine v_lconst (v := 0) hC dX11_readsSegment_134 (by decide) ?_
        refine v_last 34 hC (wf_283 hW1 ht1) (by decide) (by decide) (ix_c (wz_34 hW1 (wf_283 hW1 ht1)) (by omega)) dX11_readsSegment_135 ?_
        refine v_inc4 hC dX11_readsSegment_136 ((nI_succ n).symm) (by decide) (kk := ?_)
        refine v_goto hC dX11_readsSegment_139 (tgt := 117) (by decide) ?_
        have hq : ∀ q, rdM (s_l (s_e M bi bl) 34 (m_r (s_e M bi bl) 283 h 0) (11 * k + 1 + n) 0) h q = if q = 11 * k + 1 + n then 0 else rdM (s_e M bi bl) h q := fun q => l_sw
        exact ih (n + 1) _ (by omega) (by omega) (by omega) (Rd.tr ⟨bi, bl, rfl⟩ Rd.sl) hat1 hrs1 (by rw [hq, if_neg (by omega)]; exact hl0) (fun a q1 q2 => by
          rw [hq]
          by_cases q : a = n
          · rw [if_pos (by omega)]
          · rw [if_neg (by omega)]; exact hz a q1 (by omega)) (fun a q1 => by rw [hq, if_neg (by omega)]; exact hwd a q1) (fun a q1 => by rw [hq, if_neg (by omega)]; exact hbl a q1)
  have sgend : ∀ (i : Nat) (ws : Sg) (w : List Nat) (M1 : Me), pS tc i = some (gs, ws, w) → 0 < w.length → i ≤ t → (w.length = 8 ∨ ¬ ltA tc t i) → (ws.length + 1 = 8 ∨ ¬ (i < t ∧ tc i = 32)) → k ≤ 29 → ws.length < 8 → Rd M M1 → m_i M1 285 h 0 = nI i → m_i M1 284 h 0 = nI k → (∀ a, a < ws.length + 1 → rdM M1 h (11 * k + 1 + a) = Int64.ofNat (v27 ((ws ++ [w]).getD a []))) → (∀ a, a < 11 * k → rdM M1 h a = rdM M h a) → V p l e (rmk 2 43 0 0) s m ([.ref h] : List Value).toArray below meth c 6 G (MQ below (Qi G (fun r M2 => Rd M M2 ∧ ((∃ i, r = 0 ∧ fltF tc t = some i ∧ i ≤ t ∧ m_i M2 285 h 0 = nI i) ∨ ∃ i ws w, r = 1 ∧ m_i M2 285 h 0 = nI i ∧ m_i M2 284 h 0 = nI (k + 1) ∧ pS tc i = some (gs, ws, w) ∧ 0 < w.length ∧ i ≤ t ∧ (w.length = 8 ∨ ¬ ltA tc t i) ∧ (ws.length + 1 = 8 ∨ ¬ (i < t ∧ tc i = 32)) ∧ SgN (fun a => rdM M2 h (11 * k + a)) (ws ++ [w]) ∧ ∀ a, a < 11 * k → rdM M2 h a = rdM M h a))) ([.ref h] : List Value).toArray s 0 0 (fr_ G)) M1 0 0 104 ([some (.ref h), some (.int (nI (11 * k))), some (.int (nI (ws.length + 1))), none, none, none] : Lo) [] := by
    intro i ws w M1 hps hw0 hit hlt hbk hk29 hws hR9 hat1 hrs1 hwd hbl
    have hT1 := hT.rd hR9
    obtain ⟨bi, bl, rfl⟩ := hR9
    have hW1 : Wt (s_e M bi bl) := hW
    have ht1 : m_t (s_e M bi bl) h = 12 := ht
    refine v_aload_n hC dX11_readsSegment_104 rfl rfl ?_
    refine gf_11_7 hC ht1 (wf_283 hW1 ht1) mw_4_127 dX11_readsSegment_105 ?_
    refine v_iload_n hC dX11_readsSegment_108 rfl rfl ?_
    refine v_iconst (v := 0) hC dX11_readsSegment_109 (by decide) ?_
    refine v_iadd hC dX11_readsSegment_110 ?_
    rw [show nI (11 * k) + 0 = nI (11 * k) from nI_add _ 0]
    refine v_iload_n hC dX11_readsSegment_111 rfl rfl ?_
    refine v_i2l hC dX11_readsSegment_112 ?_
    rw [nI_l (by omega)]
    refine v_last 34 hC (wf_283 hW1 ht1) (by decide) (by decide) (ix_c (wz_34 hW1 (wf_283 hW1 ht1)) (by omega)) dX11_readsSegment_113 ?_
    refine v_iload_n hC dX11_readsSegment_114 rfl rfl ?_
    refine v_ist4 hC dX11_readsSegment_115 (by decide) (kk := ?_)
    have hq : ∀ q, rdM (s_l (s_e M bi bl) 34 (m_r (s_e M bi bl) 283 h 0) (11 * k) (lN (ws.length + 1))) h q = if q = 11 * k then lN (ws.length + 1) else rdM (s_e M bi bl) h q := fun q => l_sw
    exact zeros i ws w hps hw0 hit hlt hbk hk29 hws (8 - ws.length) (ws.length + 1) _ (by omega) (by omega) (by omega) (Rd.tr ⟨bi, bl, rfl⟩ Rd.sl) hat1 hrs1 (by rw [hq, if_pos rfl]) (fun a q1 q2 => by omega) (fun a q1 => by rw [hq, if_neg (by omega)]; exact hwd a q1) (fun a q1 => by rw [hq, if_neg (by omega)]; exact hbl a q1)
  have loop : ∀ (j i : Nat) (ws : Sg) (M1 : Me), ws.length + j = 9 → ws.length < 8 → Rd M M1 → m_i M1 285 h 0 = nI i → m_i M1 284 h 0 = nI k → pS tc i = some (gs, ws, []) → i ≤ t → (∀ a, a < ws.length → rdM M1 h (11 * k + 1 + a) = Int64.ofNat (v27 (ws.getD a []))) → (∀ a, a < 11 * k → rdM M1 h a = rdM M h a) → V p l e (rmk 2 43 0 0) s m ([.ref h] : List Value).toArray below meth c 6 G (MQ below (Qi G (fun r M2 => Rd M M2 ∧ ((∃ i, r = 0 ∧ fltF tc t = some i ∧ i ≤ t ∧ m_i M2 285 h 0 = nI i) ∨ ∃ i ws w, r = 1 ∧ m_i M2 285 h 0 = nI i ∧ m_i M2 284 h 0 = nI (k + 1) ∧ pS tc i = some (gs, ws, w) ∧ 0 < w.length ∧ i ≤ t ∧ (w.length = 8 ∨ ¬ ltA tc t i) ∧ (ws.length + 1 = 8 ∨ ¬ (i < t ∧ tc i = 32)) ∧ SgN (fun a => rdM M2 h (11 * k + a)) (ws ++ [w]) ∧ ∀ a, a < 11 * k → rdM M2 h a = rdM M h a))) ([.ref h] : List Value).toArray s 0 0 (fr_ G)) M1 0 0 16 ([some (.ref h), some (.int (nI (11 * k))), some (.int (nI ws.length)), some (.int 1), none, none] : Lo) [] := by
    intro j
    induction j with
    | zero => intro i ws M1 w1 w2; omega
    | succ j ih =>
      intro i ws M1 w1 w2 hR9 hat1 hrs1 hps hit hwd hbl
      have hT1 := hT.rd hR9
      obtain ⟨bi, bl, rfl⟩ := hR9
      have hW1 : Wt (s_e M bi bl) := hW
      have ht1 : m_t (s_e M bi bl) h = 12 := ht
      refine v_aload_n hC dX11_readsSegment_16 rfl rfl ?_
      refine cVl0 hC (c_X11_readsWord hW1 ht1 hT1 hat1 hps hit) yv_X11_readsWord rfl ht1 mw_5_2 ⟨Nat.le_of_ble_eq_true rfl, Nat.le_of_ble_eq_true rfl⟩ ⟨Nat.le_of_ble_eq_true rfl, Nat.le_of_ble_eq_true rfl⟩ (Nat.le_of_ble_eq_true rfl) dX11_readsSegment_17 (fun r17 M19 hq => ?_)
      obtain ⟨w, rfl, hw8, hR2, hat2, hrs2, hrd2, hps2, hit2, hlt2⟩ := hq
      have hT2 := hT1.rd hR2
      obtain ⟨bi2, bl2, rfl⟩ := hR2
      have hRR : Rd M (s_e (s_e M bi bl) bi2 bl2) := Rd.tr ⟨bi, bl, rfl⟩ ⟨bi2, bl2, rfl⟩
      have hW1 : Wt (s_e (s_e M bi bl) bi2 bl2) := hW1
      have ht1 : m_t (s_e (s_e M bi bl) bi2 bl2) h = 12 := ht1
      refine v_lst4 hC dX11_readsSegment_20 (by decide) (kk := ?_)
      refine v_lload hC dX11_readsSegment_22 rfl ?_
      refine v_lconst (v := 0) hC dX11_readsSegment_24 (by decide) ?_
      refine v_lcmp hC dX11_readsSegment_25 ?_
      refine v_if_ne hC dX11_readsSegment_26 (tgt := 31) (by decide) (fun h26 => ?_) (fun h26 => ?_)
      · have hw0 : 0 < w.length := w27_p h26
        have hk29 : k ≤ 29 := by have := pS_k hps2; omega
        refine v_aload_n hC dX11_readsSegment_31 rfl rfl ?_
        refine gf_11_7 hC ht1 (wf_283 hW1 ht1) mw_4_127 dX11_readsSegment_32 ?_
        refine v_iload_n hC dX11_readsSegment_35 rfl rfl ?_
        refine v_iconst (v := 1) hC dX11_readsSegment_36 (by decide) ?_
        refine v_iadd hC dX11_readsSegment_37 ?_
        rw [show nI (11 * k) + 1 = nI (11 * k + 1) from nI_add _ 1]
        refine v_iload_n hC dX11_readsSegment_38 rfl rfl ?_
        refine v_iadd hC dX11_readsSegment_39 ?_
        rw [nI_add]
        refine v_lload hC dX11_readsSegment_40 rfl ?_
        refine v_last 34 hC (wf_283 hW1 ht1) (by decide) (by decide) (ix_c (wz_34 hW1 (wf_283 hW1 ht1)) (by omega)) dX11_readsSegment_42 ?_
        have hR3 : Rd M (s_l (s_e (s_e M bi bl) bi2 bl2) 34 (m_r (s_e (s_e M bi bl) bi2 bl2) 283 h 0) (11 * k + 1 + ws.length) (Int64.ofNat (v27 w))) := hRR.tr Rd.sl
        have hat3 : m_i (s_l (s_e (s_e M bi bl) bi2 bl2) 34 (m_r (s_e (s_e M bi bl) bi2 bl2) 283 h 0) (11 * k + 1 + ws.length) (Int64.ofNat (v27 w))) 285 h 0 = nI (i + w.length) := hat2
        have hrs3 : m_i (s_l (s_e (s_e M bi bl) bi2 bl2) 34 (m_r (s_e (s_e M bi bl) bi2 bl2) 283 h 0) (11 * k + 1 + ws.length) (Int64.ofNat (v27 w))) 284 h 0 = nI k := hrs2.trans hrs1
        have hT3 : TA (s_l (s_e (s_e M bi bl) bi2 bl2) 34 (m_r (s_e (s_e M bi bl) bi2 bl2) 283 h 0) (11 * k + 1 + ws.length) (Int64.ofNat (v27 w))) h t tc := hT2
        have hq3 : ∀ q, rdM (s_l (s_e (s_e M bi bl) bi2 bl2) 34 (m_r (s_e (s_e M bi bl) bi2 bl2) 283 h 0) (11 * k + 1 + ws.length) (Int64.ofNat (v27 w))) h q = if q = 11 * k + 1 + ws.length then Int64.ofNat (v27 w) else rdM (s_e M bi bl) h q := fun q => l_sw.trans (by rw [show m_l (s_e (s_e M bi bl) bi2 bl2) 34 (m_r (s_e (s_e M bi bl) bi2 bl2) 283 h 0) q = rdM (s_e M bi bl) h q from congrFun hrd2 q])
        have hwd3 : ∀ a, a < ws.length + 1 → rdM (s_l (s_e (s_e M bi bl) bi2 bl2) 34 (m_r (s_e (s_e M bi bl) bi2 bl2) 283 h 0) (11 * k + 1 + ws.length) (Int64.ofNat (v27 w))) h (11 * k + 1 + a) = Int64.ofNat (v27 ((ws ++ [w]).getD a [])) := fun a ha => by
          rw [hq3, gD_ap]
          by_cases q : a = ws.length
          · rw [if_pos (by omega), if_pos q]
          · rw [if_neg (by omega), if_neg q]; exact hwd a (by omega)
        have hbl3 : ∀ a, a < 11 * k → rdM (s_l (s_e (s_e M bi bl) bi2 bl2) 34 (m_r (s_e (s_e M bi bl) bi2 bl2) 283 h 0) (11 * k + 1 + ws.length) (Int64.ofNat (v27 w))) h a = rdM M h a := fun a ha => by rw [hq3, if_neg (by omega)]; exact hbl a ha
        refine v_inc2 hC dX11_readsSegment_43 ((nI_succ ws.length).symm) (by decide) (kk := ?_)
        refine v_iload_n hC dX11_readsSegment_46 rfl rfl ?_
        refine v_bipush (v := 8) hC dX11_readsSegment_47 (by decide) ?_
        refine v_icmp_ge hC dX11_readsSegment_49 (tgt := 81) (by decide) (fun h49 => ?_) (fun h49 => ?_)
        · have h8 := lp_ge (N := 8) h49
          refine v_iconst (v := 0) hC dX11_readsSegment_81 (by decide) ?_
          refine v_ist3 hC dX11_readsSegment_82 (by decide) (kk := ?_)
          refine v_aload_n hC dX11_readsSegment_83 rfl rfl ?_
          refine v_dup hC dX11_readsSegment_84 rfl ?_
          refine gf_11_9 hC ht1 mw_4_129 dX11_readsSegment_85 ?_
          rw [hat3]
          refine v_iload_n hC dX11_readsSegment_88 rfl rfl ?_
          refine v_if_eq hC dX11_readsSegment_89 (tgt := 96) (by decide) (fun _ => ?_) (fun hx => absurd hx (by decide))
          refine v_iconst (v := 0) hC dX11_readsSegment_96 (by decide) ?_
          refine v_iadd hC dX11_readsSegment_97 ?_
          first
            | rw [show nI (i + w.length) + 1 = nI (i + w.length + 1) from (nI_succ _).symm]
            | rw [Int32.add_zero]
          refine pf_11_9 hC ht1 mw_4_129 dX11_readsSegment_98 ?_
          refine v_goto hC dX11_readsSegment_101 (tgt := 12) (by decide) ?_
          refine v_iload_n hC dX11_readsSegment_12 rfl rfl ?_
          refine v_if_eq hC dX11_readsSegment_13 (tgt := 104) (by decide) (fun _ => ?_) (fun hx => absurd hx (by decide))
          refine v_drop 3 ?_
          refine v_drop 4 ?_
          exact sgend (i + w.length) ws w _ hps2 hw0 hit2 hlt2 (by
            first
              | exact Or.inl (by omega)
              | exact Or.inr (fun q => by have := q.1; omega)
              | exact Or.inr (fun q => h74 q.2)) hk29 (by omega) (Rd.tr hR3 (Rd.si (Or.inr rfl))) i_se ((i_sk (by decide)).trans hrs3) hwd3 hbl3
        · have h8 := lp_lt (N := 8) h49
          refine v_aload_n hC dX11_readsSegment_52 rfl rfl ?_
          refine gf_11_9 hC ht1 mw_4_129 dX11_readsSegment_53 ?_
          rw [hat3]
          refine v_aload_n hC dX11_readsSegment_56 rfl rfl ?_
          refine gf_11_6 hC ht1 mw_4_126 dX11_readsSegment_57 ?_
          rw [show m_i (s_l (s_e (s_e M bi bl) bi2 bl2) 34 (m_r (s_e (s_e M bi bl) bi2 bl2) 283 h 0) (11 * k + 1 + ws.length) (Int64.ofNat (v27 w))) 282 h 0 = nI t from hT3.2.1]
          refine v_icmp_ge hC dX11_readsSegment_60 (tgt := 81) (by decide) (fun h60 => ?_) (fun h60 => ?_)
          · have hit3 := lp_ge h60
            refine v_iconst (v := 0) hC dX11_readsSegment_81 (by decide) ?_
            refine v_ist3 hC dX11_readsSegment_82 (by decide) (kk := ?_)
            refine v_aload_n hC dX11_readsSegment_83 rfl rfl ?_
            refine v_dup hC dX11_readsSegment_84 rfl ?_
            refine gf_11_9 hC ht1 mw_4_129 dX11_readsSegment_85 ?_
            rw [hat3]
            refine v_iload_n hC dX11_readsSegment_88 rfl rfl ?_
            refine v_if_eq hC dX11_readsSegment_89 (tgt := 96) (by decide) (fun _ => ?_) (fun hx => absurd hx (by decide))
            refine v_iconst (v := 0) hC dX11_readsSegment_96 (by decide) ?_
            refine v_iadd hC dX11_readsSegment_97 ?_
            first
              | rw [show nI (i + w.length) + 1 = nI (i + w.length + 1) from (nI_succ _).symm]
              | rw [Int32.add_zero]
            refine pf_11_9 hC ht1 mw_4_129 dX11_readsSegment_98 ?_
            refine v_goto hC dX11_readsSegment_101 (tgt := 12) (by decide) ?_
            refine v_iload_n hC dX11_readsSegment_12 rfl rfl ?_
            refine v_if_eq hC dX11_readsSegment_13 (tgt := 104) (by decide) (fun _ => ?_) (fun hx => absurd hx (by decide))
            refine v_drop 3 ?_
            refine v_drop 4 ?_
            exact sgend (i + w.length) ws w _ hps2 hw0 hit2 hlt2 (by
              first
                | exact Or.inl (by omega)
                | exact Or.inr (fun q => by have := q.1; omega)
                | exact Or.inr (fun q => h74 q.2)) hk29 (by omega) (Rd.tr hR3 (Rd.si (Or.inr rfl))) i_se ((i_sk (by decide)).trans hrs3) hwd3 hbl3
          · have hit3 := lp_lt h60
            refine v_aload_n hC dX11_readsSegment_63 rfl rfl ?_
            refine gf_11_5 hC ht1 (wf_281 hW1 ht1) mw_4_125 dX11_readsSegment_64 ?_
            refine v_aload_n hC dX11_readsSegment_67 rfl rfl ?_
            refine gf_11_9 hC ht1 mw_4_129 dX11_readsSegment_68 ?_
            rw [hat3]
            refine v_cald 42 hC (wf_281 hW1 ht1) (by decide) (by decide) (ix_c (wz_42 hW1 (wf_281 hW1 ht1)) (by omega)) dX11_readsSegment_71 ?_
            rw [show m_i (s_l (s_e (s_e M bi bl) bi2 bl2) 34 (m_r (s_e (s_e M bi bl) bi2 bl2) 283 h 0) (11 * k + 1 + ws.length) (Int64.ofNat (v27 w))) 42 (m_r (s_l (s_e (s_e M bi bl) bi2 bl2) 34 (m_r (s_e (s_e M bi bl) bi2 bl2) 283 h 0) (11 * k + 1 + ws.length) (Int64.ofNat (v27 w))) 281 h 0) (i + w.length) = tc (i + w.length) from hT3.2.2 _ hit3]
            refine v_bipush (v := 32) hC dX11_readsSegment_72 (by decide) ?_
            refine v_icmp_ne hC dX11_readsSegment_74 (tgt := 81) (by decide) (fun h74 => ?_) (fun h74 => ?_)
            · refine v_iconst (v := 0) hC dX11_readsSegment_81 (by decide) ?_
              refine v_ist3 hC dX11_readsSegment_82 (by decide) (kk := ?_)
              refine v_aload_n hC dX11_readsSegment_83 rfl rfl ?_
              refine v_dup hC dX11_readsSegment_84 rfl ?_
              refine gf_11_9 hC ht1 mw_4_129 dX11_readsSegment_85 ?_
              rw [hat3]
              refine v_iload_n hC dX11_readsSegment_88 rfl rfl ?_
              refine v_if_eq hC dX11_readsSegment_89 (tgt := 96) (by decide) (fun _ => ?_) (fun hx => absurd hx (by decide))
              refine v_iconst (v := 0) hC dX11_readsSegment_96 (by decide) ?_
              refine v_iadd hC dX11_readsSegment_97 ?_
              first
                | rw [show nI (i + w.length) + 1 = nI (i + w.length + 1) from (nI_succ _).symm]
                | rw [Int32.add_zero]
              refine pf_11_9 hC ht1 mw_4_129 dX11_readsSegment_98 ?_
              refine v_goto hC dX11_readsSegment_101 (tgt := 12) (by decide) ?_
              refine v_iload_n hC dX11_readsSegment_12 rfl rfl ?_
              refine v_if_eq hC dX11_readsSegment_13 (tgt := 104) (by decide) (fun _ => ?_) (fun hx => absurd hx (by decide))
              refine v_drop 3 ?_
              refine v_drop 4 ?_
              exact sgend (i + w.length) ws w _ hps2 hw0 hit2 hlt2 (by
                first
                  | exact Or.inl (by omega)
                  | exact Or.inr (fun q => by have := q.1; omega)
                  | exact Or.inr (fun q => h74 q.2)) hk29 (by omega) (Rd.tr hR3 (Rd.si (Or.inr rfl))) i_se ((i_sk (by decide)).trans hrs3) hwd3 hbl3
            · refine v_iconst (v := 1) hC dX11_readsSegment_77 (by decide) ?_
              refine v_goto hC dX11_readsSegment_78 (tgt := 82) (by decide) ?_
              refine v_ist3 hC dX11_readsSegment_82 (by decide) (kk := ?_)
              refine v_aload_n hC dX11_readsSegment_83 rfl rfl ?_
              refine v_dup hC dX11_readsSegment_84 rfl ?_
              refine gf_11_9 hC ht1 mw_4_129 dX11_readsSegment_85 ?_
              rw [hat3]
              refine v_iload_n hC dX11_readsSegment_88 rfl rfl ?_
              refine v_if_eq hC dX11_readsSegment_89 (tgt := 96) (by decide) (fun hx => absurd hx (by decide)) (fun _ => ?_)
              refine v_iconst (v := 1) hC dX11_readsSegment_92 (by decide) ?_
              refine v_goto hC dX11_readsSegment_93 (tgt := 97) (by decide) ?_
              refine v_iadd hC dX11_readsSegment_97 ?_
              first
                | rw [show nI (i + w.length) + 1 = nI (i + w.length + 1) from (nI_succ _).symm]
                | rw [Int32.add_zero]
              refine pf_11_9 hC ht1 mw_4_129 dX11_readsSegment_98 ?_
              refine v_goto hC dX11_readsSegment_101 (tgt := 12) (by decide) ?_
              refine v_iload_n hC dX11_readsSegment_12 rfl rfl ?_
              refine v_if_eq hC dX11_readsSegment_13 (tgt := 104) (by decide) (fun hx => absurd hx (by decide)) (fun _ => ?_)
              refine v_drop 4 ?_
              rw [show ws.length + 1 = (ws ++ [w]).length by rw [List.length_append]; rfl]
              exact ih (i + w.length + 1) (ws ++ [w]) _ (by rw [List.length_append]; show ws.length + 1 + j = 9; omega) (by rw [List.length_append]; exact h8) (Rd.tr hR3 (Rd.si (Or.inr rfl))) i_se ((i_sk (by decide)).trans hrs3) ((pS_s hps2).trans (by rw [h74]; exact pz_b hw0 h8)) (by omega) (fun a ha => hwd3 a (by rw [List.length_append] at ha; exact ha)) hbl3
      · have hw0 : w = [] := w27_z hw8 (pS_G hps2).2.2.2.2 h26
        refine v_iconst (v := 0) hC dX11_readsSegment_29 (by decide) ?_
        refine v_zret hC (Or.inl rfl) dX11_readsSegment_30 ?_
        subst hw0
        exact ⟨hRR, Or.inl ⟨i, rfl, flt_w hps hit (hlt2.resolve_left (by decide)), hit, hat2⟩⟩
  refine v_bipush (v := 11) hC dX11_readsSegment_0 (by decide) ?_
  refine v_aload_n hC dX11_readsSegment_2 rfl rfl ?_
  refine gf_11_8 hC ht mw_4_128 dX11_readsSegment_3 ?_
  rw [hrs]
  refine v_imul hC dX11_readsSegment_6 ?_
  rw [show 11 * nI k = nI (11 * k) from nI_ml 11 k]
  refine v_ist1 hC dX11_readsSegment_7 (by decide) (kk := ?_)
  refine v_iconst (v := 0) hC dX11_readsSegment_8 (by decide) ?_
  refine v_ist2 hC dX11_readsSegment_9 (by decide) (kk := ?_)
  refine v_iconst (v := 1) hC dX11_readsSegment_10 (by decide) ?_
  refine v_ist3 hC dX11_readsSegment_11 (by decide) (kk := ?_)
  refine v_iload_n hC dX11_readsSegment_12 rfl rfl ?_
  refine v_if_eq hC dX11_readsSegment_13 (tgt := 104) (by decide) (fun hx => absurd hx (by decide)) (fun _ => ?_)
  exact loop 9 i0 [] M (by rfl) (by decide) Rd.rf hat hrs hp hi (fun a ha => absurd ha (Nat.not_lt_zero a)) (fun a _ => rfl)
