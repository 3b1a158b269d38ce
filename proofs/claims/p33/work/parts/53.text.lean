/-! what is read in a text: segments that are done, words of the next one, letters of the next word -/
abbrev Pt := List Sg × Sg × List Nat
def pst (x : Int32) (q : Pt) : Option Pt := if ¬ x < 97 ∧ ¬ 122 < x ∧ q.2.2.length < 8 then some (q.1, q.2.1, q.2.2 ++ [(x - 96).toNatClampNeg]) else if x = 32 ∧ 0 < q.2.2.length ∧ q.2.1.length + 1 < 8 then some (q.1, q.2.1 ++ [q.2.2], []) else if x = 46 ∧ 0 < q.2.2.length then some (q.1 ++ [q.2.1 ++ [q.2.2]], [], []) else none
def pS (f : Nat → Int32) : Nat → Option Pt
  | 0 => some ([], [], [])
  | i + 1 => match pS f i with
    | some q => pst (f i) q
    | none => none
theorem pS_s {f : Nat → Int32} {i : Nat} {q : Pt} (h : pS f i = some q) : pS f (i + 1) = pst (f i) q := by rw [pS, h]
theorem pS_b {f : Nat → Int32} : ∀ {n : Nat} {q : Pt}, pS f n = some q → ∀ i, i ≤ n → ∃ r, pS f i = some r
  | 0, q, h, i, hi => ⟨q, by rw [show i = 0 by omega]; exact h⟩
  | n + 1, q, h, i, hi => by
    by_cases w : i = n + 1
    · exact ⟨q, by rw [w]; exact h⟩
    · cases hn : pS f n with
      | none => rw [pS, hn] at h; cases h
      | some r => exact pS_b hn i (by omega)
theorem ltr {x : Int32} (h1 : ¬ x < 97) (h2 : ¬ 122 < x) : ∃ y, 1 ≤ y ∧ y ≤ 26 ∧ x = nI (96 + y) ∧ (x - 96).toNatClampNeg = y := by
  rw [Int32.lt_iff_toInt_lt] at h1 h2
  rw [show (97 : Int32).toInt = 97 from rfl] at h1
  rw [show (122 : Int32).toInt = 122 from rfl] at h2
  have e : x = nI x.toInt.toNat := by
    apply Int32.toInt_inj.mp
    rw [nI_toInt (by omega)]
    omega
  refine ⟨x.toInt.toNat - 96, by omega, by omega, by rw [show 96 + (x.toInt.toNat - 96) = x.toInt.toNat by omega]; exact e, ?_⟩
  rw [e, nI_toInt (by omega)]
  obtain ⟨y, hy⟩ : ∃ y, x.toInt.toNat = 96 + y := ⟨x.toInt.toNat - 96, by omega⟩
  rw [hy, ← nI_add, show nI 96 + nI y - 96 = nI y from by rw [show (96 : Int32) = nI 96 from rfl, Int32.add_comm, Int32.add_sub_cancel], nI_clamp (by omega)]
  omega
/-- what is read is well formed -/
def pG (q : Pt) : Prop := (∀ g ∈ q.1, gSeg g) ∧ (∀ w ∈ q.2.1, gWord w) ∧ q.2.1.length < 8 ∧ q.2.2.length ≤ 8 ∧ ∀ y ∈ q.2.2, 1 ≤ y ∧ y ≤ 26
theorem pG.w {q : Pt} (h : pG q) (h0 : 0 < q.2.2.length) : gWord q.2.2 := ⟨h0, h.2.2.2.1, h.2.2.2.2⟩
theorem pG.s {q : Pt} (h : pG q) (h0 : 0 < q.2.2.length) : gSeg (q.2.1 ++ [q.2.2]) := by
  refine ⟨by simp, by simp; have := h.2.2.1; omega, fun w hw => ?_⟩
  rcases List.mem_append.mp hw with hw | hw
  · exact h.2.1 w hw
  · rw [List.mem_singleton.mp hw]; exact h.w h0
theorem pst_G {x : Int32} {q r : Pt} (h : pG q) (e : pst x q = some r) : pG r := by
  unfold pst at e
  split at e
  · rename_i c1
    cases e
    obtain ⟨y, y1, y2, -, y4⟩ := ltr c1.1 c1.2.1
    refine ⟨h.1, h.2.1, h.2.2.1, by simp; omega, fun z hz => ?_⟩
    rcases List.mem_append.mp hz with hz | hz
    · exact h.2.2.2.2 z hz
    · rw [List.mem_singleton.mp hz, y4]; exact ⟨y1, y2⟩
  · split at e
    · rename_i c2
      cases e
      refine ⟨h.1, fun w hw => ?_, by simp; omega, by simp, by simp⟩
      rcases List.mem_append.mp hw with hw | hw
      · exact h.2.1 w hw
      · rw [List.mem_singleton.mp hw]; exact h.w c2.2.1
    · split at e
      · rename_i c3
        cases e
        refine ⟨fun g hg => ?_, by simp, by simp, by simp, by simp⟩
        rcases List.mem_append.mp hg with hg | hg
        · exact h.1 g hg
        · rw [List.mem_singleton.mp hg]; exact h.s c3.2
      · cases e
theorem pS_G {f : Nat → Int32} : ∀ {n : Nat} {q : Pt}, pS f n = some q → pG q
  | 0, q, h => by cases h; exact ⟨by simp, by simp, by simp, by simp, by simp⟩
  | n + 1, q, h => by
    cases hn : pS f n with
    | none => rw [pS, hn] at h; cases h
    | some r => rw [pS, hn] at h; exact pst_G (pS_G hn) h
theorem pst_dot {q r : Pt} (e : pst 46 q = some r) : 0 < q.2.2.length ∧ r = (q.1 ++ [q.2.1 ++ [q.2.2]], [], []) := by
  unfold pst at e
  rw [if_neg (fun z => z.1 (by decide)), if_neg (fun z => absurd z.1 (by decide))] at e
  split at e
  · rename_i c3; cases e; exact ⟨c3.2, rfl⟩
  · cases e
theorem pst_nd {x : Int32} {q r : Pt} (hx : ¬ x = 46) (e : pst x q = some r) : r.1 = q.1 := by
  unfold pst at e
  split at e
  · cases e; rfl
  · split at e
    · cases e; rfl
    · rw [if_neg (fun z => hx z.1)] at e; cases e
/-- the fault of a text -/
def fltF (f : Nat → Int32) (t : Nat) : Option Nat := match fsN (fun i => (pS f (i + 1)).isNone) t with
  | some i => some i
  | none => match pS f t with
    | some (_, _, []) => some t
    | _ => none
theorem flt_at {f : Nat → Int32} {t i : Nat} {q : Pt} (hi : i < t) (h : pS f i = some q) (e : pst (f i) q = none) : fltF f t = some i := by
  have w : fsN (fun i => (pS f (i + 1)).isNone) t = some i := fsN_s hi (by rw [pS_s h, e]; rfl) (fun j hj => by
    obtain ⟨r, hr⟩ := pS_b h (j + 1) (by omega)
    rw [hr]; exact Bool.false_ne_true)
  rw [fltF, w]
theorem flt_no {f : Nat → Int32} {t : Nat} {q : Pt} (h : pS f t = some q) : fsN (fun i => (pS f (i + 1)).isNone) t = none := fsN_o (fun j hj => by
    obtain ⟨r, hr⟩ := pS_b h (j + 1) (by omega)
    rw [hr]; exact Bool.false_ne_true)
theorem flt_end {f : Nat → Int32} {t : Nat} {q : Pt} (h : pS f t = some q) (e : q.2.2.length = 0) : fltF f t = some t := by
  obtain ⟨a, b, d⟩ := q
  have e2 : d = [] := List.length_eq_zero_iff.mp e
  subst e2
  rw [fltF, flt_no h, h]
theorem flt_ok {f : Nat → Int32} {t : Nat} {q : Pt} (h : pS f t = some q) (e : 0 < q.2.2.length) : fltF f t = none := by
  obtain ⟨a, b, d⟩ := q
  cases d with
  | nil => exact absurd e (Nat.lt_irrefl 0)
  | cons y d => rw [fltF, flt_no h, h]
/-- a text without a fault -/
theorem flt_n {f : Nat → Int32} {t : Nat} (h : fltF f t = none) : ∃ q, pS f t = some q ∧ 0 < q.2.2.length := by
  unfold fltF at h
  cases w : fsN (fun i => (pS f (i + 1)).isNone) t with
  | some i => rw [w] at h; cases h
  | none =>
    rw [w] at h
    cases z : pS f t with
    | none =>
      cases t with
      | zero => cases z
      | succ t => exact absurd (by rw [z]; rfl) (fsN_n w t (Nat.lt_succ_self t))
    | some q =>
      obtain ⟨a, b, d⟩ := q
      rw [z] at h
      cases d with
      | nil => cases h
      | cons y d => exact ⟨_, rfl, Nat.succ_pos _⟩
def fR (r : Option Nat) : Int32 := match r with
  | some i => nI i
  | none => -1
def sgT (f : Nat → Int32) (t : Nat) : List Sg := match pS f t with
  | some q => q.1 ++ [q.2.1 ++ [q.2.2]]
  | none => []
set_option maxHeartbeats 4000000 in
set_option maxRecDepth 100000 in
theorem c_X8_fault {l : Launch} {G : Gd} {M : Me} {n t : Nat} {tc : Nat → Int32} (hW : Wt M) (ht : m_t M (n + 5) = 9) (hch : m_r M 228 (n + 5) 0 = n + 6) (hc : m_t M (n + 6) = 41) (hT : TX M n t tc) : CQ (Qi G (fun r M2 => r = fR (fltF tc t) ∧ M2 = M)) l G yX8_fault cX8_fault 5 ((some .int)) 0 0 0 0 [.ref (n + 5)] M := by
  refine c_of ([some (.ref (n + 5)), none, none, none, none] : Lo) RX8 "fault" (by decide) rfl rfl (Nat.le_of_ble_eq_true rfl) rfl (fun p e s m below meth c hC nw => ?_)
  have hb := hT.1
  have loop : ∀ (k i : Nat) (q : Pt), i + k = 61 → i ≤ t → pS tc i = some q → V p l e (rmk 0 0 0 0) s m ([.ref (n + 5)] : List Value).toArray below meth c 5 G (MQ below (Qi G (fun r M2 => r = fR (fltF tc t) ∧ M2 = M)) ([.ref (n + 5)] : List Value).toArray s 0 0 (fr_ G)) M 0 0 6 ([some (.ref (n + 5)), some (.int (nI q.2.2.length)), some (.int (nI (q.2.1.length + 1))), some (.int (nI i)), none] : Lo) [] := by
    intro k
    induction k with
    | zero => intro i q w1 w2; omega
    | succ k ih =>
      intro i q w1 w2 hq
      obtain ⟨-, -, g3, g4, -⟩ := pS_G hq
      refine v_iload_n hC dX8_fault_6 rfl rfl ?_
      refine v_aload_n hC dX8_fault_7 rfl rfl ?_
      refine gf_8_1 hC ht mw_1_70 dX8_fault_8 ?_
      rw [hT.2.1]
      refine v_icmp_ge hC dX8_fault_11 (tgt := 99) (by decide) (fun h11 => ?_) (fun h11 => ?_)
      · have hi := lp_ge h11
        refine v_iload_n hC dX8_fault_99 rfl rfl ?_
        refine v_if_ne hC dX8_fault_100 (tgt := 110) (by decide) (fun h100 => ?_) (fun h100 => ?_)
        · refine v_iconst (v := (-1)) hC dX8_fault_110 (by decide) ?_
          refine v_iret hC dX8_fault_111 ?_
          have hie : i = t := by omega
          subst hie
          exact ⟨by rw [flt_ok hq (Nat.pos_of_ne_zero (fun z => h100 (by rw [z]; rfl)))]; rfl, rfl⟩
        · refine v_aload_n hC dX8_fault_103 rfl rfl ?_
          refine gf_8_1 hC ht mw_1_70 dX8_fault_104 ?_
          rw [hT.2.1]
          refine v_goto hC dX8_fault_107 (tgt := 111) (by decide) ?_
          refine v_iret hC dX8_fault_111 ?_
          have hie : i = t := by omega
          subst hie
          exact ⟨by rw [flt_end hq ((nI_eq (b := 0) (by omega) (by decide)).mp h100)]; rfl, rfl⟩
      · have hi := lp_lt h11
        refine v_aload_n hC dX8_fault_14 rfl rfl ?_
        refine gf_8_0 hC ht (wf_228 hW ht) mw_1_69 dX8_fault_15 ?_
        rw [hch]
        refine v_iload_n hC dX8_fault_18 rfl rfl ?_
        refine v_cald 41 hC hc (by decide) (by decide) (ix_c (wz_41 hW hc) (by omega)) dX8_fault_19 ?_
        rw [hT.2.2 i hi]
        refine v_ist4 hC dX8_fault_20 (by decide) (kk := ?_)
        refine v_iload hC dX8_fault_22 rfl ?_
        refine v_bipush (v := 97) hC dX8_fault_24 (by decide) ?_
        refine v_icmp_lt hC dX8_fault_26 (tgt := 48) (by decide) (fun h26 => ?_) (fun h26 => ?_)
        · have A : ¬ (¬ tc i < 97 ∧ ¬ 122 < tc i ∧ q.2.2.length < 8) := by
            first
              | exact fun z => z.1 h26
              | exact fun z => z.2.1 h33
              | (have z8 := lp_ge (N := 8) h39; exact fun z => absurd z.2.2 (by omega))
          refine v_iload hC dX8_fault_48 rfl ?_
          refine v_bipush (v := 32) hC dX8_fault_50 (by decide) ?_
          refine v_icmp_ne hC dX8_fault_52 (tgt := 73) (by decide) (fun h52 => ?_) (fun h52 => ?_)
          · have B : ¬ (tc i = 32 ∧ 0 < q.2.2.length ∧ q.2.1.length + 1 < 8) := by
              first
                | exact fun z => h52 z.1
                | (have z8 := (nI_leI (b := 0) (by omega) (by decide)).mp h56; exact fun z => absurd z.2.1 (by omega))
                | (have z8 := lp_ge (N := 8) h62; exact fun z => absurd z.2.2 (by omega))
            refine v_iload hC dX8_fault_73 rfl ?_
            refine v_bipush (v := 46) hC dX8_fault_75 (by decide) ?_
            refine v_icmp_ne hC dX8_fault_77 (tgt := 91) (by decide) (fun h77 => ?_) (fun h77 => ?_)
            · have C3 : ¬ (tc i = 46 ∧ 0 < q.2.2.length) := by
                first
                  | exact fun z => h77 z.1
                  | (have z8 := (nI_leI (b := 0) (by omega) (by decide)).mp h81; exact fun z => absurd z.2 (by omega))
              refine v_iload_n hC dX8_fault_91 rfl rfl ?_
              refine v_iret hC dX8_fault_92 ?_
              exact ⟨by rw [flt_at hi hq ((if_neg A).trans ((if_neg B).trans (if_neg C3)))]; rfl, rfl⟩
            · refine v_iload_n hC dX8_fault_80 rfl rfl ?_
              refine v_if_le hC dX8_fault_81 (tgt := 91) (by decide) (fun h81 => ?_) (fun h81 => ?_)
              · have C3 : ¬ (tc i = 46 ∧ 0 < q.2.2.length) := by
                  first
                    | exact fun z => h77 z.1
                    | (have z8 := (nI_leI (b := 0) (by omega) (by decide)).mp h81; exact fun z => absurd z.2 (by omega))
                refine v_iload_n hC dX8_fault_91 rfl rfl ?_
                refine v_iret hC dX8_fault_92 ?_
                exact ⟨by rw [flt_at hi hq ((if_neg A).trans ((if_neg B).trans (if_neg C3)))]; rfl, rfl⟩
              · have C3 : (tc i = 46 ∧ 0 < q.2.2.length) := ⟨h77, lp_gt (N := 0) (i_nle h81)⟩
                refine v_iconst (v := 0) hC dX8_fault_84 (by decide) ?_
                refine v_ist1 hC dX8_fault_85 (by decide) (kk := ?_)
                refine v_iconst (v := 1) hC dX8_fault_86 (by decide) ?_
                refine v_ist2 hC dX8_fault_87 (by decide) (kk := ?_)
                refine v_goto hC dX8_fault_88 (tgt := 93) (by decide) ?_
                refine v_inc3 hC dX8_fault_93 ((nI_succ i).symm) (by decide) (kk := ?_)
                refine v_goto hC dX8_fault_96 (tgt := 6) (by decide) ?_
                refine v_drop 4 ?_
                first
                  | exact ih (i + 1) (q.1, q.2.1, q.2.2 ++ [(tc i - 96).toNatClampNeg]) (by omega) (by omega) ((pS_s hq).trans (if_pos A))
                  | exact ih (i + 1) (q.1, q.2.1 ++ [q.2.2], []) (by omega) (by omega) ((pS_s hq).trans ((if_neg A).trans (if_pos B)))
                  | exact ih (i + 1) (q.1 ++ [q.2.1 ++ [q.2.2]], [], []) (by omega) (by omega) ((pS_s hq).trans ((if_neg A).trans ((if_neg B).trans (if_pos C3))))
          · refine v_iload_n hC dX8_fault_55 rfl rfl ?_
            refine v_if_le hC dX8_fault_56 (tgt := 73) (by decide) (fun h56 => ?_) (fun h56 => ?_)
            · have B : ¬ (tc i = 32 ∧ 0 < q.2.2.length ∧ q.2.1.length + 1 < 8) := by
                first
                  | exact fun z => h52 z.1
                  | (have z8 := (nI_leI (b := 0) (by omega) (by decide)).mp h56; exact fun z => absurd z.2.1 (by omega))
                  | (have z8 := lp_ge (N := 8) h62; exact fun z => absurd z.2.2 (by omega))
              refine v_iload hC dX8_fault_73 rfl ?_
              refine v_bipush (v := 46) hC dX8_fault_75 (by decide) ?_
              refine v_icmp_ne hC dX8_fault_77 (tgt := 91) (by decide) (fun h77 => ?_) (fun h77 => ?_)
              · have C3 : ¬ (tc i = 46 ∧ 0 < q.2.2.length) := by
                  first
                    | exact fun z => h77 z.1
                    | (have z8 := (nI_leI (b := 0) (by omega) (by decide)).mp h81; exact fun z => absurd z.2 (by omega))
                refine v_iload_n hC dX8_fault_91 rfl rfl ?_
                refine v_iret hC dX8_fault_92 ?_
                exact ⟨by rw [flt_at hi hq ((if_neg A).trans ((if_neg B).trans (if_neg C3)))]; rfl, rfl⟩
              · refine v_iload_n hC dX8_fault_80 rfl rfl ?_
                refine v_if_le hC dX8_fault_81 (tgt := 91) (by decide) (fun h81 => ?_) (fun h81 => ?_)
                · have C3 : ¬ (tc i = 46 ∧ 0 < q.2.2.length) := by
                    first
                      | exact fun z => h77 z.1
                      | (have z8 := (nI_leI (b := 0) (by omega) (by decide)).mp h81; exact fun z => absurd z.2 (by omega))
                  refine v_iload_n hC dX8_fault_91 rfl rfl ?_
                  refine v_iret hC dX8_fault_92 ?_
                  exact ⟨by rw [flt_at hi hq ((if_neg A).trans ((if_neg B).trans (if_neg C3)))]; rfl, rfl⟩
                · have C3 : (tc i = 46 ∧ 0 < q.2.2.length) := ⟨h77, lp_gt (N := 0) (i_nle h81)⟩
                  refine v_iconst (v := 0) hC dX8_fault_84 (by decide) ?_
                  refine v_ist1 hC dX8_fault_85 (by decide) (kk := ?_)
                  refine v_iconst (v := 1) hC dX8_fault_86 (by decide) ?_
                  refine v_ist2 hC dX8_fault_87 (by decide) (kk := ?_)
                  refine v_goto hC dX8_fault_88 (tgt := 93) (by decide) ?_
                  refine v_inc3 hC dX8_fault_93 ((nI_succ i).symm) (by decide) (kk := ?_)
                  refine v_goto hC dX8_fault_96 (tgt := 6) (by decide) ?_
                  refine v_drop 4 ?_
                  first
                    | exact ih (i + 1) (q.1, q.2.1, q.2.2 ++ [(tc i - 96).toNatClampNeg]) (by omega) (by omega) ((pS_s hq).trans (if_pos A))
                    | exact ih (i + 1) (q.1, q.2.1 ++ [q.2.2], []) (by omega) (by omega) ((pS_s hq).trans ((if_neg A).trans (if_pos B)))
                    | exact ih (i + 1) (q.1 ++ [q.2.1 ++ [q.2.2]], [], []) (by omega) (by omega) ((pS_s hq).trans ((if_neg A).trans ((if_neg B).trans (if_pos C3))))
            · refine v_iload_n hC dX8_fault_59 rfl rfl ?_
              refine v_bipush (v := 8) hC dX8_fault_60 (by decide) ?_
              refine v_icmp_ge hC dX8_fault_62 (tgt := 73) (by decide) (fun h62 => ?_) (fun h62 => ?_)
              · have B : ¬ (tc i = 32 ∧ 0 < q.2.2.length ∧ q.2.1.length + 1 < 8) := by
                  first
                    | exact fun z => h52 z.1
                    | (have z8 := (nI_leI (b := 0) (by omega) (by decide)).mp h56; exact fun z => absurd z.2.1 (by omega))
                    | (have z8 := lp_ge (N := 8) h62; exact fun z => absurd z.2.2 (by omega))
                refine v_iload hC dX8_fault_73 rfl ?_
                refine v_bipush (v := 46) hC dX8_fault_75 (by decide) ?_
                refine v_icmp_ne hC dX8_fault_77 (tgt := 91) (by decide) (fun h77 => ?_) (fun h77 => ?_)
                · have C3 : ¬ (tc i = 46 ∧ 0 < q.2.2.length) := by
                    first
                      | exact fun z => h77 z.1
                      | (have z8 := (nI_leI (b := 0) (by omega) (by decide)).mp h81; exact fun z => absurd z.2 (by omega))
                  refine v_iload_n hC dX8_fault_91 rfl rfl ?_
                  refine v_iret hC dX8_fault_92 ?_
                  exact ⟨by rw [flt_at hi hq ((if_neg A).trans ((if_neg B).trans (if_neg C3)))]; rfl, rfl⟩
                · refine v_iload_n hC dX8_fault_80 rfl rfl ?_
                  refine v_if_le hC dX8_fault_81 (tgt := 91) (by decide) (fun h81 => ?_) (fun h81 => ?_)
                  · have C3 : ¬ (tc i = 46 ∧ 0 < q.2.2.length) := by
                      first
                        | exact fun z => h77 z.1
                        | (have z8 := (nI_leI (b := 0) (by omega) (by decide)).mp h81; exact fun z => absurd z.2 (by omega))
                    refine v_iload_n hC dX8_fault_91 rfl rfl ?_
                    refine v_iret hC dX8_fault_92 ?_
                    exact ⟨by rw [flt_at hi hq ((if_neg A).trans ((if_neg B).trans (if_neg C3)))]; rfl, rfl⟩
                  · have C3 : (tc i = 46 ∧ 0 < q.2.2.length) := ⟨h77, lp_gt (N := 0) (i_nle h81)⟩
                    refine v_iconst (v := 0) hC dX8_fault_84 (by decide) ?_
                    refine v_ist1 hC dX8_fault_85 (by decide) (kk := ?_)
                    refine v_iconst (v := 1) hC dX8_fault_86 (by decide) ?_
                    refine v_ist2 hC dX8_fault_87 (by decide) (kk := ?_)
                    refine v_goto hC dX8_fault_88 (tgt := 93) (by decide) ?_
                    refine v_inc3 hC dX8_fault_93 ((nI_succ i).symm) (by decide) (kk := ?_)
                    refine v_goto hC dX8_fault_96 (tgt := 6) (by decide) ?_
                    refine v_drop 4 ?_
                    first
                      | exact ih (i + 1) (q.1, q.2.1, q.2.2 ++ [(tc i - 96).toNatClampNeg]) (by omega) (by omega) ((pS_s hq).trans (if_pos A))
                      | exact ih (i + 1) (q.1, q.2.1 ++ [q.2.2], []) (by omega) (by omega) ((pS_s hq).trans ((if_neg A).trans (if_pos B)))
                      | exact ih (i + 1) (q.1 ++ [q.2.1 ++ [q.2.2]], [], []) (by omega) (by omega) ((pS_s hq).trans ((if_neg A).trans ((if_neg B).trans (if_pos C3))))
              · have B : (tc i = 32 ∧ 0 < q.2.2.length ∧ q.2.1.length + 1 < 8) := ⟨h52, by have := i_nle h56; exact lp_gt (N := 0) this, by have := lp_lt (N := 8) h62; omega⟩
                refine v_iconst (v := 0) hC dX8_fault_65 (by decide) ?_
                refine v_ist1 hC dX8_fault_66 (by decide) (kk := ?_)
                refine v_inc2 hC dX8_fault_67 (show nI (q.2.1.length + 1) + Int32.ofInt 1 = nI ((q.2.1 ++ [q.2.2]).length + 1) from by rw [List.length_append]; exact (nI_succ _).symm) (by decide) (kk := ?_)
                refine v_goto hC dX8_fault_70 (tgt := 93) (by decide) ?_
                refine v_inc3 hC dX8_fault_93 ((nI_succ i).symm) (by decide) (kk := ?_)
                refine v_goto hC dX8_fault_96 (tgt := 6) (by decide) ?_
                refine v_drop 4 ?_
                first
                  | exact ih (i + 1) (q.1, q.2.1, q.2.2 ++ [(tc i - 96).toNatClampNeg]) (by omega) (by omega) ((pS_s hq).trans (if_pos A))
                  | exact ih (i + 1) (q.1, q.2.1 ++ [q.2.2], []) (by omega) (by omega) ((pS_s hq).trans ((if_neg A).trans (if_pos B)))
                  | exact ih (i + 1) (q.1 ++ [q.2.1 ++ [q.2.2]], [], []) (by omega) (by omega) ((pS_s hq).trans ((if_neg A).trans ((if_neg B).trans (if_pos C3))))
        · refine v_iload hC dX8_fault_29 rfl ?_
          refine v_bipush (v := 122) hC dX8_fault_31 (by decide) ?_
          refine v_icmp_gt hC dX8_fault_33 (tgt := 48) (by decide) (fun h33 => ?_) (fun h33 => ?_)
          · have A : ¬ (¬ tc i < 97 ∧ ¬ 122 < tc i ∧ q.2.2.length < 8) := by
              first
                | exact fun z => z.1 h26
                | exact fun z => z.2.1 h33
                | (have z8 := lp_ge (N := 8) h39; exact fun z => absurd z.2.2 (by omega))
            refine v_iload hC dX8_fault_48 rfl ?_
            refine v_bipush (v := 32) hC dX8_fault_50 (by decide) ?_
            refine v_icmp_ne hC dX8_fault_52 (tgt := 73) (by decide) (fun h52 => ?_) (fun h52 => ?_)
            · have B : ¬ (tc i = 32 ∧ 0 < q.2.2.length ∧ q.2.1.length + 1 < 8) := by
                first
                  | exact fun z => h52 z.1
                  | (have z8 := (nI_leI (b := 0) (by omega) (by decide)).mp h56; exact fun z => absurd z.2.1 (by omega))
                  | (have z8 := lp_ge (N := 8) h62; exact fun z => absurd z.2.2 (by omega))
              refine v_iload hC dX8_fault_73 rfl ?_
              refine v_bipush (v := 46) hC dX8_fault_75 (by decide) ?_
              refine v_icmp_ne hC dX8_fault_77 (tgt := 91) (by decide) (fun h77 => ?_) (fun h77 => ?_)
              · have C3 : ¬ (tc i = 46 ∧ 0 < q.2.2.length) := by
                  first
                    | exact fun z => h77 z.1
                    | (have z8 := (nI_leI (b := 0) (by omega) (by decide)).mp h81; exact fun z => absurd z.2 (by omega))
                refine v_iload_n hC dX8_fault_91 rfl rfl ?_
                refine v_iret hC dX8_fault_92 ?_
                exact ⟨by rw [flt_at hi hq ((if_neg A).trans ((if_neg B).trans (if_neg C3)))]; rfl, rfl⟩
              · refine v_iload_n hC dX8_fault_80 rfl rfl ?_
                refine v_if_le hC dX8_fault_81 (tgt := 91) (by decide) (fun h81 => ?_) (fun h81 => ?_)
                · have C3 : ¬ (tc i = 46 ∧ 0 < q.2.2.length) := by
                    first
                      | exact fun z => h77 z.1
                      | (have z8 := (nI_leI (b := 0) (by omega) (by decide)).mp h81; exact fun z => absurd z.2 (by omega))
                  refine v_iload_n hC dX8_fault_91 rfl rfl ?_
                  refine v_iret hC dX8_fault_92 ?_
                  exact ⟨by rw [flt_at hi hq ((if_neg A).trans ((if_neg B).trans (if_neg C3)))]; rfl, rfl⟩
                · have C3 : (tc i = 46 ∧ 0 < q.2.2.length) := ⟨h77, lp_gt (N := 0) (i_nle h81)⟩
                  refine v_iconst (v := 0) hC dX8_fault_84 (by decide) ?_
                  refine v_ist1 hC dX8_fault_85 (by decide) (kk := ?_)
                  refine v_iconst (v := 1) hC dX8_fault_86 (by decide) ?_
                  refine v_ist2 hC dX8_fault_87 (by decide) (kk := ?_)
                  refine v_goto hC dX8_fault_88 (tgt := 93) (by decide) ?_
                  refine v_inc3 hC dX8_fault_93 ((nI_succ i).symm) (by decide) (kk := ?_)
                  refine v_goto hC dX8_fault_96 (tgt := 6) (by decide) ?_
                  refine v_drop 4 ?_
                  first
                    | exact ih (i + 1) (q.1, q.2.1, q.2.2 ++ [(tc i - 96).toNatClampNeg]) (by omega) (by omega) ((pS_s hq).trans (if_pos A))
                    | exact ih (i + 1) (q.1, q.2.1 ++ [q.2.2], []) (by omega) (by omega) ((pS_s hq).trans ((if_neg A).trans (if_pos B)))
                    | exact ih (i + 1) (q.1 ++ [q.2.1 ++ [q.2.2]], [], []) (by omega) (by omega) ((pS_s hq).trans ((if_neg A).trans ((if_neg B).trans (if_pos C3))))
            · refine v_iload_n hC dX8_fault_55 rfl rfl ?_
              refine v_if_le hC dX8_fault_56 (tgt := 73) (by decide) (fun h56 => ?_) (fun h56 => ?_)
              · have B : ¬ (tc i = 32 ∧ 0 < q.2.2.length ∧ q.2.1.length + 1 < 8) := by
                  first
                    | exact fun z => h52 z.1
                    | (have z8 := (nI_leI (b := 0) (by omega) (by decide)).mp h56; exact fun z => absurd z.2.1 (by omega))
                    | (have z8 := lp_ge (N := 8) h62; exact fun z => absurd z.2.2 (by omega))
                refine v_iload hC dX8_fault_73 rfl ?_
                refine v_bipush (v := 46) hC dX8_fault_75 (by decide) ?_
                refine v_icmp_ne hC dX8_fault_77 (tgt := 91) (by decide) (fun h77 => ?_) (fun h77 => ?_)
                · have C3 : ¬ (tc i = 46 ∧ 0 < q.2.2.length) := by
                    first
                      | exact fun z => h77 z.1
                      | (have z8 := (nI_leI (b := 0) (by omega) (by decide)).mp h81; exact fun z => absurd z.2 (by omega))
                  refine v_iload_n hC dX8_fault_91 rfl rfl ?_
                  refine v_iret hC dX8_fault_92 ?_
                  exact ⟨by rw [flt_at hi hq ((if_neg A).trans ((if_neg B).trans (if_neg C3)))]; rfl, rfl⟩
                · refine v_iload_n hC dX8_fault_80 rfl rfl ?_
                  refine v_if_le hC dX8_fault_81 (tgt := 91) (by decide) (fun h81 => ?_) (fun h81 => ?_)
                  · have C3 : ¬ (tc i = 46 ∧ 0 < q.2.2.length) := by
                      first
                        | exact fun z => h77 z.1
                        | (have z8 := (nI_leI (b := 0) (by omega) (by decide)).mp h81; exact fun z => absurd z.2 (by omega))
                    refine v_iload_n hC dX8_fault_91 rfl rfl ?_
                    refine v_iret hC dX8_fault_92 ?_
                    exact ⟨by rw [flt_at hi hq ((if_neg A).trans ((if_neg B).trans (if_neg C3)))]; rfl, rfl⟩
                  · have C3 : (tc i = 46 ∧ 0 < q.2.2.length) := ⟨h77, lp_gt (N := 0) (i_nle h81)⟩
                    refine v_iconst (v := 0) hC dX8_fault_84 (by decide) ?_
                    refine v_ist1 hC dX8_fault_85 (by decide) (kk := ?_)
                    refine v_iconst (v := 1) hC dX8_fault_86 (by decide) ?_
                    refine v_ist2 hC dX8_fault_87 (by decide) (kk := ?_)
                    refine v_goto hC dX8_fault_88 (tgt := 93) (by decide) ?_
                    refine v_inc3 hC dX8_fault_93 ((nI_succ i).symm) (by decide) (kk := ?_)
                    refine v_goto hC dX8_fault_96 (tgt := 6) (by decide) ?_
                    refine v_drop 4 ?_
                    first
                      | exact ih (i + 1) (q.1, q.2.1, q.2.2 ++ [(tc i - 96).toNatClampNeg]) (by omega) (by omega) ((pS_s hq).trans (if_pos A))
                      | exact ih (i + 1) (q.1, q.2.1 ++ [q.2.2], []) (by omega) (by omega) ((pS_s hq).trans ((if_neg A).trans (if_pos B)))
                      | exact ih (i + 1) (q.1 ++ [q.2.1 ++ [q.2.2]], [], []) (by omega) (by omega) ((pS_s hq).trans ((if_neg A).trans ((if_neg B).trans (if_pos C3))))
              · refine v_iload_n hC dX8_fault_59 rfl rfl ?_
                refine v_bipush (v := 8) hC dX8_fault_60 (by decide) ?_
                refine v_icmp_ge hC dX8_fault_62 (tgt := 73) (by decide) (fun h62 => ?_) (fun h62 => ?_)
                · have B : ¬ (tc i = 32 ∧ 0 < q.2.2.length ∧ q.2.1.length + 1 < 8) := by
                    first
                      | exact fun z => h52 z.1
                      | (have z8 := (nI_leI (b := 0) (by omega) (by decide)).mp h56; exact fun z => absurd z.2.1 (by omega))
                      | (have z8 := lp_ge (N := 8) h62; exact fun z => absurd z.2.2 (by omega))
                  refine v_iload hC dX8_fault_73 rfl ?_
                  refine v_bipush (v := 46) hC dX8_fault_75 (by decide) ?_
                  refine v_icmp_ne hC dX8_fault_77 (tgt := 91) (by decide) (fun h77 => ?_) (fun h77 => ?_)
                  · have C3 : ¬ (tc i = 46 ∧ 0 < q.2.2.length) := by
                      first
                        | exact fun z => h77 z.1
                        | (have z8 := (nI_leI (b := 0) (by omega) (by decide)).mp h81; exact fun z => absurd z.2 (by omega))
                    refine v_iload_n hC dX8_fault_91 rfl rfl ?_
                    refine v_iret hC dX8_fault_92 ?_
                    exact ⟨by rw [flt_at hi hq ((if_neg A).trans ((if_neg B).trans (if_neg C3)))]; rfl, rfl⟩
                  · refine v_iload_n hC dX8_fault_80 rfl rfl ?_
                    refine v_if_le hC dX8_fault_81 (tgt := 91) (by decide) (fun h81 => ?_) (fun h81 => ?_)
                    · have C3 : ¬ (tc i = 46 ∧ 0 < q.2.2.length) := by
                        first
                          | exact fun z => h77 z.1
                          | (have z8 := (nI_leI (b := 0) (by omega) (by decide)).mp h81; exact fun z => absurd z.2 (by omega))
                      refine v_iload_n hC dX8_fault_91 rfl rfl ?_
                      refine v_iret hC dX8_fault_92 ?_
                      exact ⟨by rw [flt_at hi hq ((if_neg A).trans ((if_neg B).trans (if_neg C3)))]; rfl, rfl⟩
                    · have C3 : (tc i = 46 ∧ 0 < q.2.2.length) := ⟨h77, lp_gt (N := 0) (i_nle h81)⟩
                      refine v_iconst (v := 0) hC dX8_fault_84 (by decide) ?_
                      refine v_ist1 hC dX8_fault_85 (by decide) (kk := ?_)
                      refine v_iconst (v := 1) hC dX8_fault_86 (by decide) ?_
                      refine v_ist2 hC dX8_fault_87 (by decide) (kk := ?_)
                      refine v_goto hC dX8_fault_88 (tgt := 93) (by decide) ?_
                      refine v_inc3 hC dX8_fault_93 ((nI_succ i).symm) (by decide) (kk := ?_)
                      refine v_goto hC dX8_fault_96 (tgt := 6) (by decide) ?_
                      refine v_drop 4 ?_
                      first
                        | exact ih (i + 1) (q.1, q.2.1, q.2.2 ++ [(tc i - 96).toNatClampNeg]) (by omega) (by omega) ((pS_s hq).trans (if_pos A))
                        | exact ih (i + 1) (q.1, q.2.1 ++ [q.2.2], []) (by omega) (by omega) ((pS_s hq).trans ((if_neg A).trans (if_pos B)))
                        | exact ih (i + 1) (q.1 ++ [q.2.1 ++ [q.2.2]], [], []) (by omega) (by omega) ((pS_s hq).trans ((if_neg A).trans ((if_neg B).trans (if_pos C3))))
                · have B : (tc i = 32 ∧ 0 < q.2.2.length ∧ q.2.1.length + 1 < 8) := ⟨h52, by have := i_nle h56; exact lp_gt (N := 0) this, by have := lp_lt (N := 8) h62; omega⟩
                  refine v_iconst (v := 0) hC dX8_fault_65 (by decide) ?_
                  refine v_ist1 hC dX8_fault_66 (by decide) (kk := ?_)
                  refine v_inc2 hC dX8_fault_67 (show nI (q.2.1.length + 1) + Int32.ofInt 1 = nI ((q.2.1 ++ [q.2.2]).length + 1) from by rw [List.length_append]; exact (nI_succ _).symm) (by decide) (kk := ?_)
                  refine v_goto hC dX8_fault_70 (tgt := 93) (by decide) ?_
                  refine v_inc3 hC dX8_fault_93 ((nI_succ i).symm) (by decide) (kk := ?_)
                  refine v_goto hC dX8_fault_96 (tgt := 6) (by decide) ?_
                  refine v_drop 4 ?_
                  first
                    | exact ih (i + 1) (q.1, q.2.1, q.2.2 ++ [(tc i - 96).toNatClampNeg]) (by omega) (by omega) ((pS_s hq).trans (if_pos A))
                    | exact ih (i + 1) (q.1, q.2.1 ++ [q.2.2], []) (by omega) (by omega) ((pS_s hq).trans ((if_neg A).trans (if_pos B)))
                    | exact ih (i + 1) (q.1 ++ [q.2.1 ++ [q.2.2]], [], []) (by omega) (by omega) ((pS_s hq).trans ((if_neg A).trans ((if_neg B).trans (if_pos C3))))
          · refine v_iload_n hC dX8_fault_36 rfl rfl ?_
            refine v_bipush (v := 8) hC dX8_fault_37 (by decide) ?_
            refine v_icmp_ge hC dX8_fault_39 (tgt := 48) (by decide) (fun h39 => ?_) (fun h39 => ?_)
            · have A : ¬ (¬ tc i < 97 ∧ ¬ 122 < tc i ∧ q.2.2.length < 8) := by
                first
                  | exact fun z => z.1 h26
                  | exact fun z => z.2.1 h33
                  | (have z8 := lp_ge (N := 8) h39; exact fun z => absurd z.2.2 (by omega))
              refine v_iload hC dX8_fault_48 rfl ?_
              refine v_bipush (v := 32) hC dX8_fault_50 (by decide) ?_
              refine v_icmp_ne hC dX8_fault_52 (tgt := 73) (by decide) (fun h52 => ?_) (fun h52 => ?_)
              · have B : ¬ (tc i = 32 ∧ 0 < q.2.2.length ∧ q.2.1.length + 1 < 8) := by
                  first
                    | exact fun z => h52 z.1
                    | (have z8 := (nI_leI (b := 0) (by omega) (by decide)).mp h56; exact fun z => absurd z.2.1 (by omega))
                    | (have z8 := lp_ge (N := 8) h62; exact fun z => absurd z.2.2 (by omega))
                refine v_iload hC dX8_fault_73 rfl ?_
                refine v_bipush (v := 46) hC dX8_fault_75 (by decide) ?_
                refine v_icmp_ne hC dX8_fault_77 (tgt := 91) (by decide) (fun h77 => ?_) (fun h77 => ?_)
                · have C3 : ¬ (tc i = 46 ∧ 0 < q.2.2.length) := by
                    first
                      | exact fun z => h77 z.1
                      | (have z8 := (nI_leI (b := 0) (by omega) (by decide)).mp h81; exact fun z => absurd z.2 (by omega))
                  refine v_iload_n hC dX8_fault_91 rfl rfl ?_
                  refine v_iret hC dX8_fault_92 ?_
                  exact ⟨by rw [flt_at hi hq ((if_neg A).trans ((if_neg B).trans (if_neg C3)))]; rfl, rfl⟩
                · refine v_iload_n hC dX8_fault_80 rfl rfl ?_
                  refine v_if_le hC dX8_fault_81 (tgt := 91) (by decide) (fun h81 => ?_) (fun h81 => ?_)
                  · have C3 : ¬ (tc i = 46 ∧ 0 < q.2.2.length) := by
                      first
                        | exact fun z => h77 z.1
                        | (have z8 := (nI_leI (b := 0) (by omega) (by decide)).mp h81; exact fun z => absurd z.2 (by omega))
                    refine v_iload_n hC dX8_fault_91 rfl rfl ?_
                    refine v_iret hC dX8_fault_92 ?_
                    exact ⟨by rw [flt_at hi hq ((if_neg A).trans ((if_neg B).trans (if_neg C3)))]; rfl, rfl⟩
                  · have C3 : (tc i = 46 ∧ 0 < q.2.2.length) := ⟨h77, lp_gt (N := 0) (i_nle h81)⟩
                    refine v_iconst (v := 0) hC dX8_fault_84 (by decide) ?_
                    refine v_ist1 hC dX8_fault_85 (by decide) (kk := ?_)
                    refine v_iconst (v := 1) hC dX8_fault_86 (by decide) ?_
                    refine v_ist2 hC dX8_fault_87 (by decide) (kk := ?_)
                    refine v_goto hC dX8_fault_88 (tgt := 93) (by decide) ?_
                    refine v_inc3 hC dX8_fault_93 ((nI_succ i).symm) (by decide) (kk := ?_)
                    refine v_goto hC dX8_fault_96 (tgt := 6) (by decide) ?_
                    refine v_drop 4 ?_
                    first
                      | exact ih (i + 1) (q.1, q.2.1, q.2.2 ++ [(tc i - 96).toNatClampNeg]) (by omega) (by omega) ((pS_s hq).trans (if_pos A))
                      | exact ih (i + 1) (q.1, q.2.1 ++ [q.2.2], []) (by omega) (by omega) ((pS_s hq).trans ((if_neg A).trans (if_pos B)))
                      | exact ih (i + 1) (q.1 ++ [q.2.1 ++ [q.2.2]], [], []) (by omega) (by omega) ((pS_s hq).trans ((if_neg A).trans ((if_neg B).trans (if_pos C3))))
              · refine v_iload_n hC dX8_fault_55 rfl rfl ?_
                refine v_if_le hC dX8_fault_56 (tgt := 73) (by decide) (fun h56 => ?_) (fun h56 => ?_)
                · have B : ¬ (tc i = 32 ∧ 0 < q.2.2.length ∧ q.2.1.length + 1 < 8) := by
                    first
                      | exact fun z => h52 z.1
                      | (have z8 := (nI_leI (b := 0) (by omega) (by decide)).mp h56; exact fun z => absurd z.2.1 (by omega))
                      | (have z8 := lp_ge (N := 8) h62; exact fun z => absurd z.2.2 (by omega))
                  refine v_iload hC dX8_fault_73 rfl ?_
                  refine v_bipush (v := 46) hC dX8_fault_75 (by decide) ?_
                  refine v_icmp_ne hC dX8_fault_77 (tgt := 91) (by decide) (fun h77 => ?_) (fun h77 => ?_)
                  · have C3 : ¬ (tc i = 46 ∧ 0 < q.2.2.length) := by
                      first
                        | exact fun z => h77 z.1
                        | (have z8 := (nI_leI (b := 0) (by omega) (by decide)).mp h81; exact fun z => absurd z.2 (by omega))
                    refine v_iload_n hC dX8_fault_91 rfl rfl ?_
                    refine v_iret hC dX8_fault_92 ?_
                    exact ⟨by rw [flt_at hi hq ((if_neg A).trans ((if_neg B).trans (if_neg C3)))]; rfl, rfl⟩
                  · refine v_iload_n hC dX8_fault_80 rfl rfl ?_
                    refine v_if_le hC dX8_fault_81 (tgt := 91) (by decide) (fun h81 => ?_) (fun h81 => ?_)
                    · have C3 : ¬ (tc i = 46 ∧ 0 < q.2.2.length) := by
                        first
                          | exact fun z => h77 z.1
                          | (have z8 := (nI_leI (b := 0) (by omega) (by decide)).mp h81; exact fun z => absurd z.2 (by omega))
                      refine v_iload_n hC dX8_fault_91 rfl rfl ?_
                      refine v_iret hC dX8_fault_92 ?_
                      exact ⟨by rw [flt_at hi hq ((if_neg A).trans ((if_neg B).trans (if_neg C3)))]; rfl, rfl⟩
                    · have C3 : (tc i = 46 ∧ 0 < q.2.2.length) := ⟨h77, lp_gt (N := 0) (i_nle h81)⟩
                      refine v_iconst (v := 0) hC dX8_fault_84 (by decide) ?_
                      refine v_ist1 hC dX8_fault_85 (by decide) (kk := ?_)
                      refine v_iconst (v := 1) hC dX8_fault_86 (by decide) ?_
                      refine v_ist2 hC dX8_fault_87 (by decide) (kk := ?_)
                      refine v_goto hC dX8_fault_88 (tgt := 93) (by decide) ?_
                      refine v_inc3 hC dX8_fault_93 ((nI_succ i).symm) (by decide) (kk := ?_)
                      refine v_goto hC dX8_fault_96 (tgt := 6) (by decide) ?_
                      refine v_drop 4 ?_
                      first
                        | exact ih (i + 1) (q.1, q.2.1, q.2.2 ++ [(tc i - 96).toNatClampNeg]) (by omega) (by omega) ((pS_s hq).trans (if_pos A))
                        | exact ih (i + 1) (q.1, q.2.1 ++ [q.2.2], []) (by omega) (by omega) ((pS_s hq).trans ((if_neg A).trans (if_pos B)))
                        | exact ih (i + 1) (q.1 ++ [q.2.1 ++ [q.2.2]], [], []) (by omega) (by omega) ((pS_s hq).trans ((if_neg A).trans ((if_neg B).trans (if_pos C3))))
                · refine v_iload_n hC dX8_fault_59 rfl rfl ?_
                  refine v_bipush (v := 8) hC dX8_fault_60 (by decide) ?_
                  refine v_icmp_ge hC dX8_fault_62 (tgt := 73) (by decide) (fun h62 => ?_) (fun h62 => ?_)
                  · have B : ¬ (tc i = 32 ∧ 0 < q.2.2.length ∧ q.2.1.length + 1 < 8) := by
                      first
                        | exact fun z => h52 z.1
                        | (have z8 := (nI_leI (b := 0) (by omega) (by decide)).mp h56; exact fun z => absurd z.2.1 (by omega))
                        | (have z8 := lp_ge (N := 8) h62; exact fun z => absurd z.2.2 (by omega))
                    refine v_iload hC dX8_fault_73 rfl ?_
                    refine v_bipush (v := 46) hC dX8_fault_75 (by decide) ?_
                    refine v_icmp_ne hC dX8_fault_77 (tgt := 91) (by decide) (fun h77 => ?_) (fun h77 => ?_)
                    · have C3 : ¬ (tc i = 46 ∧ 0 < q.2.2.length) := by
                        first
                          | exact fun z => h77 z.1
                          | (have z8 := (nI_leI (b := 0) (by omega) (by decide)).mp h81; exact fun z => absurd z.2 (by omega))
                      refine v_iload_n hC dX8_fault_91 rfl rfl ?_
                      refine v_iret hC dX8_fault_92 ?_
                      exact ⟨by rw [flt_at hi hq ((if_neg A).trans ((if_neg B).trans (if_neg C3)))]; rfl, rfl⟩
                    · refine v_iload_n hC dX8_fault_80 rfl rfl ?_
                      refine v_if_le hC dX8_fault_81 (tgt := 91) (by decide) (fun h81 => ?_) (fun h81 => ?_)
                      · have C3 : ¬ (tc i = 46 ∧ 0 < q.2.2.length) := by
                          first
                            | exact fun z => h77 z.1
                            | (have z8 := (nI_leI (b := 0) (by omega) (by decide)).mp h81; exact fun z => absurd z.2 (by omega))
                        refine v_iload_n hC dX8_fault_91 rfl rfl ?_
                        refine v_iret hC dX8_fault_92 ?_
                        exact ⟨by rw [flt_at hi hq ((if_neg A).trans ((if_neg B).trans (if_neg C3)))]; rfl, rfl⟩
                      · have C3 : (tc i = 46 ∧ 0 < q.2.2.length) := ⟨h77, lp_gt (N := 0) (i_nle h81)⟩
                        refine v_iconst (v := 0) hC dX8_fault_84 (by decide) ?_
                        refine v_ist1 hC dX8_fault_85 (by decide) (kk := ?_)
                        refine v_iconst (v := 1) hC dX8_fault_86 (by decide) ?_
                        refine v_ist2 hC dX8_fault_87 (by decide) (kk := ?_)
                        refine v_goto hC dX8_fault_88 (tgt := 93) (by decide) ?_
                        refine v_inc3 hC dX8_fault_93 ((nI_succ i).symm) (by decide) (kk := ?_)
                        refine v_goto hC dX8_fault_96 (tgt := 6) (by decide) ?_
                        refine v_drop 4 ?_
                        first
                          | exact ih (i + 1) (q.1, q.2.1, q.2.2 ++ [(tc i - 96).toNatClampNeg]) (by omega) (by omega) ((pS_s hq).trans (if_pos A))
                          | exact ih (i + 1) (q.1, q.2.1 ++ [q.2.2], []) (by omega) (by omega) ((pS_s hq).trans ((if_neg A).trans (if_pos B)))
                          | exact ih (i + 1) (q.1 ++ [q.2.1 ++ [q.2.2]], [], []) (by omega) (by omega) ((pS_s hq).trans ((if_neg A).trans ((if_neg B).trans (if_pos C3))))
                  · have B : (tc i = 32 ∧ 0 < q.2.2.length ∧ q.2.1.length + 1 < 8) := ⟨h52, by have := i_nle h56; exact lp_gt (N := 0) this, by have := lp_lt (N := 8) h62; omega⟩
                    refine v_iconst (v := 0) hC dX8_fault_65 (by decide) ?_
                    refine v_ist1 hC dX8_fault_66 (by decide) (kk := ?_)
                    refine v_inc2 hC dX8_fault_67 (show nI (q.2.1.length + 1) + Int32.ofInt 1 = nI ((q.2.1 ++ [q.2.2]).length + 1) from by rw [List.length_append]; exact (nI_succ _).symm) (by decide) (kk := ?_)
                    refine v_goto hC dX8_fault_70 (tgt := 93) (by decide) ?_
                    refine v_inc3 hC dX8_fault_93 ((nI_succ i).symm) (by decide) (kk := ?_)
                    refine v_goto hC dX8_fault_96 (tgt := 6) (by decide) ?_
                    refine v_drop 4 ?_
                    first
                      | exact ih (i + 1) (q.1, q.2.1, q.2.2 ++ [(tc i - 96).toNatClampNeg]) (by omega) (by omega) ((pS_s hq).trans (if_pos A))
                      | exact ih (i + 1) (q.1, q.2.1 ++ [q.2.2], []) (by omega) (by omega) ((pS_s hq).trans ((if_neg A).trans (if_pos B)))
                      | exact ih (i + 1) (q.1 ++ [q.2.1 ++ [q.2.2]], [], []) (by omega) (by omega) ((pS_s hq).trans ((if_neg A).trans ((if_neg B).trans (if_pos C3))))
            · have A : (¬ tc i < 97 ∧ ¬ 122 < tc i ∧ q.2.2.length < 8) := ⟨h26, h33, lp_lt (N := 8) h39⟩
              refine v_inc1 hC dX8_fault_42 (show nI q.2.2.length + Int32.ofInt 1 = nI (q.2.2 ++ [(tc i - 96).toNatClampNeg]).length from by rw [List.length_append]; exact (nI_succ _).symm) (by decide) (kk := ?_)
              refine v_goto hC dX8_fault_45 (tgt := 93) (by decide) ?_
              refine v_inc3 hC dX8_fault_93 ((nI_succ i).symm) (by decide) (kk := ?_)
              refine v_goto hC dX8_fault_96 (tgt := 6) (by decide) ?_
              refine v_drop 4 ?_
              first
                | exact ih (i + 1) (q.1, q.2.1, q.2.2 ++ [(tc i - 96).toNatClampNeg]) (by omega) (by omega) ((pS_s hq).trans (if_pos A))
                | exact ih (i + 1) (q.1, q.2.1 ++ [q.2.2], []) (by omega) (by omega) ((pS_s hq).trans ((if_neg A).trans (if_pos B)))
                | exact ih (i + 1) (q.1 ++ [q.2.1 ++ [q.2.2]], [], []) (by omega) (by omega) ((pS_s hq).trans ((if_neg A).trans ((if_neg B).trans (if_pos C3))))
  refine v_iconst (v := 0) hC dX8_fault_0 (by decide) ?_
  refine v_ist1 hC dX8_fault_1 (by decide) (kk := ?_)
  refine v_iconst (v := 1) hC dX8_fault_2 (by decide) ?_
  refine v_ist2 hC dX8_fault_3 (by decide) (kk := ?_)
  refine v_iconst (v := 0) hC dX8_fault_4 (by decide) ?_
  refine v_ist3 hC dX8_fault_5 (by decide) (kk := ?_)
  exact loop 61 0 ([], [], []) (by omega) (by omega) rfl

set_option maxHeartbeats 4000000 in
set_option maxRecDepth 100000 in
theorem c_X8_segmentCount {l : Launch} {G : Gd} {M : Me} {n t : Nat} {tc : Nat → Int32} (hW : Wt M) (ht : m_t M (n + 5) = 9) (hch : m_r M 228 (n + 5) 0 = n + 6) (hc : m_t M (n + 6) = 41) (hT : TX M n t tc) (hf : fltF tc t = none) : CQ (Qi G (fun r M2 => r = nI (sgT tc t).length ∧ M2 = M)) l G yX8_segmentCount cX8_segmentCount 3 ((some .int)) 0 0 0 0 [.ref (n + 5)] M := by
  refine c_of ([some (.ref (n + 5)), none, none] : Lo) RX8 "segmentCount" (by decide) rfl rfl (Nat.le_of_ble_eq_true rfl) rfl (fun p e s m below meth c hC nw => ?_)
  have hb := hT.1
  obtain ⟨qe, hqe, -⟩ := flt_n hf
  have loop : ∀ (k i : Nat) (q : Pt), i + k = 61 → i ≤ t → pS tc i = some q → V p l e (rmk 0 0 0 0) s m ([.ref (n + 5)] : List Value).toArray below meth c 3 G (MQ below (Qi G (fun r M2 => r = nI (sgT tc t).length ∧ M2 = M)) ([.ref (n + 5)] : List Value).toArray s 0 0 (fr_ G)) M 0 0 4 ([some (.ref (n + 5)), some (.int (nI (q.1.length + 1))), some (.int (nI i))] : Lo) [] := by
    intro k
    induction k with
    | zero => intro i q w1 w2; omega
    | succ k ih =>
      intro i q w1 w2 hq
      refine v_iload_n hC dX8_segmentCount_4 rfl rfl ?_
      refine v_aload_n hC dX8_segmentCount_5 rfl rfl ?_
      refine gf_8_1 hC ht mw_1_70 dX8_segmentCount_6 ?_
      rw [hT.2.1]
      refine v_icmp_ge hC dX8_segmentCount_9 (tgt := 32) (by decide) (fun h9 => ?_) (fun h9 => ?_)
      · have hi := lp_ge h9
        refine v_iload_n hC dX8_segmentCount_32 rfl rfl ?_
        refine v_iret hC dX8_segmentCount_33 ?_
        have hie : i = t := by omega
        subst hie
        exact ⟨by rw [sgT, hq, List.length_append]; rfl, rfl⟩
      · have hi := lp_lt h9
        obtain ⟨r, hr⟩ := pS_b hqe (i + 1) (by omega)
        have er := (pS_s hq).symm.trans hr
        refine v_aload_n hC dX8_segmentCount_12 rfl rfl ?_
        refine gf_8_0 hC ht (wf_228 hW ht) mw_1_69 dX8_segmentCount_13 ?_
        rw [hch]
        refine v_iload_n hC dX8_segmentCount_16 rfl rfl ?_
        refine v_cald 41 hC hc (by decide) (by decide) (ix_c (wz_41 hW hc) (by omega)) dX8_segmentCount_17 ?_
        rw [hT.2.2 i hi]
        refine v_bipush (v := 46) hC dX8_segmentCount_18 (by decide) ?_
        refine v_icmp_ne hC dX8_segmentCount_20 (tgt := 26) (by decide) (fun h20 => ?_) (fun h20 => ?_)
        · first
            | (have z := pst_nd h20 er; rw [show nI (q.1.length + 1) = nI (r.1.length + 1) from by rw [z]])
            | skip
          refine v_inc2 hC dX8_segmentCount_26 ((nI_succ i).symm) (by decide) (kk := ?_)
          refine v_goto hC dX8_segmentCount_29 (tgt := 4) (by decide) ?_
          exact ih (i + 1) r (by omega) (by omega) hr
        · refine v_inc1 hC dX8_segmentCount_23 (show nI (q.1.length + 1) + Int32.ofInt 1 = nI (r.1.length + 1) from by rw [h20] at er; rw [(pst_dot er).2, List.length_append]; exact (nI_succ _).symm) (by decide) (kk := ?_)
          first
            | (have z := pst_nd h20 er; rw [show nI (q.1.length + 1) = nI (r.1.length + 1) from by rw [z]])
            | skip
          refine v_inc2 hC dX8_segmentCount_26 ((nI_succ i).symm) (by decide) (kk := ?_)
          refine v_goto hC dX8_segmentCount_29 (tgt := 4) (by decide) ?_
          exact ih (i + 1) r (by omega) (by omega) hr
  refine v_iconst (v := 1) hC dX8_segmentCount_0 (by decide) ?_
  refine v_ist1 hC dX8_segmentCount_1 (by decide) (kk := ?_)
  refine v_iconst (v := 0) hC dX8_segmentCount_2 (by decide) ?_
  refine v_ist2 hC dX8_segmentCount_3 (by decide) (kk := ?_)
  exact loop 61 0 ([], [], []) (by omega) (by omega) rfl
