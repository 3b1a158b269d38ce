/-- the first number below n with a property; the last one -/
def fsN (p : Nat → Bool) : Nat → Option Nat
  | 0 => none
  | k + 1 => match fsN p k with
    | some x => some x
    | none => if p k = true then some k else none
def lsN (p : Nat → Bool) : Nat → Option Nat
  | 0 => none
  | k + 1 => if p k = true then some k else lsN p k
def eN (r : Option Nat) : Int32 := match r with
  | some x => nI x
  | none => -5
theorem fsN_p {p : Nat → Bool} : ∀ n : Nat, (∃ e, fsN p n = some e ∧ e < n ∧ p e = true ∧ ∀ j, j < e → ¬ p j = true) ∨ fsN p n = none ∧ ∀ j, j < n → ¬ p j = true
  | 0 => Or.inr ⟨rfl, fun j h => absurd h (Nat.not_lt_zero j)⟩
  | n + 1 => by
    rcases fsN_p (p := p) n with ⟨e, h1, h2, h3, h4⟩ | ⟨h1, h2⟩
    · exact Or.inl ⟨e, by rw [fsN, h1], by omega, h3, h4⟩
    · by_cases q : p n = true
      · exact Or.inl ⟨n, by rw [fsN, h1]; exact if_pos q, by omega, q, h2⟩
      · refine Or.inr ⟨by rw [fsN, h1]; exact if_neg q, fun j hj => ?_⟩
        by_cases w : j = n
        · rw [w]; exact q
        · exact h2 j (by omega)
theorem lsN_p {p : Nat → Bool} : ∀ n : Nat, (∃ e, lsN p n = some e ∧ e < n ∧ p e = true ∧ ∀ j, j < n → e < j → ¬ p j = true) ∨ lsN p n = none ∧ ∀ j, j < n → ¬ p j = true
  | 0 => Or.inr ⟨rfl, fun j h => absurd h (Nat.not_lt_zero j)⟩
  | n + 1 => by
    by_cases q : p n = true
    · exact Or.inl ⟨n, if_pos q, by omega, q, fun j h1 h2 => absurd h1 (by omega)⟩
    · rcases lsN_p (p := p) n with ⟨e, h1, h2, h3, h4⟩ | ⟨h1, h2⟩
      · refine Or.inl ⟨e, (if_neg q).trans h1, by omega, h3, fun j g1 g2 => ?_⟩
        by_cases w : j = n
        · rw [w]; exact q
        · exact h4 j (by omega) g2
      · refine Or.inr ⟨(if_neg q).trans h1, fun j hj => ?_⟩
        by_cases w : j = n
        · rw [w]; exact q
        · exact h2 j (by omega)
theorem fsN_i {p : Nat → Bool} {n e : Nat} (h : fsN p n = some e) : e < n ∧ p e = true ∧ ∀ j, j < e → ¬ p j = true := by
  rcases fsN_p (p := p) n with ⟨e2, h1, h2⟩ | ⟨h1, h2⟩
  · rw [h] at h1; cases h1; exact h2
  · rw [h] at h1; cases h1
theorem fsN_n {p : Nat → Bool} {n : Nat} (h : fsN p n = none) : ∀ j, j < n → ¬ p j = true := by
  rcases fsN_p (p := p) n with ⟨e2, h1, h2⟩ | ⟨h1, h2⟩
  · rw [h] at h1; cases h1
  · exact h2
theorem fsN_s {p : Nat → Bool} {n e : Nat} (h1 : e < n) (h2 : p e = true) (h3 : ∀ j, j < e → ¬ p j = true) : fsN p n = some e := by
  rcases fsN_p (p := p) n with ⟨e2, g1, g2, g3, g4⟩ | ⟨g1, g2⟩
  · rw [g1]
    by_cases q : e < e2
    · exact absurd h2 (g4 e q)
    · by_cases w : e2 < e
      · exact absurd g3 (h3 e2 w)
      · rw [show e2 = e by omega]
  · exact absurd h2 (g2 e h1)
theorem fsN_o {p : Nat → Bool} {n : Nat} (h : ∀ j, j < n → ¬ p j = true) : fsN p n = none := by
  rcases fsN_p (p := p) n with ⟨e2, h1, h2, h3, -⟩ | ⟨h1, h2⟩
  · exact absurd h3 (h e2 h2)
  · exact h1
theorem lsN_s {p : Nat → Bool} {n e : Nat} (h1 : e < n) (h2 : p e = true) (h3 : ∀ j, j < n → e < j → ¬ p j = true) : lsN p n = some e := by
  rcases lsN_p (p := p) n with ⟨e2, g1, g2, g3, g4⟩ | ⟨g1, g2⟩
  · rw [g1]
    by_cases q : e < e2
    · exact absurd g3 (h3 e2 g2 q)
    · by_cases w : e2 < e
      · exact absurd h2 (g4 e h1 w)
      · rw [show e2 = e by omega]
  · exact absurd h2 (g2 e h1)
theorem lsN_o {p : Nat → Bool} {n : Nat} (h : ∀ j, j < n → ¬ p j = true) : lsN p n = none := by
  rcases lsN_p (p := p) n with ⟨e2, h1, h2, h3, -⟩ | ⟨h1, h2⟩
  · exact absurd h3 (h e2 h2)
  · exact h1
theorem Fst.fs {P : Nat → Prop} {p : Nat → Bool} {n : Nat} {r : Int32} (h : Fst P n r) (e : ∀ j, j < n → (P j ↔ p j = true)) : r = eN (fsN p n) := by
  rcases h with ⟨k, a1, a2, a3, a4⟩ | ⟨a1, a2⟩
  · rw [fsN_s a1 ((e k a1).mp a2) (fun j hj w => a3 j hj ((e j (by omega)).mpr w))]; exact a4
  · rw [fsN_o (fun j hj w => a1 j hj ((e j hj).mpr w))]; exact a2
theorem Lst.ls {P : Nat → Prop} {p : Nat → Bool} {n : Nat} {r : Int32} (h : Lst P n r) (e : ∀ j, j < n → (P j ↔ p j = true)) : r = eN (lsN p n) := by
  rcases h with ⟨k, a1, a2, a3, a4⟩ | ⟨a1, a2⟩
  · rw [lsN_s a1 ((e k a1).mp a2) (fun j hj w v => a3 j hj w ((e j hj).mpr v))]; exact a4
  · rw [lsN_o (fun j hj w => a1 j hj ((e j hj).mpr w))]; exact a2
theorem ne5 {n : Nat} (h : n < 2 ^ 31) : ¬ nI n = -5 := fun q => by
  have w := congrArg Int32.toInt q
  rw [nI_toInt h] at w
  rw [show (-5 : Int32).toInt = -5 from rfl] at w
  omega
/-! the order of files; repeats; bands -/
def WfO (u : Si) : Prop := (∀ j, j < n_f u → ∃ g, g < n_f u ∧ q_i u 17 0 j = nI g) ∧ ∀ f, f < n_f u → ∃ j, j < n_f u ∧ q_i u 17 0 j = nI f
def oN (u : Si) (k : Nat) : Nat := (q_i u 17 0 k).toNatClampNeg
def plB (u : Si) (f : Nat) : Nat → Bool := fun j => decide (q_i u 17 0 j = nI f)
def plN (u : Si) (f : Nat) : Nat := (fsN (plB u f) (n_f u)).getD 0
theorem plN_p {u : Si} (w : WfO u) {f : Nat} (hf : f < n_f u) : fsN (plB u f) (n_f u) = some (plN u f) ∧ plN u f < n_f u ∧ q_i u 17 0 (plN u f) = nI f ∧ ∀ j, j < plN u f → ¬ q_i u 17 0 j = nI f := by
  have h : ∃ e, fsN (plB u f) (n_f u) = some e := by
    rcases fsN_p (p := plB u f) (n_f u) with ⟨e, h1, -⟩ | ⟨-, h2⟩
    · exact ⟨e, h1⟩
    · obtain ⟨j, hj, ej⟩ := w.2 f hf
      exact absurd (decide_eq_true ej) (h2 j hj)
  obtain ⟨e, h⟩ := h
  have hp : plN u f = e := by rw [plN, h]; rfl
  rw [hp]
  obtain ⟨a1, a2, a3⟩ := fsN_i h
  exact ⟨h, a1, of_decide_eq_true a2, fun j hj q => a3 j hj (decide_eq_true q)⟩
def pB (u : Si) (g : Sg) (f : Nat) : Nat → Bool := fun s => decide (iH u f ∧ q_g u 0 f s = g)
def limN (u : Si) (f t o : Nat) : Nat := if o = f then t else n_s u o
def rpS (d : Int32) (g : Nat) (x : Option Nat) : Int32 := match x with
  | some s => 100 * nI g + nI s
  | none => d
def rpv (u : Si) (f t : Nat) : Nat → Int32
  | 0 => -5
  | k + 1 => rpS (rpv u f t k) (oN u k) (lsN (pB u (q_g u 0 f t) (oN u k)) (limN u f t (oN u k)))
/-- the nearest segment that makes this one a repeat -/
def nrv (u : Si) (f t : Nat) : Int32 := if iH u f then rpv u f t (plN u f + 1) else -5
def bdm (m : Int32) : Int32 := if m = 100 then 1 else if ¬ m < 85 then 2 else if ¬ m < 75 then 3 else if ¬ m < 50 then 4 else 5
def mtv (u : Si) (f t : Nat) : Int32 := bm (fun e => mtc (q_g u 0 f t) (q_g u 1 e 0)) (n_e u)
def bnd (u : Si) (f t : Nat) : Int32 := if ¬ nrv u f t = -5 then 0 else bdm (mtv u f t)
theorem bdm_b (m : Int32) : ∃ b, b < 6 ∧ bdm m = nI b := by
  unfold bdm
  by_cases h1 : m = 100
  · rw [if_pos h1]; exact ⟨1, by decide, rfl⟩
  · rw [if_neg h1]
    by_cases h2 : ¬ m < 85
    · rw [if_pos h2]; exact ⟨2, by decide, rfl⟩
    · rw [if_neg h2]
      by_cases h3 : ¬ m < 75
      · rw [if_pos h3]; exact ⟨3, by decide, rfl⟩
      · rw [if_neg h3]
        by_cases h4 : ¬ m < 50
        · rw [if_pos h4]; exact ⟨4, by decide, rfl⟩
        · rw [if_neg h4]; exact ⟨5, by decide, rfl⟩
theorem bnd_b (u : Si) (f t : Nat) : ∃ b, b < 6 ∧ bnd u f t = nI b := by
  unfold bnd
  by_cases h : ¬ nrv u f t = -5
  · rw [if_pos h]; exact ⟨0, by decide, rfl⟩
  · rw [if_neg h]; exact bdm_b _
/-- the words of a file's segments in a band; the price -/
def wbF (u : Si) (f b : Nat) : Nat → Int32 := fun s => if bnd u f s = nI b then nI (q_g u 0 f s).length else 0
def wbn (u : Si) (f b : Nat) : Int32 := sm (wbF u f b) (n_s u f)
def prc (u : Si) (f : Nat) (x : Int32) : Int32 := sm (fun b => wbn u f b * x * q_i u 0 0 b / 100) 6
theorem Lst.nr {u : Si} {g : Sg} {f n : Nat} {r : Int32} (hi : iH u f) (h : Lst (fun j => q_g u 0 f j = g) n r) : (∃ s, lsN (pB u g f) n = some s ∧ r = nI s ∧ s < n) ∨ lsN (pB u g f) n = none ∧ r = -5 := by
  have e := h.ls (p := pB u g f) (fun j _ => ⟨fun q => decide_eq_true ⟨hi, q⟩, fun q => (of_decide_eq_true q).2⟩)
  rcases lsN_p (p := pB u g f) n with ⟨s, h1, h2, -⟩ | ⟨h1, -⟩
  · rw [h1] at e; exact Or.inl ⟨s, h1, e, h2⟩
  · rw [h1] at e; exact Or.inr ⟨h1, e⟩
set_option maxHeartbeats 4000000 in
set_option maxRecDepth 100000 in
theorem c_X7_repeatSource {l : Launch} {G : Gd} {M : Me} {h f t : Nat} {u : Si} (hW : Wt M) (ht : m_t M h = 8) (hR : CR M h u) (hO : WfO u) (hf : f < n_f u) (hs : t < n_s u f) : CQ (Qi G (fun r M2 => r = nrv u f t ∧ M2 = M)) l G yX7_repeatSource cX7_repeatSource 8 ((some .int)) 2 47 0 0 [.ref h, .int (nI f), .int (nI t)] M := by
  refine c_of ([some (.ref h), some (.int (nI f)), some (.int (nI t)), none, none, none, none, none] : Lo) RX7 "repeatSource" (by decide) rfl rfl (Nat.le_of_ble_eq_true rfl) rfl (fun p e s m below meth c hC nw => ?_)
  have hb : n_f u ≤ 8 := hR.2.1.1
  have h12 := hR.2.1.2.2.2.2 f hf
  have hF : m_t M (pF M h f) = 10 := we_51 hW (wf_215 hW ht) (by omega)
  have hG : SgR M (m_r M 52 (m_r M 250 (pF M h f) 0) t) (q_g u 0 f t) := (hR.fs hf).2.2 t hs
  have loop : iH u f → plN u f < n_f u → (∀ j, j < plN u f → ¬ q_i u 17 0 j = nI f) → ∀ (k i : Nat), i < k → i ≤ plN u f → rpv u f t (plN u f + 1) = rpv u f t i → V p l e (rmk 2 47 0 0) s m ([.ref h, .int (nI f), .int (nI t)] : List Value).toArray below meth c 8 G (MQ below (Qi G (fun r M2 => r = nrv u f t ∧ M2 = M)) ([.ref h, .int (nI f), .int (nI t)] : List Value).toArray s 0 0 (fr_ G)) M 0 0 64 ([some (.ref h), some (.int (nI f)), some (.int (nI t)), some (.ref (m_r M 52 (m_r M 250 (pF M h f) 0) t)), none, some (.int (nI i - 1)), none, none] : Lo) [] := by
    intro g6 p2 p4 k
    induction k with
    | zero => intro i e1 e2; omega
    | succ k ih =>
      intro i e1 e2 hI
      refine v_iload hC dX7_repeatSource_64 rfl ?_
      refine v_if_lt hC dX7_repeatSource_66 (tgt := 154) (by decide) (fun h66 => ?_) (fun h66 => ?_)
      · have hz := dn_lt h66 (by omega)
        subst hz
        refine v_bipush (v := (-5)) hC dX7_repeatSource_154 (by decide) ?_
        refine v_iret hC dX7_repeatSource_156 ?_
        exact ⟨by rw [nrv, if_pos g6, hI]; rfl, rfl⟩
      · obtain ⟨j, rfl, et⟩ := dn_ge h66
        rw [et]
        obtain ⟨g, hg, eg⟩ := hO.1 j (by omega)
        have ho : oN u j = g := by rw [oN, eg, nI_clamp (by omega)]
        have hgf : ¬ g = f := fun q => p4 j (by omega) (by rw [eg, q])
        have h12g := hR.2.1.2.2.2.2 g hg
        refine v_aload_n hC dX7_repeatSource_69 rfl rfl ?_
        refine gf_7_5 hC ht (wf_217 hW ht) mw_2_38 dX7_repeatSource_70 ?_
        refine v_iload hC dX7_repeatSource_73 rfl ?_
        refine v_iald 21 hC (wf_217 hW ht) (by decide) (by decide) (ix_c (wz_21 hW (wf_217 hW ht)) (by omega)) dX7_repeatSource_75 ?_
        rw [hR.od (by omega), eg]
        refine v_ist6 hC dX7_repeatSource_76 (by decide) (kk := ?_)
        refine v_aload_n hC dX7_repeatSource_78 rfl rfl ?_
        refine v_iload hC dX7_repeatSource_79 rfl ?_
        refine cVi1 hC (c_X7_hasFile ht hR.2.2.2.1.1 hb) yv_X7_hasFile rfl ht mw_3_64 ⟨Nat.le_of_ble_eq_true rfl, Nat.le_of_ble_eq_true rfl⟩ ⟨Nat.le_of_ble_eq_true rfl, Nat.le_of_ble_eq_true rfl⟩ (Nat.le_of_ble_eq_true rfl) dX7_repeatSource_81 (fun r81 M83 hq => ?_)
        obtain ⟨hm, hq2⟩ := hq
        have hm2 := hm.symm
        clear hm
        subst hm2
        obtain ⟨g81, rfl⟩ | ⟨g81, rfl⟩ := hq2
        · refine v_if_eq hC dX7_repeatSource_84 (tgt := 104) (by decide) (fun hx => absurd hx (by decide)) (fun _ => ?_)
          refine v_aload_n hC dX7_repeatSource_87 rfl rfl ?_
          refine gf_7_3 hC ht (wf_215 hW ht) mw_2_34 dX7_repeatSource_88 ?_
          refine v_iload hC dX7_repeatSource_91 rfl ?_
          refine v_aald 51 _ hC (wf_215 hW ht) (by decide) rfl (ix_c (wz_51 hW (wf_215 hW ht)) (by omega)) (we_51 hW (wf_215 hW ht) (by omega)) dX7_repeatSource_93 ?_
          refine cVi0 hC (c_X9_isInHand (we_51 hW (wf_215 hW ht) (by omega))) yv_X9_isInHand rfl (we_51 hW (wf_215 hW ht) (by omega)) mw_3_54 ⟨Nat.le_of_ble_eq_true rfl, Nat.le_of_ble_eq_true rfl⟩ ⟨Nat.le_of_ble_eq_true rfl, Nat.le_of_ble_eq_true rfl⟩ (Nat.le_of_ble_eq_true rfl) dX7_repeatSource_94 (fun r94 M96 hq => ?_)
          obtain ⟨hm, hq2⟩ := hq
          have hm2 := hm.symm
          clear hm
          subst hm2
          obtain ⟨g94, rfl⟩ | ⟨g94, rfl⟩ := hq2
          · rw [(hR.f4 hg).1] at g94
            refine v_if_eq hC dX7_repeatSource_97 (tgt := 104) (by decide) (fun hx => absurd hx (by decide)) (fun _ => ?_)
            refine v_iconst (v := 1) hC dX7_repeatSource_100 (by decide) ?_
            refine v_goto hC dX7_repeatSource_101 (tgt := 105) (by decide) ?_
            refine v_ist7 hC dX7_repeatSource_105 (by decide) (kk := ?_)
            refine v_iload hC dX7_repeatSource_107 rfl ?_
            refine v_if_eq hC dX7_repeatSource_109 (tgt := 128) (by decide) (fun hx => absurd hx (by decide)) (fun _ => ?_)
            refine v_aload_n hC dX7_repeatSource_112 rfl rfl ?_
            refine gf_7_3 hC ht (wf_215 hW ht) mw_2_34 dX7_repeatSource_113 ?_
            refine v_iload hC dX7_repeatSource_116 rfl ?_
            refine v_aald 51 _ hC (wf_215 hW ht) (by decide) rfl (ix_c (wz_51 hW (wf_215 hW ht)) (by omega)) (we_51 hW (wf_215 hW ht) (by omega)) dX7_repeatSource_118 ?_
            refine v_aload_n hC dX7_repeatSource_119 rfl rfl ?_
            refine v_bipush (v := 12) hC dX7_repeatSource_120 (by decide) ?_
            refine cVi2 hC (c_X9_lastAlike hW (we_51 hW (wf_215 hW ht) (by omega)) (hR.fs hg) hG (Nat.le_refl 12)) yv_X9_lastAlike rfl (we_51 hW (wf_215 hW ht) (by omega)) mw_3_55 ⟨Nat.le_of_ble_eq_true rfl, Nat.le_of_ble_eq_true rfl⟩ ⟨Nat.le_of_ble_eq_true rfl, Nat.le_of_ble_eq_true rfl⟩ (Nat.le_of_ble_eq_true rfl) dX7_repeatSource_122 (fun r122 M124 hq => ?_)
            obtain ⟨hl122, hm⟩ := hq
            have hm2 := hm.symm
            clear hm
            subst hm2
            rw [Nat.min_eq_right (hR.2.1.2.2.2.2 g hg)] at hl122
            rcases Lst.nr g94 hl122 with ⟨s0, q1, rfl, q2⟩ | ⟨q1, rfl⟩
            · refine v_goto hC dX7_repeatSource_125 (tgt := 130) (by decide) ?_
              refine v_ist4 hC dX7_repeatSource_130 (by decide) (kk := ?_)
              refine v_iload hC dX7_repeatSource_132 rfl ?_
              refine v_bipush (v := (-5)) hC dX7_repeatSource_134 (by decide) ?_
              refine v_icmp_eq hC dX7_repeatSource_136 (tgt := 148) (by decide) (fun h136 => absurd h136 (ne5 (by omega))) (fun h136 => ?_)
              refine v_bipush (v := 100) hC dX7_repeatSource_139 (by decide) ?_
              refine v_iload hC dX7_repeatSource_141 rfl ?_
              refine v_imul hC dX7_repeatSource_143 ?_
              refine v_iload hC dX7_repeatSource_144 rfl ?_
              refine v_iadd hC dX7_repeatSource_146 ?_
              refine v_iret hC dX7_repeatSource_147 ?_
              exact ⟨by rw [nrv, if_pos g6, hI, rpv, ho, limN, if_neg hgf, q1]; rfl, rfl⟩
            · refine v_goto hC dX7_repeatSource_125 (tgt := 130) (by decide) ?_
              refine v_ist4 hC dX7_repeatSource_130 (by decide) (kk := ?_)
              refine v_iload hC dX7_repeatSource_132 rfl ?_
              refine v_bipush (v := (-5)) hC dX7_repeatSource_134 (by decide) ?_
              refine v_icmp_eq hC dX7_repeatSource_136 (tgt := 148) (by decide) (fun _ => ?_) (fun hx => absurd hx (by decide))
              refine v_inc5 hC dX7_repeatSource_148 (dn_inc j) (by decide) (kk := ?_)
              refine v_goto hC dX7_repeatSource_151 (tgt := 64) (by decide) ?_
              refine v_drop 4 (v_drop 6 (v_drop 7 ?_))
              exact ih j (by omega) (by omega) (hI.trans (by
                rw [rpv, ho, limN, if_neg hgf]
                first
                  | rw [q1]; rfl
                  | rw [lsN_o (fun s _ q => g94 (of_decide_eq_true q).1)]; rfl))
          · rw [(hR.f4 hg).1] at g94
            refine v_if_eq hC dX7_repeatSource_97 (tgt := 104) (by decide) (fun _ => ?_) (fun hx => absurd hx (by decide))
            refine v_iconst (v := 0) hC dX7_repeatSource_104 (by decide) ?_
            refine v_ist7 hC dX7_repeatSource_105 (by decide) (kk := ?_)
            refine v_iload hC dX7_repeatSource_107 rfl ?_
            refine v_if_eq hC dX7_repeatSource_109 (tgt := 128) (by decide) (fun _ => ?_) (fun hx => absurd hx (by decide))
            refine v_bipush (v := (-5)) hC dX7_repeatSource_128 (by decide) ?_
            refine v_ist4 hC dX7_repeatSource_130 (by decide) (kk := ?_)
            refine v_iload hC dX7_repeatSource_132 rfl ?_
            refine v_bipush (v := (-5)) hC dX7_repeatSource_134 (by decide) ?_
            refine v_icmp_eq hC dX7_repeatSource_136 (tgt := 148) (by decide) (fun _ => ?_) (fun hx => absurd hx (by decide))
            refine v_inc5 hC dX7_repeatSource_148 (dn_inc j) (by decide) (kk := ?_)
            refine v_goto hC dX7_repeatSource_151 (tgt := 64) (by decide) ?_
            refine v_drop 4 (v_drop 6 (v_drop 7 ?_))
            exact ih j (by omega) (by omega) (hI.trans (by
              rw [rpv, ho, limN, if_neg hgf]
              first
                | rw [q1]; rfl
                | rw [lsN_o (fun s _ q => g94 (of_decide_eq_true q).1)]; rfl))
        · exact absurd ⟨g, hg, rfl⟩ g81
  refine v_aload_n hC dX7_repeatSource_0 rfl rfl ?_
  refine gf_7_3 hC ht (wf_215 hW ht) mw_2_34 dX7_repeatSource_1 ?_
  refine v_iload_n hC dX7_repeatSource_4 rfl rfl ?_
  refine v_aald 51 _ hC (wf_215 hW ht) (by decide) rfl (ix_c (wz_51 hW (wf_215 hW ht)) (by omega)) (we_51 hW (wf_215 hW ht) (by omega)) dX7_repeatSource_5 ?_
  refine cVi0 hC (c_X9_isInHand (we_51 hW (wf_215 hW ht) (by omega))) yv_X9_isInHand rfl (we_51 hW (wf_215 hW ht) (by omega)) mw_3_54 ⟨Nat.le_of_ble_eq_true rfl, Nat.le_of_ble_eq_true rfl⟩ ⟨Nat.le_of_ble_eq_true rfl, Nat.le_of_ble_eq_true rfl⟩ (Nat.le_of_ble_eq_true rfl) dX7_repeatSource_6 (fun r6 M8 hq => ?_)
  obtain ⟨hm, hq2⟩ := hq
  have hm2 := hm.symm
  clear hm
  subst hm2
  obtain ⟨g6, rfl⟩ | ⟨g6, rfl⟩ := hq2
  · rw [(hR.f4 hf).1] at g6
    refine v_if_ne hC dX7_repeatSource_9 (tgt := 15) (by decide) (fun _ => ?_) (fun hx => absurd hx (by decide))
    refine v_aload_n hC dX7_repeatSource_15 rfl rfl ?_
    refine gf_7_3 hC ht (wf_215 hW ht) mw_2_34 dX7_repeatSource_16 ?_
    refine v_iload_n hC dX7_repeatSource_19 rfl rfl ?_
    refine v_aald 51 _ hC (wf_215 hW ht) (by decide) rfl (ix_c (wz_51 hW (wf_215 hW ht)) (by omega)) (we_51 hW (wf_215 hW ht) (by omega)) dX7_repeatSource_20 ?_
    refine gf_9_6 hC (we_51 hW (wf_215 hW ht) (by omega)) (wf_250 hW (we_51 hW (wf_215 hW ht) (by omega))) mw_1_150 dX7_repeatSource_21 ?_
    refine v_iload_n hC dX7_repeatSource_24 rfl rfl ?_
    refine v_aald 52 _ hC (wf_250 hW (we_51 hW (wf_215 hW ht) (by omega))) (by decide) rfl (ix_c (wz_52 hW (wf_250 hW hF)) (by omega)) hG.1 dX7_repeatSource_25 ?_
    refine v_ast3 hC dX7_repeatSource_26 (by decide) (kk := ?_)
    refine v_aload_n hC dX7_repeatSource_27 rfl rfl ?_
    refine gf_7_3 hC ht (wf_215 hW ht) mw_2_34 dX7_repeatSource_28 ?_
    refine v_iload_n hC dX7_repeatSource_31 rfl rfl ?_
    refine v_aald 51 _ hC (wf_215 hW ht) (by decide) rfl (ix_c (wz_51 hW (wf_215 hW ht)) (by omega)) (we_51 hW (wf_215 hW ht) (by omega)) dX7_repeatSource_32 ?_
    refine v_aload_n hC dX7_repeatSource_33 rfl rfl ?_
    refine v_iload_n hC dX7_repeatSource_34 rfl rfl ?_
    refine cVi2 hC (c_X9_lastAlike hW hF (hR.fs hf) hG (by omega)) yv_X9_lastAlike rfl (we_51 hW (wf_215 hW ht) (by omega)) mw_3_55 ⟨Nat.le_of_ble_eq_true rfl, Nat.le_of_ble_eq_true rfl⟩ ⟨Nat.le_of_ble_eq_true rfl, Nat.le_of_ble_eq_true rfl⟩ (Nat.le_of_ble_eq_true rfl) dX7_repeatSource_35 (fun r35 M37 hq => ?_)
    obtain ⟨hl35, hm⟩ := hq
    have hm2 := hm.symm
    clear hm
    subst hm2
    refine v_ist4 hC dX7_repeatSource_38 (by decide) (kk := ?_)
    rw [Nat.min_eq_left (by omega)] at hl35
    rcases Lst.nr g6 hl35 with ⟨s0, q1, rfl, q2⟩ | ⟨q1, rfl⟩
    · refine v_iload hC dX7_repeatSource_40 rfl ?_
      refine v_bipush (v := (-5)) hC dX7_repeatSource_42 (by decide) ?_
      refine v_icmp_eq hC dX7_repeatSource_44 (tgt := 55) (by decide) (fun h44 => absurd h44 (ne5 (by omega))) (fun h44 => ?_)
      refine v_bipush (v := 100) hC dX7_repeatSource_47 (by decide) ?_
      refine v_iload_n hC dX7_repeatSource_49 rfl rfl ?_
      refine v_imul hC dX7_repeatSource_50 ?_
      refine v_iload hC dX7_repeatSource_51 rfl ?_
      refine v_iadd hC dX7_repeatSource_53 ?_
      refine v_iret hC dX7_repeatSource_54 ?_
      obtain ⟨p1, p2, p3, p4⟩ := plN_p hO hf
      exact ⟨by rw [nrv, if_pos g6, rpv, show oN u (plN u f) = f from by rw [oN, p3, nI_clamp (by omega)], limN, if_pos rfl, q1]; rfl, rfl⟩
    · refine v_iload hC dX7_repeatSource_40 rfl ?_
      refine v_bipush (v := (-5)) hC dX7_repeatSource_42 (by decide) ?_
      refine v_icmp_eq hC dX7_repeatSource_44 (tgt := 55) (by decide) (fun _ => ?_) (fun hx => absurd hx (by decide))
      refine v_aload_n hC dX7_repeatSource_55 rfl rfl ?_
      refine v_iload_n hC dX7_repeatSource_56 rfl rfl ?_
      refine cVi1 hC (c_X7_placeOf hW ht hR.2.2.2.1.1 hb) yv_X7_placeOf rfl ht mw_3_63 ⟨Nat.le_of_ble_eq_true rfl, Nat.le_of_ble_eq_true rfl⟩ ⟨Nat.le_of_ble_eq_true rfl, Nat.le_of_ble_eq_true rfl⟩ (Nat.le_of_ble_eq_true rfl) dX7_repeatSource_57 (fun r57 M59 hq => ?_)
      obtain ⟨hl57, hm⟩ := hq
      have hm2 := hm.symm
      clear hm
      subst hm2
      obtain ⟨p1, p2, p3, p4⟩ := plN_p hO hf
      have e57 := hl57.fs (p := plB u f) (fun j hj => by rw [hR.od hj]; exact ⟨fun q => decide_eq_true q, fun q => of_decide_eq_true q⟩)
      rw [p1] at e57
      rw [show r57 = nI (plN u f) from e57]
      refine v_iconst (v := 1) hC dX7_repeatSource_60 (by decide) ?_
      refine v_isub hC dX7_repeatSource_61 ?_
      refine v_ist5 hC dX7_repeatSource_62 (by decide) (kk := ?_)
      refine v_drop 4 ?_
      exact loop g6 p2 p4 9 (plN u f) (by omega) (Nat.le_refl _) (by rw [rpv, show oN u (plN u f) = f from by rw [oN, p3, nI_clamp (by omega)], limN, if_pos rfl, q1]; rfl)
  · rw [(hR.f4 hf).1] at g6
    refine v_if_ne hC dX7_repeatSource_9 (tgt := 15) (by decide) (fun hx => absurd hx (by decide)) (fun _ => ?_)
    refine v_bipush (v := (-5)) hC dX7_repeatSource_12 (by decide) ?_
    refine v_iret hC dX7_repeatSource_14 ?_
    exact ⟨(if_neg g6).symm, rfl⟩

set_option maxHeartbeats 4000000 in
set_option maxRecDepth 100000 in
theorem c_X7_bandOf {l : Launch} {G : Gd} {M : Me} {h f t : Nat} {u : Si} (hW : Wt M) (ht : m_t M h = 8) (hR : CR M h u) (hO : WfO u) (hf : f < n_f u) (hs : t < n_s u f) : CQ (Qi G (fun r M2 => r = bnd u f t ∧ Bw M M2)) l G yX7_bandOf cX7_bandOf 4 ((some .int)) 3 74 0 0 [.ref h, .int (nI f), .int (nI t)] M := by
  refine c_of ([some (.ref h), some (.int (nI f)), some (.int (nI t)), none] : Lo) RX7 "bandOf" (by decide) rfl rfl (Nat.le_of_ble_eq_true rfl) rfl (fun p e s m below meth c hC nw => ?_)
  have hb : n_f u ≤ 8 := hR.2.1.1
  have h12 := hR.2.1.2.2.2.2 f hf
  have hF : m_t M (pF M h f) = 10 := we_51 hW (wf_215 hW ht) (by omega)
  have hG : SgR M (m_r M 52 (m_r M 250 (pF M h f) 0) t) (q_g u 0 f t) := (hR.fs hf).2.2 t hs
  refine v_aload_n hC dX7_bandOf_0 rfl rfl ?_
  refine v_iload_n hC dX7_bandOf_1 rfl rfl ?_
  refine v_iload_n hC dX7_bandOf_2 rfl rfl ?_
  refine cVi2 hC (c_X7_repeatSource hW ht hR hO hf hs) yv_X7_repeatSource rfl ht mw_3_50 ⟨Nat.le_of_ble_eq_true rfl, Nat.le_of_ble_eq_true rfl⟩ ⟨Nat.le_of_ble_eq_true rfl, Nat.le_of_ble_eq_true rfl⟩ (Nat.le_of_ble_eq_true rfl) dX7_bandOf_3 (fun r3 M5 hq => ?_)
  obtain ⟨rfl, hm⟩ := hq
  have hm2 := hm.symm
  clear hm
  subst hm2
  refine v_bipush (v := (-5)) hC dX7_bandOf_6 (by decide) ?_
  refine v_icmp_eq hC dX7_bandOf_8 (tgt := 13) (by decide) (fun h8 => ?_) (fun h8 => ?_)
  · refine v_aload_n hC dX7_bandOf_13 rfl rfl ?_
    refine gf_7_6 hC ht (wf_218 hW ht) mw_2_40 dX7_bandOf_14 ?_
    refine v_aload_n hC dX7_bandOf_17 rfl rfl ?_
    refine gf_7_3 hC ht (wf_215 hW ht) mw_2_34 dX7_bandOf_18 ?_
    refine v_iload_n hC dX7_bandOf_21 rfl rfl ?_
    refine v_aald 51 _ hC (wf_215 hW ht) (by decide) rfl (ix_c (wz_51 hW (wf_215 hW ht)) (by omega)) (we_51 hW (wf_215 hW ht) (by omega)) dX7_bandOf_22 ?_
    refine gf_9_6 hC (we_51 hW (wf_215 hW ht) (by omega)) (wf_250 hW (we_51 hW (wf_215 hW ht) (by omega))) mw_1_150 dX7_bandOf_23 ?_
    refine v_iload_n hC dX7_bandOf_26 rfl rfl ?_
    refine v_aald 52 _ hC (wf_250 hW (we_51 hW (wf_215 hW ht) (by omega))) (by decide) rfl (ix_c (wz_52 hW (wf_250 hW hF)) (by omega)) hG.1 dX7_bandOf_27 ?_
    refine cVi1 hC (c_X4_bestMatch hW (wf_218 hW ht) hR.es hG) yv_X4_bestMatch rfl (wf_218 hW ht) mw_3_65 ⟨Nat.le_of_ble_eq_true rfl, Nat.le_of_ble_eq_true rfl⟩ ⟨Nat.le_of_ble_eq_true rfl, Nat.le_of_ble_eq_true rfl⟩ (Nat.le_of_ble_eq_true rfl) dX7_bandOf_28 (fun r28 M30 hq => ?_)
    obtain ⟨hr, ⟨b, rfl⟩, hk⟩ := hq
    have hr2 : r28 = mtv u f t := hr
    clear hr
    subst hr2
    refine v_ist3 hC dX7_bandOf_31 (by decide) (kk := ?_)
    refine v_iload_n hC dX7_bandOf_32 rfl rfl ?_
    refine v_bipush (v := 100) hC dX7_bandOf_33 (by decide) ?_
    refine v_icmp_ne hC dX7_bandOf_35 (tgt := 40) (by decide) (fun h35 => ?_) (fun h35 => ?_)
    · refine v_iload_n hC dX7_bandOf_40 rfl rfl ?_
      refine v_bipush (v := 85) hC dX7_bandOf_41 (by decide) ?_
      refine v_icmp_lt hC dX7_bandOf_43 (tgt := 48) (by decide) (fun h43 => ?_) (fun h43 => ?_)
      · refine v_iload_n hC dX7_bandOf_48 rfl rfl ?_
        refine v_bipush (v := 75) hC dX7_bandOf_49 (by decide) ?_
        refine v_icmp_lt hC dX7_bandOf_51 (tgt := 56) (by decide) (fun h51 => ?_) (fun h51 => ?_)
        · refine v_iload_n hC dX7_bandOf_56 rfl rfl ?_
          refine v_bipush (v := 50) hC dX7_bandOf_57 (by decide) ?_
          refine v_icmp_lt hC dX7_bandOf_59 (tgt := 66) (by decide) (fun h59 => ?_) (fun h59 => ?_)
          · refine v_iconst (v := 5) hC dX7_bandOf_66 (by decide) ?_
            refine v_iret hC dX7_bandOf_67 ?_
            exact ⟨by rw [bnd, if_neg (fun q => q h8), bdm, if_neg h35, if_neg (fun q => q h43), if_neg (fun q => q h51), if_neg (fun q => q h59)], ⟨b, rfl⟩, hk⟩
          · refine v_iconst (v := 4) hC dX7_bandOf_62 (by decide) ?_
            refine v_goto hC dX7_bandOf_63 (tgt := 67) (by decide) ?_
            refine v_iret hC dX7_bandOf_67 ?_
            exact ⟨by rw [bnd, if_neg (fun q => q h8), bdm, if_neg h35, if_neg (fun q => q h43), if_neg (fun q => q h51), if_pos h59], ⟨b, rfl⟩, hk⟩
        · refine v_iconst (v := 3) hC dX7_bandOf_54 (by decide) ?_
          refine v_iret hC dX7_bandOf_55 ?_
          exact ⟨by rw [bnd, if_neg (fun q => q h8), bdm, if_neg h35, if_neg (fun q => q h43), if_pos h51], ⟨b, rfl⟩, hk⟩
      · refine v_iconst (v := 2) hC dX7_bandOf_46 (by decide) ?_
        refine v_iret hC dX7_bandOf_47 ?_
        exact ⟨by rw [bnd, if_neg (fun q => q h8), bdm, if_neg h35, if_pos h43], ⟨b, rfl⟩, hk⟩
    · refine v_iconst (v := 1) hC dX7_bandOf_38 (by decide) ?_
      refine v_iret hC dX7_bandOf_39 ?_
      exact ⟨by rw [bnd, if_neg (fun q => q h8), bdm, if_pos h35], ⟨b, rfl⟩, hk⟩
  · refine v_iconst (v := 0) hC dX7_bandOf_11 (by decide) ?_
    refine v_iret hC dX7_bandOf_12 ?_
    exact ⟨(if_pos h8).symm, Bw.rf⟩

set_option maxHeartbeats 4000000 in
set_option maxRecDepth 100000 in
theorem c_X7_sumBandWords {l : Launch} {G : Gd} {M : Me} {h f : Nat} {u : Si} (hW : Wt M) (ht : m_t M h = 8) (hR : CR M h u) (hO : WfO u) (hf : f < n_f u) : CQ (Qv G (fun M2 => Bx M M2 ∧ ∀ b, b < 6 → m_i M2 22 (m_r M2 219 h 0) b = wbn u f b)) l G yX7_sumBandWords cX7_sumBandWords 3 (none) 4 97 0 0 [.ref h, .int (nI f)] M := by
  refine c_of ([some (.ref h), some (.int (nI f)), none] : Lo) RX7 "sumBandWords" (by decide) rfl rfl (Nat.le_of_ble_eq_true rfl) rfl (fun p e s m below meth c hC nw => ?_)
  have hR0 := hR
  have hb : n_f u ≤ 8 := hR.2.1.1
  have h12 := hR.2.1.2.2.2.2 f hf
  have hF : m_t M (pF M h f) = 10 := we_51 hW (wf_215 hW ht) (by omega)
  have loopB : ∀ (k i : Nat) (M1 : Me), i + k = 13 → i ≤ n_s u f → Bx M M1 → (∀ b, b < 6 → m_i M1 22 (m_r M1 219 h 0) b = sm (wbF u f b) i) → V p l e (rmk 4 97 0 0) s m ([.ref h, .int (nI f)] : List Value).toArray below meth c 3 G (MQ below (Qv G (fun M2 => Bx M M2 ∧ ∀ b, b < 6 → m_i M2 22 (m_r M2 219 h 0) b = wbn u f b)) ([.ref h, .int (nI f)] : List Value).toArray s 0 0 (fr_ G)) M1 0 0 23 ([some (.ref h), some (.int (nI f)), some (.int (nI i))] : Lo) [] := by
    intro k
    induction k with
    | zero => intro i M1 e1 e2; omega
    | succ k ih =>
      intro i M1 e1 e2 hB hr
      obtain ⟨b, rfl⟩ := hB
      have hW : Wt (s_c M b) := hW
      have ht : m_t (s_c M b) h = 8 := ht
      have hR : CR (s_c M b) h u := hR0.sc
      have hF : m_t (s_c M b) (pF (s_c M b) h f) = 10 := hF
      refine v_iload_n hC dX7_sumBandWords_23 rfl rfl ?_
      refine v_aload_n hC dX7_sumBandWords_24 rfl rfl ?_
      refine gf_7_3 hC ht (wf_215 hW ht) mw_2_34 dX7_sumBandWords_25 ?_
      refine v_iload_n hC dX7_sumBandWords_28 rfl rfl ?_
      refine v_aald 51 _ hC (wf_215 hW ht) (by decide) rfl (ix_c (wz_51 hW (wf_215 hW ht)) (by omega)) (we_51 hW (wf_215 hW ht) (by omega)) dX7_sumBandWords_29 ?_
      refine gf_9_5 hC (we_51 hW (wf_215 hW ht) (by omega)) mw_1_145 dX7_sumBandWords_30 ?_
      rw [(hR.fs hf).2.1]
      refine v_icmp_ge hC dX7_sumBandWords_33 (tgt := 70) (by decide) (fun h33 => ?_) (fun h33 => ?_)
      · have hi := lp_ge h33
        refine v_vret hC dX7_sumBandWords_70 ?_
        have hie : i = n_s u f := by omega
        subst hie
        exact ⟨⟨b, rfl⟩, hr⟩
      · have hi := lp_lt h33
        refine v_aload_n hC dX7_sumBandWords_36 rfl rfl ?_
        refine gf_7_7 hC ht (wf_219 hW ht) mw_2_42 dX7_sumBandWords_37 ?_
        refine v_aload_n hC dX7_sumBandWords_40 rfl rfl ?_
        refine v_iload_n hC dX7_sumBandWords_41 rfl rfl ?_
        refine v_iload_n hC dX7_sumBandWords_42 rfl rfl ?_
        refine cVi2 hC (c_X7_bandOf hW ht hR hO hf hi) yv_X7_bandOf rfl ht mw_3_46 ⟨Nat.le_of_ble_eq_true rfl, Nat.le_of_ble_eq_true rfl⟩ ⟨Nat.le_of_ble_eq_true rfl, Nat.le_of_ble_eq_true rfl⟩ (Nat.le_of_ble_eq_true rfl) dX7_sumBandWords_43 (fun r43 M45 hq => ?_)
        obtain ⟨rfl, hB2, hk2⟩ := hq
        obtain ⟨b2, rfl⟩ := Bx.tr ⟨b, rfl⟩ hB2
        obtain ⟨x, hx6, ex⟩ := bnd_b u f i
        rw [ex]
        have hW : Wt (s_c M b2) := hW
        have ht : m_t (s_c M b2) h = 8 := ht
        have hR : CR (s_c M b2) h u := hR0.sc
        have hF : m_t (s_c M b2) (pF (s_c M b2) h f) = 10 := hF
        refine v_dup2 hC dX7_sumBandWords_46 rfl rfl ?_
        refine v_iald 22 hC (wf_219 hW ht) (by decide) (by decide) (ix_c (wz_22 hW (wf_219 hW ht)) (by omega)) dX7_sumBandWords_47 ?_
        rw [hk2, hr x hx6]
        refine v_aload_n hC dX7_sumBandWords_48 rfl rfl ?_
        refine gf_7_3 hC ht (wf_215 hW ht) mw_2_34 dX7_sumBandWords_49 ?_
        refine v_iload_n hC dX7_sumBandWords_52 rfl rfl ?_
        refine v_aald 51 _ hC (wf_215 hW ht) (by decide) rfl (ix_c (wz_51 hW (wf_215 hW ht)) (by omega)) (we_51 hW (wf_215 hW ht) (by omega)) dX7_sumBandWords_53 ?_
        refine gf_9_6 hC (we_51 hW (wf_215 hW ht) (by omega)) (wf_250 hW (we_51 hW (wf_215 hW ht) (by omega))) mw_1_150 dX7_sumBandWords_54 ?_
        refine v_iload_n hC dX7_sumBandWords_57 rfl rfl ?_
        refine v_aald 52 _ hC (wf_250 hW (we_51 hW (wf_215 hW ht) (by omega))) (by decide) rfl (ix_c (wz_52 hW (wf_250 hW hF)) (by omega)) ((hR.fs hf).2.2 i hi).1 dX7_sumBandWords_58 ?_
        refine gf_6_2 hC ((hR.fs hf).2.2 i hi).1 mw_1_52 dX7_sumBandWords_59 ?_
        rw [((hR.fs hf).2.2 i hi).2.2.1]
        refine v_iadd hC dX7_sumBandWords_62 ?_
        refine v_iast 22 hC (wf_219 hW ht) (by decide) (by decide) (ix_c (wz_22 hW (wf_219 hW ht)) (by omega)) dX7_sumBandWords_63 ?_
        refine v_inc2 hC dX7_sumBandWords_64 ((nI_succ i).symm) (by decide) (kk := ?_)
        refine v_goto hC dX7_sumBandWords_67 (tgt := 23) (by decide) ?_
        refine ih (i + 1) _ (by omega) (by omega) (Bx.tr ⟨b2, rfl⟩ (Bx.si (Or.inl rfl))) (fun b3 h3 => ?_)
        refine i_sj.trans ?_
        rw [sm_s]
        by_cases q : b3 = x
        · rw [if_pos q, q, wbF, if_pos ex]
        · rw [if_neg q, hk2]
          rw [show wbF u f b3 i = 0 from if_neg (fun w => q ((nI_eq (by omega) (by omega)).mp (w.symm.trans ex))), Int32.add_zero]
          exact hr b3 h3
  have loopA : ∀ (k i : Nat) (M1 : Me), i + k = 7 → i ≤ 6 → Bx M M1 → (∀ j, j < i → m_i M1 22 (m_r M1 219 h 0) j = 0) → V p l e (rmk 4 97 0 0) s m ([.ref h, .int (nI f)] : List Value).toArray below meth c 3 G (MQ below (Qv G (fun M2 => Bx M M2 ∧ ∀ b, b < 6 → m_i M2 22 (m_r M2 219 h 0) b = wbn u f b)) ([.ref h, .int (nI f)] : List Value).toArray s 0 0 (fr_ G)) M1 0 0 2 ([some (.ref h), some (.int (nI f)), some (.int (nI i))] : Lo) [] := by
    intro k
    induction k with
    | zero => intro i M1 e1 e2; omega
    | succ k ih =>
      intro i M1 e1 e2 hB hr
      obtain ⟨b, rfl⟩ := hB
      have hW : Wt (s_c M b) := hW
      have ht : m_t (s_c M b) h = 8 := ht
      have hR : CR (s_c M b) h u := hR0.sc
      have hF : m_t (s_c M b) (pF (s_c M b) h f) = 10 := hF
      refine v_iload_n hC dX7_sumBandWords_2 rfl rfl ?_
      refine v_bipush (v := 6) hC dX7_sumBandWords_3 (by decide) ?_
      refine v_icmp_ge hC dX7_sumBandWords_5 (tgt := 21) (by decide) (fun h5 => ?_) (fun h5 => ?_)
      · refine v_iconst (v := 0) hC dX7_sumBandWords_21 (by decide) ?_
        refine v_ist2 hC dX7_sumBandWords_22 (by decide) (kk := ?_)
        exact loopB 13 0 _ (by omega) (by omega) ⟨b, rfl⟩ (fun b3 h3 => hr b3 (by have := lp_ge (N := 6) h5; omega))
      · have hi := lp_lt (N := 6) h5
        refine v_aload_n hC dX7_sumBandWords_8 rfl rfl ?_
        refine gf_7_7 hC ht (wf_219 hW ht) mw_2_42 dX7_sumBandWords_9 ?_
        refine v_iload_n hC dX7_sumBandWords_12 rfl rfl ?_
        refine v_iconst (v := 0) hC dX7_sumBandWords_13 (by decide) ?_
        refine v_iast 22 hC (wf_219 hW ht) (by decide) (by decide) (ix_c (wz_22 hW (wf_219 hW ht)) (by omega)) dX7_sumBandWords_14 ?_
        refine v_inc2 hC dX7_sumBandWords_15 ((nI_succ i).symm) (by decide) (kk := ?_)
        refine v_goto hC dX7_sumBandWords_18 (tgt := 2) (by decide) ?_
        refine ih (i + 1) _ (by omega) (by omega) (Bx.tr ⟨b, rfl⟩ (Bx.si (Or.inl rfl))) (fun j hj => ?_)
        refine i_sj.trans ?_
        by_cases q : j = i
        · rw [if_pos q]
        · rw [if_neg q]; exact hr j (by omega)
  refine v_iconst (v := 0) hC dX7_sumBandWords_0 (by decide) ?_
  refine v_ist2 hC dX7_sumBandWords_1 (by decide) (kk := ?_)
  exact loopA 7 0 M (by omega) (by omega) Bx.rf (fun j hj => absurd hj (Nat.not_lt_zero j))

set_option maxHeartbeats 4000000 in
set_option maxRecDepth 100000 in
theorem c_X7_priceFor {l : Launch} {G : Gd} {M : Me} {h f : Nat} {u : Si} {y : Int32} (hW : Wt M) (ht : m_t M h = 8) (hR : CR M h u) (hO : WfO u) (hf : f < n_f u) : CQ (Qi G (fun r M2 => r = prc u f y ∧ Bx M M2)) l G yX7_priceFor cX7_priceFor 5 ((some .int)) 5 119 0 0 [.ref h, .int (nI f), .int y] M := by
  refine c_of ([some (.ref h), some (.int (nI f)), some (.int y), none, none] : Lo) RX7 "priceFor" (by decide) rfl rfl (Nat.le_of_ble_eq_true rfl) rfl (fun p e s m below meth c hC nw => ?_)
  have hR0 := hR
  have hb : n_f u ≤ 8 := hR.2.1.1
  have h12 := hR.2.1.2.2.2.2 f hf
  have hF : m_t M (pF M h f) = 10 := we_51 hW (wf_215 hW ht) (by omega)
  have loop : ∀ (b : Nat → Nat → Nat → Int32), (∀ j, j < 6 → m_i (s_c M b) 22 (m_r (s_c M b) 219 h 0) j = wbn u f j) → ∀ (k i : Nat), i + k = 7 → i ≤ 6 → V p l e (rmk 5 119 0 0) s m ([.ref h, .int (nI f), .int y] : List Value).toArray below meth c 5 G (MQ below (Qi G (fun r M2 => r = prc u f y ∧ Bx M M2)) ([.ref h, .int (nI f), .int y] : List Value).toArray s 0 0 (fr_ G)) (s_c M b) 0 0 10 ([some (.ref h), some (.int (nI f)), some (.int y), some (.int (sm (fun b => wbn u f b * y * q_i u 0 0 b / 100) i)), some (.int (nI i))] : Lo) [] := by
    intro b hw
    have hW : Wt (s_c M b) := hW
    have ht : m_t (s_c M b) h = 8 := ht
    have hR : CR (s_c M b) h u := hR0.sc
    have hF : m_t (s_c M b) (pF (s_c M b) h f) = 10 := hF
    intro k
    induction k with
    | zero => intro i e1 e2; omega
    | succ k ih =>
      intro i e1 e2
      refine v_iload hC dX7_priceFor_10 rfl ?_
      refine v_bipush (v := 6) hC dX7_priceFor_12 (by decide) ?_
      refine v_icmp_ge hC dX7_priceFor_14 (tgt := 46) (by decide) (fun h14 => ?_) (fun h14 => ?_)
      · refine v_iload_n hC dX7_priceFor_46 rfl rfl ?_
        refine v_iret hC dX7_priceFor_47 ?_
        have hie : i = 6 := by have := lp_ge (N := 6) h14; omega
        subst hie
        exact ⟨rfl, ⟨b, rfl⟩⟩
      · have hi := lp_lt (N := 6) h14
        refine v_iload_n hC dX7_priceFor_17 rfl rfl ?_
        refine v_aload_n hC dX7_priceFor_18 rfl rfl ?_
        refine gf_7_7 hC ht (wf_219 hW ht) mw_2_42 dX7_priceFor_19 ?_
        refine v_iload hC dX7_priceFor_22 rfl ?_
        refine v_iald 22 hC (wf_219 hW ht) (by decide) (by decide) (ix_c (wz_22 hW (wf_219 hW ht)) (by omega)) dX7_priceFor_24 ?_
        rw [hw i hi]
        refine v_iload_n hC dX7_priceFor_25 rfl rfl ?_
        refine v_imul hC dX7_priceFor_26 ?_
        refine v_aload_n hC dX7_priceFor_27 rfl rfl ?_
        refine gf_7_0 hC ht (wf_212 hW ht) mw_2_28 dX7_priceFor_28 ?_
        refine v_iload hC dX7_priceFor_31 rfl ?_
        refine v_iald 20 hC (wf_212 hW ht) (by decide) (by decide) (ix_c (wz_20 hW (wf_212 hW ht)) (by omega)) dX7_priceFor_33 ?_
        rw [hR.sh hi]
        refine v_imul hC dX7_priceFor_34 ?_
        refine v_bipush (v := 100) hC dX7_priceFor_35 (by decide) ?_
        refine v_idiv hC dX7_priceFor_37 (by decide) ?_
        refine v_iadd hC dX7_priceFor_38 ?_
        refine v_ist3 hC dX7_priceFor_39 (by decide) (kk := ?_)
        refine v_inc4 hC dX7_priceFor_40 ((nI_succ i).symm) (by decide) (kk := ?_)
        refine v_goto hC dX7_priceFor_43 (tgt := 10) (by decide) ?_
        exact ih (i + 1) (by omega) (by omega)
  refine v_aload_n hC dX7_priceFor_0 rfl rfl ?_
  refine v_iload_n hC dX7_priceFor_1 rfl rfl ?_
  refine cVv1 hC (c_X7_sumBandWords hW ht hR hO hf) yv_X7_sumBandWords rfl ht mw_3_42 ⟨Nat.le_of_ble_eq_true rfl, Nat.le_of_ble_eq_true rfl⟩ ⟨Nat.le_of_ble_eq_true rfl, Nat.le_of_ble_eq_true rfl⟩ (Nat.le_of_ble_eq_true rfl) dX7_priceFor_2 (fun M4 hq => ?_)
  obtain ⟨⟨b, rfl⟩, hw⟩ := hq
  have hW : Wt (s_c M b) := hW
  have ht : m_t (s_c M b) h = 8 := ht
  have hR : CR (s_c M b) h u := hR0.sc
  have hF : m_t (s_c M b) (pF (s_c M b) h f) = 10 := hF
  refine v_iconst (v := 0) hC dX7_priceFor_5 (by decide) ?_
  refine v_ist3 hC dX7_priceFor_6 (by decide) (kk := ?_)
  refine v_iconst (v := 0) hC dX7_priceFor_7 (by decide) ?_
  refine v_ist4 hC dX7_priceFor_8 (by decide) (kk := ?_)
  exact loop b hw 7 0 (by omega) (by omega)
