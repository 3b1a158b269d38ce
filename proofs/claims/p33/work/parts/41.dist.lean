theorem lp_gt {i N : Nat} (h : nI N < nI i) (hN : N < 2 ^ 31 := by omega) (hi : i < 2 ^ 31 := by omega) : N < i := (nI_ltI hN hi).mp h
theorem lp_ng {i N : Nat} (h : ¬ nI N < nI i) (hi : i < 2 ^ 31 := by omega) : i ≤ N := Nat.not_lt.mp fun q => h (nI_lt q hi)
/-! the distance: of the first l words of one and the first c of the other -/
def dmr (p : Nat → Nat) (e : Nat → Bool) (l : Nat) : Nat → Nat
  | 0 => l + 1
  | c + 1 => if e c = true then p c else 1 + min (min (p c) (p (c + 1))) (dmr p e l c)
def dm (e : Nat → Nat → Bool) : Nat → Nat → Nat
  | 0 => fun c => c
  | l + 1 => dmr (dm e l) (e l) l
theorem dm_0 (e : Nat → Nat → Bool) (c : Nat) : dm e 0 c = c := rfl
theorem dm_s0 (e : Nat → Nat → Bool) (l : Nat) : dm e (l + 1) 0 = l + 1 := rfl
theorem dm_l0 (e : Nat → Nat → Bool) (l : Nat) : dm e l 0 = l := by cases l <;> rfl
theorem dm_t {e : Nat → Nat → Bool} {l c : Nat} (h : e l c = true) : dm e (l + 1) (c + 1) = dm e l c := if_pos h
theorem dm_f {e : Nat → Nat → Bool} {l c : Nat} (h : ¬ e l c = true) : dm e (l + 1) (c + 1) = 1 + min (min (dm e l c) (dm e l (c + 1))) (dm e (l + 1) c) := if_neg h
theorem dm_le (e : Nat → Nat → Bool) : ∀ l c : Nat, dm e l c ≤ l + c := by
  intro l
  induction l with
  | zero => intro c; rw [dm_0]; omega
  | succ l ih =>
    intro c
    induction c with
    | zero => rw [dm_s0]; omega
    | succ c ihc =>
      by_cases h : e l c = true
      · rw [dm_t h]; have := ih c; omega
      · rw [dm_f h]; have := ih c; omega
theorem dm_row (e : Nat → Nat → Bool) : ∀ l : Nat, (∀ c, dm e l c ≤ dm e l (c + 1) + 1 ∧ dm e l (c + 1) ≤ dm e l c + 1) ∧ ∀ c, dm e l c ≤ dm e (l + 1) c + 1 ∧ dm e (l + 1) c ≤ dm e l c + 1 := by
  have st : ∀ l : Nat, (∀ c, dm e l c ≤ dm e l (c + 1) + 1 ∧ dm e l (c + 1) ≤ dm e l c + 1) → (∀ c, (dm e l c ≤ dm e (l + 1) c + 1 ∧ dm e (l + 1) c ≤ dm e l c + 1) ∧ dm e (l + 1) c ≤ dm e (l + 1) (c + 1) + 1 ∧ dm e (l + 1) (c + 1) ≤ dm e (l + 1) c + 1) := by
    intro l hl c
    induction c with
    | zero =>
      have h0 := dm_l0 e l
      have h1 := hl 0
      have h2 := dm_s0 e l
      by_cases h : e l 0 = true
      · have := dm_t h; omega
      · have := dm_f h; omega
    | succ c ih =>
      have h1 := hl c
      have h2 := hl (c + 1)
      have q1 : dm e l (c + 1) ≤ dm e (l + 1) (c + 1) + 1 ∧ dm e (l + 1) (c + 1) ≤ dm e l (c + 1) + 1 := by
        by_cases h : e l c = true
        · have := dm_t h; omega
        · have := dm_f h; omega
      refine ⟨q1, ?_⟩
      by_cases h : e l (c + 1) = true
      · have := dm_t h; omega
      · have := dm_f h; omega
  intro l
  induction l with
  | zero =>
    have b : ∀ c, dm e 0 c ≤ dm e 0 (c + 1) + 1 ∧ dm e 0 (c + 1) ≤ dm e 0 c + 1 := fun c => by rw [dm_0, dm_0]; omega
    exact ⟨b, fun c => (st 0 b c).1⟩
  | succ l ih =>
    have b : ∀ c, dm e (l + 1) c ≤ dm e (l + 1) (c + 1) + 1 ∧ dm e (l + 1) (c + 1) ≤ dm e (l + 1) c + 1 := fun c => (st l ih.1 c).2
    exact ⟨b, fun c => (st (l + 1) b c).1⟩
/-- the same as the least of three -/
theorem dm_3 (e : Nat → Nat → Bool) (l c : Nat) : dm e (l + 1) (c + 1) = min (min (dm e l (c + 1) + 1) (dm e (l + 1) c + 1)) (dm e l c + (if e l c = true then 0 else 1)) := by
  have h1 := (dm_row e l).1 c
  have h2 := (dm_row e l).2 c
  by_cases h : e l c = true
  · rw [dm_t h, if_pos h]; omega
  · rw [dm_f h, if_neg h]; omega
def eqW (s1 s2 : Sg) (l c : Nat) : Bool := decide (s1.getD l [] = s2.getD c [])
def dst (s1 s2 : Sg) : Nat := dm (eqW s1 s2) s1.length s2.length
/-! scratch numbers: the measure's row (23) and the words by bands (22) -/
def s_c (M : Me) (b : Nat → Nat → Nat → Int32) : Me := (M.1, M.2.1, M.2.2.1, fun k a j => if k = 22 ∨ k = 23 then b k a j else M.2.2.2.1 k a j, M.2.2.2.2)
def Bx (M M2 : Me) : Prop := ∃ b, M2 = s_c M b
theorem me_ext {n : Nat} {t z : Nat → Nat} {i i2 : Nat → Nat → Nat → Int32} {l : Nat → Nat → Nat → Int64} {r : Nat → Nat → Nat → Nat} (h : ∀ k a j, i k a j = i2 k a j) : ((n, t, z, i, l, r) : Me) = (n, t, z, i2, l, r) := by
  have : i = i2 := funext fun k => funext fun a => funext fun j => h k a j
  rw [this]
theorem Bx.rf {M : Me} : Bx M M := ⟨M.2.2.2.1, me_ext (fun k a j => (ite_self _).symm)⟩
theorem Bx.tr {M M2 M3 : Me} (h : Bx M M2) (h2 : Bx M2 M3) : Bx M M3 := by
  obtain ⟨b, rfl⟩ := h
  obtain ⟨b2, rfl⟩ := h2
  exact ⟨b2, me_ext (fun k a j => by
    show (if k = 22 ∨ k = 23 then b2 k a j else if k = 22 ∨ k = 23 then b k a j else M.2.2.2.1 k a j) = _
    by_cases q : k = 22 ∨ k = 23
    · rw [if_pos q, if_pos q]
    · rw [if_neg q, if_neg q, if_neg q])⟩
theorem Bx.si {M : Me} {k x i : Nat} {v : Int32} (hk : k = 22 ∨ k = 23) : Bx M (s_i M k x i v) := ⟨(s_i M k x i v).2.2.2.1, me_ext (fun k2 a j => by
  show (if k2 = k ∧ a = x ∧ j = i then v else M.2.2.2.1 k2 a j) = if k2 = 22 ∨ k2 = 23 then (if k2 = k ∧ a = x ∧ j = i then v else M.2.2.2.1 k2 a j) else M.2.2.2.1 k2 a j
  by_cases q : k2 = 22 ∨ k2 = 23
  · rw [if_pos q]
  · rw [if_neg q, if_neg (fun w => q (by rw [w.1]; exact hk))])⟩
theorem sc_i {M : Me} {b : Nat → Nat → Nat → Int32} {k a j : Nat} (h : ¬ (k = 22 ∨ k = 23)) : m_i (s_c M b) k a j = m_i M k a j := if_neg h
theorem Wt.sc {M : Me} {b : Nat → Nat → Nat → Int32} (h : Wt M) : Wt (s_c M b) := h
theorem SgR.sc {M : Me} {b : Nat → Nat → Nat → Int32} {a : Nat} {g : Sg} (h : SgR M a g) : SgR (s_c M b) a g := by
  obtain ⟨a1, a2, a3, a4, a5, a6⟩ := h
  exact ⟨a1, a2, by rw [sc_i (by decide)]; exact a3, a4, a5, fun i hi => by rw [sc_i (by decide)]; exact a6 i hi⟩
theorem cK_sc {k : Nat} (h : k ≤ 17) : ¬ (cK k = 22 ∨ cK k = 23) := by
  have : ∀ k : Fin 18, ¬ (cK k.1 = 22 ∨ cK k.1 = 23) := by decide
  exact this ⟨k, by omega⟩
theorem CR.sc {M : Me} {b : Nat → Nat → Nat → Int32} {S : Nat} {u : Si} (h : CR M S u) : CR (s_c M b) S u := by
  obtain ⟨h1, h2, h3, ⟨h4, h5, h6, h7⟩, h8, h9, h10⟩ := h
  exact ⟨h1, h2, fun k a j q => by rw [sc_i (cK_sc (q.cp h2).le)]; exact h3 k a j q, ⟨by rw [sc_i (by decide)]; exact h4, by rw [sc_i (by decide)]; exact h5, by rw [sc_i (by decide)]; exact h6, by rw [sc_i (by decide)]; exact h7⟩, fun f hf => by rw [sc_i (by decide)]; exact h8 f hf, fun f s hf hs => (h9 f s hf hs).sc, fun e he => (h10 e he).sc⟩
theorem i_sj {M : Me} {k a j : Nat} {v : Int32} {i : Nat} : m_i (s_i M k a j v) k a i = if i = j then v else m_i M k a i := by
  by_cases q : i = j
  · rw [if_pos q]; exact if_pos ⟨rfl, rfl, q⟩
  · rw [if_neg q]; exact if_neg (fun w => q w.2.2)
theorem SgR.len {M : Me} {a : Nat} {g : Sg} (h : SgR M a g) : 1 ≤ g.length ∧ g.length ≤ 8 := ⟨h.2.1.1, h.2.1.2.1⟩
/-- the measure's row alone -/
def Bw (M M2 : Me) : Prop := Bx M M2 ∧ ∀ a j, m_i M2 22 a j = m_i M 22 a j
theorem Bw.rf {M : Me} : Bw M M := ⟨Bx.rf, fun _ _ => rfl⟩
theorem Bw.tr {M M2 M3 : Me} (h : Bw M M2) (h2 : Bw M2 M3) : Bw M M3 := ⟨h.1.tr h2.1, fun a j => (h2.2 a j).trans (h.2 a j)⟩
theorem Bw.si {M : Me} {x i : Nat} {v : Int32} : Bw M (s_i M 23 x i v) := ⟨Bx.si (Or.inr rfl), fun a j => i_sk (by decide)⟩
set_option maxHeartbeats 4000000 in
set_option maxRecDepth 100000 in
theorem c_X3_between {l : Launch} {G : Gd} {M : Me} {h a g : Nat} {s1 s2 : Sg} (hW : Wt M) (ht : m_t M h = 4) (h1 : SgR M a s1) (h2 : SgR M g s2) : CQ (Qi G (fun r M2 => r = nI (dst s1 s2) ∧ Bw M M2)) l G yX3_between cX3_between 7 ((some .int)) 0 0 0 0 [.ref h, .ref a, .ref g] M := by
  refine c_of ([some (.ref h), some (.ref a), some (.ref g), none, none, none, none] : Lo) RX3 "between" (by decide) rfl rfl (Nat.le_of_ble_eq_true rfl) rfl (fun p e s m below meth c hC nw => ?_)
  obtain ⟨b1, b2⟩ := h1.len
  obtain ⟨b3, b4⟩ := h2.len
  have loopC : ∀ (w : Nat), w < s1.length → (∀ M1 : Me, Bw M M1 → (∀ j, j ≤ s2.length → m_i M1 23 (m_r M1 148 h 0) j = nI (dm (eqW s1 s2) (w + 1) j)) → V p l e (rmk 0 0 0 0) s m ([.ref h, .ref a, .ref g] : List Value).toArray below meth c 7 G (MQ below (Qi G (fun r M2 => r = nI (dst s1 s2) ∧ Bw M M2)) ([.ref h, .ref a, .ref g] : List Value).toArray s 0 0 (fr_ G)) M1 0 0 158 ([some (.ref h), some (.ref a), some (.ref g), some (.int (nI (w + 1))), none, none, none] : Lo) []) → ∀ (k v : Nat) (M1 : Me), v + k = 9 → v ≤ s2.length → Bw M M1 → (∀ j, j ≤ v → m_i M1 23 (m_r M1 148 h 0) j = nI (dm (eqW s1 s2) (w + 1) j)) → (∀ j, v < j → j ≤ s2.length → m_i M1 23 (m_r M1 148 h 0) j = nI (dm (eqW s1 s2) w j)) → V p l e (rmk 0 0 0 0) s m ([.ref h, .ref a, .ref g] : List Value).toArray below meth c 7 G (MQ below (Qi G (fun r M2 => r = nI (dst s1 s2) ∧ Bw M M2)) ([.ref h, .ref a, .ref g] : List Value).toArray s 0 0 (fr_ G)) M1 0 0 51 ([some (.ref h), some (.ref a), some (.ref g), some (.int (nI (w + 1))), some (.int (nI (dm (eqW s1 s2) w v))), some (.int (nI (v + 1))), none] : Lo) [] := by
    intro w hl cont k
    induction k with
    | zero => intro v M1 e1 e2; omega
    | succ k ih =>
      intro v M1 e1 e2 hB hr hr2
      obtain ⟨⟨b, rfl⟩, hk⟩ := hB
      have hW : Wt (s_c M b) := hW.sc
      have ht : m_t (s_c M b) h = 4 := ht
      have h1 : SgR (s_c M b) a s1 := h1.sc
      have h2 : SgR (s_c M b) g s2 := h2.sc
      have u1 := dm_le (eqW s1 s2) w v
      have u2 := dm_le (eqW s1 s2) w (v + 1)
      have u3 := dm_le (eqW s1 s2) (w + 1) v
      refine v_iload hC dX3_between_51 rfl ?_
      refine v_aload_n hC dX3_between_53 rfl rfl ?_
      refine gf_6_2 hC h2.1 mw_1_50 dX3_between_54 ?_
      rw [h2.2.2.1]
      refine v_icmp_gt hC dX3_between_57 (tgt := 158) (by decide) (fun h57 => ?_) (fun h57 => ?_)
      · have k57 := lp_gt h57
        refine v_drop 4 (v_drop 5 (v_drop 6 ?_))
        have hcm : v = s2.length := by omega
        exact cont _ ⟨⟨b, rfl⟩, hk⟩ (fun j hj => hr j (by omega))
      · have k57 := lp_ng h57
        have hc9 : v < s2.length := by omega
        refine v_iload hC dX3_between_60 rfl ?_
        refine v_ist6 hC dX3_between_62 (by decide) (kk := ?_)
        refine v_aload_n hC dX3_between_64 rfl rfl ?_
        refine gf_3_0 hC ht (wf_148 hW ht) mw_1_29 dX3_between_65 ?_
        refine v_iload hC dX3_between_68 rfl ?_
        refine v_iald 23 hC (wf_148 hW ht) (by decide) (by decide) (ix_c (wz_23 hW (wf_148 hW ht)) (by omega)) dX3_between_70 ?_
        rw [hr2 (v + 1) (by omega) (by omega)]
        refine v_ist4 hC dX3_between_71 (by decide) (kk := ?_)
        refine v_aload_n hC dX3_between_73 rfl rfl ?_
        refine gf_6_1 hC h1.1 (wf_197 hW h1.1) mw_1_48 dX3_between_74 ?_
        refine v_iload_n hC dX3_between_77 rfl rfl ?_
        refine v_iconst (v := 1) hC dX3_between_78 (by decide) ?_
        refine v_isub hC dX3_between_79 ?_
        refine v_lald 30 hC (wf_197 hW h1.1) (by decide) (by decide) (ix_q (j := w) (wz_30 hW (wf_197 hW h1.1)) (nI_pred w) (by omega)) dX3_between_80 ?_
        rw [h1.2.2.2.1 w hl]
        refine v_aload_n hC dX3_between_81 rfl rfl ?_
        refine gf_6_1 hC h2.1 (wf_197 hW h2.1) mw_1_48 dX3_between_82 ?_
        refine v_iload hC dX3_between_85 rfl ?_
        refine v_iconst (v := 1) hC dX3_between_87 (by decide) ?_
        refine v_isub hC dX3_between_88 ?_
        refine v_lald 30 hC (wf_197 hW h2.1) (by decide) (by decide) (ix_q (j := v) (wz_30 hW (wf_197 hW h2.1)) (nI_pred v) (by omega)) dX3_between_89 ?_
        rw [h2.2.2.2.1 v hc9]
        refine v_lcmp hC dX3_between_90 ?_
        refine v_if_eq hC dX3_between_91 (tgt := 143) (by decide) (fun h91 => ?_) (fun h91 => ?_)
        · have h91 := w32_inj (h1.2.1.at hl) (h2.2.1.at hc9) ((lg_cmp_eq _ _).mp h91)
          refine v_aload_n hC dX3_between_143 rfl rfl ?_
          refine gf_3_0 hC ht (wf_148 hW ht) mw_1_29 dX3_between_144 ?_
          refine v_iload hC dX3_between_147 rfl ?_
          refine v_iload hC dX3_between_149 rfl ?_
          refine v_iast 23 hC (wf_148 hW ht) (by decide) (by decide) (ix_c (wz_23 hW (wf_148 hW ht)) (by omega)) dX3_between_151 ?_
          refine v_inc5 hC dX3_between_152 ((nI_succ (v + 1)).symm) (by decide) (kk := ?_)
          refine v_goto hC dX3_between_155 (tgt := 51) (by decide) ?_
          refine v_drop 6 ?_
          refine ih (v + 1) _ (by omega) (by omega) (Bw.tr ⟨⟨b, rfl⟩, hk⟩ Bw.si) (fun j hj => ?_) (fun j q1 q2 => ?_)
          · refine i_sj.trans ?_
            by_cases q : j = v + 1
            · rw [if_pos q, q]
              first
                | rw [dm_t (decide_eq_true h91)]
                | (rw [dm_f (fun w => h91 (of_decide_eq_true w))]; exact congrArg nI (by omega))
            · rw [if_neg q]; exact hr j (by omega)
          · refine i_sj.trans ?_
            rw [if_neg (by omega)]; exact hr2 j (by omega) q2
        · have h91 : ¬ s1.getD w [] = s2.getD v [] := fun q => h91 ((lg_cmp_eq _ _).mpr (by rw [q]))
          refine v_iload hC dX3_between_94 rfl ?_
          refine v_iload hC dX3_between_96 rfl ?_
          refine v_icmp_ge hC dX3_between_98 (tgt := 106) (by decide) (fun h98 => ?_) (fun h98 => ?_)
          · have k98 := lp_ge h98
            refine v_iload hC dX3_between_106 rfl ?_
            refine v_ist6 hC dX3_between_108 (by decide) (kk := ?_)
            refine v_iload hC dX3_between_110 rfl ?_
            refine v_aload_n hC dX3_between_112 rfl rfl ?_
            refine gf_3_0 hC ht (wf_148 hW ht) mw_1_29 dX3_between_113 ?_
            refine v_iload hC dX3_between_116 rfl ?_
            refine v_iconst (v := 1) hC dX3_between_118 (by decide) ?_
            refine v_isub hC dX3_between_119 ?_
            refine v_iald 23 hC (wf_148 hW ht) (by decide) (by decide) (ix_q (j := v) (wz_23 hW (wf_148 hW ht)) (nI_pred v) (by omega)) dX3_between_120 ?_
            rw [hr v (by omega)]
            refine v_icmp_ge hC dX3_between_121 (tgt := 129) (by decide) (fun h121 => ?_) (fun h121 => ?_)
            · have k121 := lp_ge h121
              refine v_aload_n hC dX3_between_129 rfl rfl ?_
              refine gf_3_0 hC ht (wf_148 hW ht) mw_1_29 dX3_between_130 ?_
              refine v_iload hC dX3_between_133 rfl ?_
              refine v_iconst (v := 1) hC dX3_between_135 (by decide) ?_
              refine v_isub hC dX3_between_136 ?_
              refine v_iald 23 hC (wf_148 hW ht) (by decide) (by decide) (ix_q (j := v) (wz_23 hW (wf_148 hW ht)) (nI_pred v) (by omega)) dX3_between_137 ?_
              rw [hr v (by omega)]
              refine v_ist6 hC dX3_between_138 (by decide) (kk := ?_)
              refine v_inc6 hC dX3_between_140 ((nI_succ _).symm) (by decide) (kk := ?_)
              refine v_aload_n hC dX3_between_143 rfl rfl ?_
              refine gf_3_0 hC ht (wf_148 hW ht) mw_1_29 dX3_between_144 ?_
              refine v_iload hC dX3_between_147 rfl ?_
              refine v_iload hC dX3_between_149 rfl ?_
              refine v_iast 23 hC (wf_148 hW ht) (by decide) (by decide) (ix_c (wz_23 hW (wf_148 hW ht)) (by omega)) dX3_between_151 ?_
              refine v_inc5 hC dX3_between_152 ((nI_succ (v + 1)).symm) (by decide) (kk := ?_)
              refine v_goto hC dX3_between_155 (tgt := 51) (by decide) ?_
              refine v_drop 6 ?_
              refine ih (v + 1) _ (by omega) (by omega) (Bw.tr ⟨⟨b, rfl⟩, hk⟩ Bw.si) (fun j hj => ?_) (fun j q1 q2 => ?_)
              · refine i_sj.trans ?_
                by_cases q : j = v + 1
                · rw [if_pos q, q]
                  first
                    | rw [dm_t (decide_eq_true h91)]
                    | (rw [dm_f (fun w => h91 (of_decide_eq_true w))]; exact congrArg nI (by omega))
                · rw [if_neg q]; exact hr j (by omega)
              · refine i_sj.trans ?_
                rw [if_neg (by omega)]; exact hr2 j (by omega) q2
            · have k121 := lp_lt h121
              refine v_iload hC dX3_between_124 rfl ?_
              refine v_goto hC dX3_between_126 (tgt := 138) (by decide) ?_
              refine v_ist6 hC dX3_between_138 (by decide) (kk := ?_)
              refine v_inc6 hC dX3_between_140 ((nI_succ _).symm) (by decide) (kk := ?_)
              refine v_aload_n hC dX3_between_143 rfl rfl ?_
              refine gf_3_0 hC ht (wf_148 hW ht) mw_1_29 dX3_between_144 ?_
              refine v_iload hC dX3_between_147 rfl ?_
              refine v_iload hC dX3_between_149 rfl ?_
              refine v_iast 23 hC (wf_148 hW ht) (by decide) (by decide) (ix_c (wz_23 hW (wf_148 hW ht)) (by omega)) dX3_between_151 ?_
              refine v_inc5 hC dX3_between_152 ((nI_succ (v + 1)).symm) (by decide) (kk := ?_)
              refine v_goto hC dX3_between_155 (tgt := 51) (by decide) ?_
              refine v_drop 6 ?_
              refine ih (v + 1) _ (by omega) (by omega) (Bw.tr ⟨⟨b, rfl⟩, hk⟩ Bw.si) (fun j hj => ?_) (fun j q1 q2 => ?_)
              · refine i_sj.trans ?_
                by_cases q : j = v + 1
                · rw [if_pos q, q]
                  first
                    | rw [dm_t (decide_eq_true h91)]
                    | (rw [dm_f (fun w => h91 (of_decide_eq_true w))]; exact congrArg nI (by omega))
                · rw [if_neg q]; exact hr j (by omega)
              · refine i_sj.trans ?_
                rw [if_neg (by omega)]; exact hr2 j (by omega) q2
          · have k98 := lp_lt h98
            refine v_iload hC dX3_between_101 rfl ?_
            refine v_goto hC dX3_between_103 (tgt := 108) (by decide) ?_
            refine v_ist6 hC dX3_between_108 (by decide) (kk := ?_)
            refine v_iload hC dX3_between_110 rfl ?_
            refine v_aload_n hC dX3_between_112 rfl rfl ?_
            refine gf_3_0 hC ht (wf_148 hW ht) mw_1_29 dX3_between_113 ?_
            refine v_iload hC dX3_between_116 rfl ?_
            refine v_iconst (v := 1) hC dX3_between_118 (by decide) ?_
            refine v_isub hC dX3_between_119 ?_
            refine v_iald 23 hC (wf_148 hW ht) (by decide) (by decide) (ix_q (j := v) (wz_23 hW (wf_148 hW ht)) (nI_pred v) (by omega)) dX3_between_120 ?_
            rw [hr v (by omega)]
            refine v_icmp_ge hC dX3_between_121 (tgt := 129) (by decide) (fun h121 => ?_) (fun h121 => ?_)
            · have k121 := lp_ge h121
              refine v_aload_n hC dX3_between_129 rfl rfl ?_
              refine gf_3_0 hC ht (wf_148 hW ht) mw_1_29 dX3_between_130 ?_
              refine v_iload hC dX3_between_133 rfl ?_
              refine v_iconst (v := 1) hC dX3_between_135 (by decide) ?_
              refine v_isub hC dX3_between_136 ?_
              refine v_iald 23 hC (wf_148 hW ht) (by decide) (by decide) (ix_q (j := v) (wz_23 hW (wf_148 hW ht)) (nI_pred v) (by omega)) dX3_between_137 ?_
              rw [hr v (by omega)]
              refine v_ist6 hC dX3_between_138 (by decide) (kk := ?_)
              refine v_inc6 hC dX3_between_140 ((nI_succ _).symm) (by decide) (kk := ?_)
              refine v_aload_n hC dX3_between_143 rfl rfl ?_
              refine gf_3_0 hC ht (wf_148 hW ht) mw_1_29 dX3_between_144 ?_
              refine v_iload hC dX3_between_147 rfl ?_
              refine v_iload hC dX3_between_149 rfl ?_
              refine v_iast 23 hC (wf_148 hW ht) (by decide) (by decide) (ix_c (wz_23 hW (wf_148 hW ht)) (by omega)) dX3_between_151 ?_
              refine v_inc5 hC dX3_between_152 ((nI_succ (v + 1)).symm) (by decide) (kk := ?_)
              refine v_goto hC dX3_between_155 (tgt := 51) (by decide) ?_
              refine v_drop 6 ?_
              refine ih (v + 1) _ (by omega) (by omega) (Bw.tr ⟨⟨b, rfl⟩, hk⟩ Bw.si) (fun j hj => ?_) (fun j q1 q2 => ?_)
              · refine i_sj.trans ?_
                by_cases q : j = v + 1
                · rw [if_pos q, q]
                  first
                    | rw [dm_t (decide_eq_true h91)]
                    | (rw [dm_f (fun w => h91 (of_decide_eq_true w))]; exact congrArg nI (by omega))
                · rw [if_neg q]; exact hr j (by omega)
              · refine i_sj.trans ?_
                rw [if_neg (by omega)]; exact hr2 j (by omega) q2
            · have k121 := lp_lt h121
              refine v_iload hC dX3_between_124 rfl ?_
              refine v_goto hC dX3_between_126 (tgt := 138) (by decide) ?_
              refine v_ist6 hC dX3_between_138 (by decide) (kk := ?_)
              refine v_inc6 hC dX3_between_140 ((nI_succ _).symm) (by decide) (kk := ?_)
              refine v_aload_n hC dX3_between_143 rfl rfl ?_
              refine gf_3_0 hC ht (wf_148 hW ht) mw_1_29 dX3_between_144 ?_
              refine v_iload hC dX3_between_147 rfl ?_
              refine v_iload hC dX3_between_149 rfl ?_
              refine v_iast 23 hC (wf_148 hW ht) (by decide) (by decide) (ix_c (wz_23 hW (wf_148 hW ht)) (by omega)) dX3_between_151 ?_
              refine v_inc5 hC dX3_between_152 ((nI_succ (v + 1)).symm) (by decide) (kk := ?_)
              refine v_goto hC dX3_between_155 (tgt := 51) (by decide) ?_
              refine v_drop 6 ?_
              refine ih (v + 1) _ (by omega) (by omega) (Bw.tr ⟨⟨b, rfl⟩, hk⟩ Bw.si) (fun j hj => ?_) (fun j q1 q2 => ?_)
              · refine i_sj.trans ?_
                by_cases q : j = v + 1
                · rw [if_pos q, q]
                  first
                    | rw [dm_t (decide_eq_true h91)]
                    | (rw [dm_f (fun w => h91 (of_decide_eq_true w))]; exact congrArg nI (by omega))
                · rw [if_neg q]; exact hr j (by omega)
              · refine i_sj.trans ?_
                rw [if_neg (by omega)]; exact hr2 j (by omega) q2
  have loopB : ∀ (k w : Nat) (M1 : Me), w + k = 9 → w ≤ s1.length → Bw M M1 → (∀ j, j ≤ s2.length → m_i M1 23 (m_r M1 148 h 0) j = nI (dm (eqW s1 s2) w j)) → V p l e (rmk 0 0 0 0) s m ([.ref h, .ref a, .ref g] : List Value).toArray below meth c 7 G (MQ below (Qi G (fun r M2 => r = nI (dst s1 s2) ∧ Bw M M2)) ([.ref h, .ref a, .ref g] : List Value).toArray s 0 0 (fr_ G)) M1 0 0 25 ([some (.ref h), some (.ref a), some (.ref g), some (.int (nI (w + 1))), none, none, none] : Lo) [] := by
    intro k
    induction k with
    | zero => intro w M1 e1 e2; omega
    | succ k ih =>
      intro w M1 e1 e2 hB hr
      obtain ⟨⟨b, rfl⟩, hk⟩ := hB
      have hW : Wt (s_c M b) := hW.sc
      have ht : m_t (s_c M b) h = 4 := ht
      have h1 : SgR (s_c M b) a s1 := h1.sc
      have h2 : SgR (s_c M b) g s2 := h2.sc
      refine v_iload_n hC dX3_between_25 rfl rfl ?_
      refine v_aload_n hC dX3_between_26 rfl rfl ?_
      refine gf_6_2 hC h1.1 mw_1_50 dX3_between_27 ?_
      rw [h1.2.2.1]
      refine v_icmp_gt hC dX3_between_30 (tgt := 164) (by decide) (fun h30 => ?_) (fun h30 => ?_)
      · have k30 := lp_gt h30
        refine v_aload_n hC dX3_between_164 rfl rfl ?_
        refine gf_3_0 hC ht (wf_148 hW ht) mw_1_29 dX3_between_165 ?_
        refine v_aload_n hC dX3_between_168 rfl rfl ?_
        refine gf_6_2 hC h2.1 mw_1_50 dX3_between_169 ?_
        rw [h2.2.2.1]
        refine v_iald 23 hC (wf_148 hW ht) (by decide) (by decide) (ix_c (wz_23 hW (wf_148 hW ht)) (by omega)) dX3_between_172 ?_
        rw [hr _ (Nat.le_refl _)]
        refine v_iret hC dX3_between_173 ?_
        have hle : w = s1.length := by omega
        subst hle
        exact ⟨rfl, ⟨b, rfl⟩, hk⟩
      · have k30 := lp_ng h30
        have hl : w < s1.length := by omega
        refine v_aload_n hC dX3_between_33 rfl rfl ?_
        refine gf_3_0 hC ht (wf_148 hW ht) mw_1_29 dX3_between_34 ?_
        refine v_iconst (v := 0) hC dX3_between_37 (by decide) ?_
        refine v_iald 23 hC (wf_148 hW ht) (by decide) (by decide) (ix_q (j := 0) (wz_23 hW (wf_148 hW ht)) rfl) dX3_between_38 ?_
        rw [hr 0 (by omega)]
        refine v_ist4 hC dX3_between_39 (by decide) (kk := ?_)
        refine v_aload_n hC dX3_between_41 rfl rfl ?_
        refine gf_3_0 hC ht (wf_148 hW ht) mw_1_29 dX3_between_42 ?_
        refine v_iconst (v := 0) hC dX3_between_45 (by decide) ?_
        refine v_iload_n hC dX3_between_46 rfl rfl ?_
        refine v_iast 23 hC (wf_148 hW ht) (by decide) (by decide) (ix_q (j := 0) (wz_23 hW (wf_148 hW ht)) rfl) dX3_between_47 ?_
        refine v_iconst (v := 1) hC dX3_between_48 (by decide) ?_
        refine v_ist5 hC dX3_between_49 (by decide) (kk := ?_)
        refine loopC w hl (fun M1 hB2 hr2 => ?_) 9 0 _ (by omega) (by omega) (Bw.tr ⟨⟨b, rfl⟩, hk⟩ Bw.si) (fun j hj => ?_) (fun j q1 q2 => ?_)
        · obtain ⟨⟨b2, rfl⟩, hk2⟩ := hB2
          refine v_inc3 hC dX3_between_158 ((nI_succ (w + 1)).symm) (by decide) (kk := ?_)
          refine v_goto hC dX3_between_161 (tgt := 25) (by decide) ?_
          exact ih (w + 1) _ (by omega) (by omega) ⟨⟨b2, rfl⟩, hk2⟩ hr2
        · refine i_sj.trans ?_
          rw [if_pos (by omega), show j = 0 by omega, dm_s0]
        · refine i_sj.trans ?_
          rw [if_neg (by omega)]; exact hr j q2
  have loopA : ∀ (k i : Nat) (M1 : Me), i + k = 10 → i ≤ s2.length + 1 → Bw M M1 → (∀ j, j < i → m_i M1 23 (m_r M1 148 h 0) j = nI j) → V p l e (rmk 0 0 0 0) s m ([.ref h, .ref a, .ref g] : List Value).toArray below meth c 7 G (MQ below (Qi G (fun r M2 => r = nI (dst s1 s2) ∧ Bw M M2)) ([.ref h, .ref a, .ref g] : List Value).toArray s 0 0 (fr_ G)) M1 0 0 2 ([some (.ref h), some (.ref a), some (.ref g), some (.int (nI i)), none, none, none] : Lo) [] := by
    intro k
    induction k with
    | zero => intro i M1 e1 e2; omega
    | succ k ih =>
      intro i M1 e1 e2 hB hr
      obtain ⟨⟨b, rfl⟩, hk⟩ := hB
      have hW : Wt (s_c M b) := hW.sc
      have ht : m_t (s_c M b) h = 4 := ht
      have h1 : SgR (s_c M b) a s1 := h1.sc
      have h2 : SgR (s_c M b) g s2 := h2.sc
      refine v_iload_n hC dX3_between_2 rfl rfl ?_
      refine v_aload_n hC dX3_between_3 rfl rfl ?_
      refine gf_6_2 hC h2.1 mw_1_50 dX3_between_4 ?_
      rw [h2.2.2.1]
      refine v_icmp_gt hC dX3_between_7 (tgt := 23) (by decide) (fun h7 => ?_) (fun h7 => ?_)
      · have k7 := lp_gt h7
        refine v_iconst (v := 1) hC dX3_between_23 (by decide) ?_
        refine v_ist3 hC dX3_between_24 (by decide) (kk := ?_)
        exact loopB 9 0 _ (by omega) (by omega) ⟨⟨b, rfl⟩, hk⟩ (fun j hj => hr j (by omega))
      · have k7 := lp_ng h7
        refine v_aload_n hC dX3_between_10 rfl rfl ?_
        refine gf_3_0 hC ht (wf_148 hW ht) mw_1_29 dX3_between_11 ?_
        refine v_iload_n hC dX3_between_14 rfl rfl ?_
        refine v_iload_n hC dX3_between_15 rfl rfl ?_
        refine v_iast 23 hC (wf_148 hW ht) (by decide) (by decide) (ix_c (wz_23 hW (wf_148 hW ht)) (by omega)) dX3_between_16 ?_
        refine v_inc3 hC dX3_between_17 ((nI_succ i).symm) (by decide) (kk := ?_)
        refine v_goto hC dX3_between_20 (tgt := 2) (by decide) ?_
        refine ih (i + 1) _ (by omega) (by omega) (Bw.tr ⟨⟨b, rfl⟩, hk⟩ Bw.si) (fun j hj => ?_)
        refine i_sj.trans ?_
        by_cases q : j = i
        · rw [if_pos q, q]
        · rw [if_neg q]; exact hr j (by omega)
  refine v_iconst (v := 0) hC dX3_between_0 (by decide) ?_
  refine v_ist3 hC dX3_between_1 (by decide) (kk := ?_)
  exact loopA 10 0 M (by omega) (by omega) Bw.rf (fun j hj => absurd hj (Nat.not_lt_zero j))

theorem mx_nI {a b : Nat} (ha : a < 2 ^ 31) (hb : b < 2 ^ 31) : (if nI a < nI b then nI b else nI a) = nI (max a b) := by
  by_cases q : a < b
  · rw [if_pos (nI_lt q hb), Nat.max_eq_right (by omega)]
  · rw [if_neg (fun w => q ((nI_ltI ha hb).mp w)), Nat.max_eq_left (by omega)]
def mtc (s1 s2 : Sg) : Int32 := 100 * (nI (max s1.length s2.length) - nI (dst s1 s2)) / nI (max s1.length s2.length)
/-- the greatest of the first n numbers, or 0; the first that is it -/
def bm (f : Nat → Int32) : Nat → Int32
  | 0 => 0
  | k + 1 => if bm f k < f k then f k else bm f k
def bE (f : Nat → Int32) (n : Nat) (r : Int32) : Prop := 0 < bm f n ∧ Fst (fun e => f e = bm f n) n r ∨ ¬ 0 < bm f n ∧ r = -5
theorem ES.sc {M : Me} {b : Nat → Nat → Nat → Int32} {h n : Nat} {es : Nat → Sg} (x : ES M h n es) : ES (s_c M b) h n es := ⟨x.1, by rw [sc_i (by decide)]; exact x.2.1, fun e he => (x.2.2 e he).sc⟩
set_option maxHeartbeats 4000000 in
set_option maxRecDepth 100000 in
theorem c_X3_match {l : Launch} {G : Gd} {M : Me} {h a g : Nat} {s1 s2 : Sg} (hW : Wt M) (ht : m_t M h = 4) (h1 : SgR M a s1) (h2 : SgR M g s2) : CQ (Qi G (fun r M2 => r = mtc s1 s2 ∧ Bw M M2)) l G yX3_match cX3_match 4 ((some .int)) 1 26 0 0 [.ref h, .ref a, .ref g] M := by
  refine c_of ([some (.ref h), some (.ref a), some (.ref g), none] : Lo) RX3 "match" (by decide) rfl rfl (Nat.le_of_ble_eq_true rfl) rfl (fun p e s m below meth c hC nw => ?_)
  obtain ⟨b1, b2⟩ := h1.len
  obtain ⟨b3, b4⟩ := h2.len
  refine v_aload_n hC dX3_match_0 rfl rfl ?_
  refine gf_6_2 hC h1.1 mw_1_50 dX3_match_1 ?_
  rw [h1.2.2.1]
  refine v_aload_n hC dX3_match_4 rfl rfl ?_
  refine gf_6_2 hC h2.1 mw_1_50 dX3_match_5 ?_
  rw [h2.2.2.1]
  refine v_mmax hC mw_3_73 (Nat.le_of_ble_eq_true rfl) (Nat.le_of_ble_eq_true rfl) ⟨Nat.le_of_ble_eq_true rfl, Nat.le_of_ble_eq_true rfl⟩ dX3_match_8 ?_
  rw [mx_nI (by omega) (by omega)]
  refine v_ist3 hC dX3_match_11 (by decide) (kk := ?_)
  refine v_iload_n hC dX3_match_12 rfl rfl ?_
  refine v_if_ne hC dX3_match_13 (tgt := 18) (by decide) (fun h13 => ?_) (fun h13 => absurd h13 (nI_ne0 (by omega) (by omega)))
  refine v_bipush (v := 100) hC dX3_match_18 (by decide) ?_
  refine v_iload_n hC dX3_match_20 rfl rfl ?_
  refine v_aload_n hC dX3_match_21 rfl rfl ?_
  refine v_aload_n hC dX3_match_22 rfl rfl ?_
  refine v_aload_n hC dX3_match_23 rfl rfl ?_
  refine cVi2 hC (c_X3_between hW ht h1 h2) yv_X3_between rfl ht mw_3_74 ⟨Nat.le_of_ble_eq_true rfl, Nat.le_of_ble_eq_true rfl⟩ ⟨Nat.le_of_ble_eq_true rfl, Nat.le_of_ble_eq_true rfl⟩ (Nat.le_of_ble_eq_true rfl) dX3_match_24 (fun r24 M26 hq => ?_)
  obtain ⟨rfl, ⟨b, rfl⟩, hk⟩ := hq
  refine v_isub hC dX3_match_27 ?_
  refine v_imul hC dX3_match_28 ?_
  refine v_iload_n hC dX3_match_29 rfl rfl ?_
  refine v_idiv hC dX3_match_30 (nI_ne0 (by omega) (by omega)) ?_
  refine v_iret hC dX3_match_31 ?_
  exact ⟨rfl, ⟨b, rfl⟩, hk⟩

set_option maxHeartbeats 4000000 in
set_option maxRecDepth 100000 in
theorem c_X4_bestMatch {l : Launch} {G : Gd} {M : Me} {h n g0 : Nat} {g : Sg} {es : Nat → Sg} (hW : Wt M) (ht : m_t M h = 5) (hS : ES M h n es) (hg : SgR M g0 g) : CQ (Qi G (fun r M2 => r = bm (fun e => mtc g (es e)) n ∧ Bw M M2)) l G yX4_bestMatch cX4_bestMatch 4 ((some .int)) 2 49 0 0 [.ref h, .ref g0] M := by
  refine c_of ([some (.ref h), some (.ref g0), none, none] : Lo) RX4 "bestMatch" (by decide) rfl rfl (Nat.le_of_ble_eq_true rfl) rfl (fun p e s m below meth c hC nw => ?_)
  have hb := hS.1
  have loop : ∀ (k i : Nat) (M1 : Me), i + k = 41 → i ≤ n → Bw M M1 → V p l e (rmk 2 49 0 0) s m ([.ref h, .ref g0] : List Value).toArray below meth c 4 G (MQ below (Qi G (fun r M2 => r = bm (fun e => mtc g (es e)) n ∧ Bw M M2)) ([.ref h, .ref g0] : List Value).toArray s 0 0 (fr_ G)) M1 0 0 4 ([some (.ref h), some (.ref g0), some (.int (bm (fun e => mtc g (es e)) i)), some (.int (nI i))] : Lo) [] := by
    intro k
    induction k with
    | zero => intro i M1 e1 e2; omega
    | succ k ih =>
      intro i M1 e1 e2 hB
      obtain ⟨⟨b, rfl⟩, hk⟩ := hB
      have hW : Wt (s_c M b) := hW.sc
      have ht : m_t (s_c M b) h = 5 := ht
      have hS : ES (s_c M b) h n es := hS.sc
      have hg : SgR (s_c M b) g0 g := hg.sc
      refine v_iload_n hC dX4_bestMatch_4 rfl rfl ?_
      refine v_aload_n hC dX4_bestMatch_5 rfl rfl ?_
      refine gf_4_2 hC ht mw_2_10 dX4_bestMatch_6 ?_
      rw [hS.2.1]
      refine v_icmp_ge hC dX4_bestMatch_9 (tgt := 40) (by decide) (fun h9 => ?_) (fun h9 => ?_)
      · have hi := lp_ge h9
        refine v_iload_n hC dX4_bestMatch_40 rfl rfl ?_
        refine v_iret hC dX4_bestMatch_41 ?_
        have hie : i = n := by omega
        subst hie
        exact ⟨rfl, ⟨b, rfl⟩, hk⟩
      · have hi := lp_lt h9
        refine v_iload_n hC dX4_bestMatch_12 rfl rfl ?_
        refine v_aload_n hC dX4_bestMatch_13 rfl rfl ?_
        refine gf_4_0 hC ht (wf_164 hW ht) mw_2_6 dX4_bestMatch_14 ?_
        refine v_aload_n hC dX4_bestMatch_17 rfl rfl ?_
        refine v_aload_n hC dX4_bestMatch_18 rfl rfl ?_
        refine gf_4_1 hC ht (wf_165 hW ht) mw_2_7 dX4_bestMatch_19 ?_
        refine v_iload_n hC dX4_bestMatch_22 rfl rfl ?_
        refine v_aald 53 _ hC (wf_165 hW ht) (by decide) rfl (ix_c (wz_53 hW (wf_165 hW ht)) (by have := hS.1; omega)) (we_53 hW (wf_165 hW ht) (by omega)) dX4_bestMatch_23 ?_
        refine gf_1_0 hC (we_53 hW (wf_165 hW ht) (by omega)) (hS.2.2 i hi).1 mw_1_195 dX4_bestMatch_24 ?_
        refine cVi2 hC (c_X3_match hW (wf_164 hW ht) hg (hS.2.2 i hi)) yv_X3_match rfl (wf_164 hW ht) mw_3_69 ⟨Nat.le_of_ble_eq_true rfl, Nat.le_of_ble_eq_true rfl⟩ ⟨Nat.le_of_ble_eq_true rfl, Nat.le_of_ble_eq_true rfl⟩ (Nat.le_of_ble_eq_true rfl) dX4_bestMatch_27 (fun r27 M29 hq => ?_)
        obtain ⟨rfl, hB2⟩ := hq
        obtain ⟨⟨b2, rfl⟩, hk2⟩ := Bw.tr ⟨⟨b, rfl⟩, hk⟩ hB2
        refine v_mmax hC mw_3_78 (Nat.le_of_ble_eq_true rfl) (Nat.le_of_ble_eq_true rfl) ⟨Nat.le_of_ble_eq_true rfl, Nat.le_of_ble_eq_true rfl⟩ dX4_bestMatch_30 ?_
        refine v_ist2 hC dX4_bestMatch_33 (by decide) (kk := ?_)
        refine v_inc3 hC dX4_bestMatch_34 ((nI_succ i).symm) (by decide) (kk := ?_)
        refine v_goto hC dX4_bestMatch_37 (tgt := 4) (by decide) ?_
        exact ih (i + 1) _ (by omega) (by omega) ⟨⟨b2, rfl⟩, hk2⟩
  refine v_iconst (v := 0) hC dX4_bestMatch_0 (by decide) ?_
  refine v_ist2 hC dX4_bestMatch_1 (by decide) (kk := ?_)
  refine v_iconst (v := 0) hC dX4_bestMatch_2 (by decide) ?_
  refine v_ist3 hC dX4_bestMatch_3 (by decide) (kk := ?_)
  exact loop 41 0 M (by omega) (by omega) Bw.rf

set_option maxHeartbeats 4000000 in
set_option maxRecDepth 100000 in
theorem c_X4_bestEntry {l : Launch} {G : Gd} {M : Me} {h n g0 : Nat} {g : Sg} {es : Nat → Sg} (hW : Wt M) (ht : m_t M h = 5) (hS : ES M h n es) (hg : SgR M g0 g) : CQ (Qi G (fun r M2 => bE (fun e => mtc g (es e)) n r ∧ Bw M M2)) l G yX4_bestEntry cX4_bestEntry 4 ((some .int)) 3 72 0 0 [.ref h, .ref g0] M := by
  refine c_of ([some (.ref h), some (.ref g0), none, none] : Lo) RX4 "bestEntry" (by decide) rfl rfl (Nat.le_of_ble_eq_true rfl) rfl (fun p e s m below meth c hC nw => ?_)
  have hb := hS.1
  have loop : ∀ (k i : Nat) (M1 : Me), i + k = 41 → i ≤ n → Bw M M1 → (∀ j, j < i → ¬ mtc g (es j) = bm (fun e => mtc g (es e)) n) → V p l e (rmk 3 72 0 0) s m ([.ref h, .ref g0] : List Value).toArray below meth c 4 G (MQ below (Qi G (fun r M2 => bE (fun e => mtc g (es e)) n r ∧ Bw M M2)) ([.ref h, .ref g0] : List Value).toArray s 0 0 (fr_ G)) M1 0 0 8 ([some (.ref h), some (.ref g0), some (.int (bm (fun e => mtc g (es e)) n)), some (.int (nI i))] : Lo) [] := by
    intro k
    induction k with
    | zero => intro i M1 e1 e2; omega
    | succ k ih =>
      intro i M1 e1 e2 hB hI
      obtain ⟨⟨b, rfl⟩, hk⟩ := hB
      have hW : Wt (s_c M b) := hW.sc
      have ht : m_t (s_c M b) h = 5 := ht
      have hS : ES (s_c M b) h n es := hS.sc
      have hg : SgR (s_c M b) g0 g := hg.sc
      refine v_iload_n hC dX4_bestEntry_8 rfl rfl ?_
      refine v_if_le hC dX4_bestEntry_9 (tgt := 49) (by decide) (fun h9 => ?_) (fun h9 => ?_)
      · refine v_bipush (v := (-5)) hC dX4_bestEntry_49 (by decide) ?_
        refine v_iret hC dX4_bestEntry_51 ?_
        first
          | exact ⟨Or.inr ⟨fun q => i_ab q h9, rfl⟩, ⟨⟨b, rfl⟩, hk⟩⟩
          | exact ⟨Or.inl ⟨i_nle h9, Or.inr ⟨fun j hj => hI j (by omega), rfl⟩⟩, ⟨⟨b, rfl⟩, hk⟩⟩
      · refine v_iload_n hC dX4_bestEntry_12 rfl rfl ?_
        refine v_aload_n hC dX4_bestEntry_13 rfl rfl ?_
        refine gf_4_2 hC ht mw_2_10 dX4_bestEntry_14 ?_
        rw [hS.2.1]
        refine v_icmp_ge hC dX4_bestEntry_17 (tgt := 49) (by decide) (fun h17 => ?_) (fun h17 => ?_)
        · have hi := lp_ge h17
          refine v_bipush (v := (-5)) hC dX4_bestEntry_49 (by decide) ?_
          refine v_iret hC dX4_bestEntry_51 ?_
          first
            | exact ⟨Or.inr ⟨fun q => i_ab q h9, rfl⟩, ⟨⟨b, rfl⟩, hk⟩⟩
            | exact ⟨Or.inl ⟨i_nle h9, Or.inr ⟨fun j hj => hI j (by omega), rfl⟩⟩, ⟨⟨b, rfl⟩, hk⟩⟩
        · have hi := lp_lt h17
          refine v_aload_n hC dX4_bestEntry_20 rfl rfl ?_
          refine gf_4_0 hC ht (wf_164 hW ht) mw_2_6 dX4_bestEntry_21 ?_
          refine v_aload_n hC dX4_bestEntry_24 rfl rfl ?_
          refine v_aload_n hC dX4_bestEntry_25 rfl rfl ?_
          refine gf_4_1 hC ht (wf_165 hW ht) mw_2_7 dX4_bestEntry_26 ?_
          refine v_iload_n hC dX4_bestEntry_29 rfl rfl ?_
          refine v_aald 53 _ hC (wf_165 hW ht) (by decide) rfl (ix_c (wz_53 hW (wf_165 hW ht)) (by have := hS.1; omega)) (we_53 hW (wf_165 hW ht) (by omega)) dX4_bestEntry_30 ?_
          refine gf_1_0 hC (we_53 hW (wf_165 hW ht) (by omega)) (hS.2.2 i hi).1 mw_1_195 dX4_bestEntry_31 ?_
          refine cVi2 hC (c_X3_match hW (wf_164 hW ht) hg (hS.2.2 i hi)) yv_X3_match rfl (wf_164 hW ht) mw_3_69 ⟨Nat.le_of_ble_eq_true rfl, Nat.le_of_ble_eq_true rfl⟩ ⟨Nat.le_of_ble_eq_true rfl, Nat.le_of_ble_eq_true rfl⟩ (Nat.le_of_ble_eq_true rfl) dX4_bestEntry_34 (fun r34 M36 hq => ?_)
          obtain ⟨rfl, hB2⟩ := hq
          obtain ⟨⟨b2, rfl⟩, hk2⟩ := Bw.tr ⟨⟨b, rfl⟩, hk⟩ hB2
          refine v_iload_n hC dX4_bestEntry_37 rfl rfl ?_
          refine v_icmp_ne hC dX4_bestEntry_38 (tgt := 43) (by decide) (fun h38 => ?_) (fun h38 => ?_)
          · refine v_inc3 hC dX4_bestEntry_43 ((nI_succ i).symm) (by decide) (kk := ?_)
            refine v_goto hC dX4_bestEntry_46 (tgt := 8) (by decide) ?_
            exact ih (i + 1) _ (by omega) (by omega) ⟨⟨b2, rfl⟩, hk2⟩ (fun j hj => by
              by_cases q : j = i
              · subst q; exact h38
              · exact hI j (by omega))
          · refine v_iload_n hC dX4_bestEntry_41 rfl rfl ?_
            refine v_iret hC dX4_bestEntry_42 ?_
            exact ⟨Or.inl ⟨i_nle h9, Or.inl ⟨i, hi, h38, hI, rfl⟩⟩, ⟨⟨b2, rfl⟩, hk2⟩⟩
  refine v_aload_n hC dX4_bestEntry_0 rfl rfl ?_
  refine v_aload_n hC dX4_bestEntry_1 rfl rfl ?_
  refine cVi1 hC (c_X4_bestMatch hW ht hS hg) yv_X4_bestMatch rfl ht mw_4_18 ⟨Nat.le_of_ble_eq_true rfl, Nat.le_of_ble_eq_true rfl⟩ ⟨Nat.le_of_ble_eq_true rfl, Nat.le_of_ble_eq_true rfl⟩ (Nat.le_of_ble_eq_true rfl) dX4_bestEntry_2 (fun r2 M4 hq => ?_)
  obtain ⟨rfl, ⟨b0, rfl⟩, hk0⟩ := hq
  refine v_ist2 hC dX4_bestEntry_5 (by decide) (kk := ?_)
  refine v_iconst (v := 0) hC dX4_bestEntry_6 (by decide) ?_
  refine v_ist3 hC dX4_bestEntry_7 (by decide) (kk := ?_)
  exact loop 41 0 _ (by omega) (by omega) ⟨⟨b0, rfl⟩, hk0⟩ (fun j hj => absurd hj (Nat.not_lt_zero j))

set_option maxHeartbeats 4000000 in
set_option maxRecDepth 100000 in
theorem c_X4_distanceTo {l : Launch} {G : Gd} {M : Me} {h n g0 x : Nat} {g : Sg} {es : Nat → Sg} (hW : Wt M) (ht : m_t M h = 5) (hS : ES M h n es) (hg : SgR M g0 g) (he : x < n) : CQ (Qi G (fun r M2 => r = nI (dst g (es x)) ∧ Bw M M2)) l G yX4_distanceTo cX4_distanceTo 3 ((some .int)) 1 26 0 0 [.ref h, .ref g0, .int (nI x)] M := by
  refine c_of ([some (.ref h), some (.ref g0), some (.int (nI x))] : Lo) RX4 "distanceTo" (by decide) rfl rfl (Nat.le_of_ble_eq_true rfl) rfl (fun p e s m below meth c hC nw => ?_)
  have hb := hS.1
  refine v_aload_n hC dX4_distanceTo_0 rfl rfl ?_
  refine gf_4_0 hC ht (wf_164 hW ht) mw_2_6 dX4_distanceTo_1 ?_
  refine v_aload_n hC dX4_distanceTo_4 rfl rfl ?_
  refine v_aload_n hC dX4_distanceTo_5 rfl rfl ?_
  refine gf_4_1 hC ht (wf_165 hW ht) mw_2_7 dX4_distanceTo_6 ?_
  refine v_iload_n hC dX4_distanceTo_9 rfl rfl ?_
  refine v_aald 53 _ hC (wf_165 hW ht) (by decide) rfl (ix_c (wz_53 hW (wf_165 hW ht)) (by have := hS.1; omega)) (we_53 hW (wf_165 hW ht) (by omega)) dX4_distanceTo_10 ?_
  refine gf_1_0 hC (we_53 hW (wf_165 hW ht) (by omega)) (hS.2.2 x he).1 mw_1_195 dX4_distanceTo_11 ?_
  refine cVi2 hC (c_X3_between hW (wf_164 hW ht) hg (hS.2.2 x he)) yv_X3_between rfl (wf_164 hW ht) mw_4_34 ⟨Nat.le_of_ble_eq_true rfl, Nat.le_of_ble_eq_true rfl⟩ ⟨Nat.le_of_ble_eq_true rfl, Nat.le_of_ble_eq_true rfl⟩ (Nat.le_of_ble_eq_true rfl) dX4_distanceTo_14 (fun r14 M16 hq => ?_)
  obtain ⟨rfl, ⟨b, rfl⟩, hk⟩ := hq
  refine v_iret hC dX4_distanceTo_17 ?_
  exact ⟨rfl, ⟨b, rfl⟩, hk⟩
