/-! what the row says of a state: where it speaks, and with which value -/
def wv (g : Sg) : Nat → Int64
  | 0 => lN g.length
  | i + 1 => Int64.ofNat (v27 (g.getD i []))
def spN (cf cp ce cd cs k a j : Nat) : Prop := (k = 0 ∧ a = 0 ∧ j < 6) ∨ (1 ≤ k ∧ k ≤ 3 ∧ a < cp ∧ j = 0) ∨ (4 ≤ k ∧ k ≤ 8 ∧ a < cf ∧ j = 0) ∨ (9 ≤ k ∧ k ≤ 10 ∧ a < cf ∧ j < cs) ∨ (11 ≤ k ∧ k ≤ 12 ∧ a < ce ∧ j = 0) ∨ (13 ≤ k ∧ k ≤ 16 ∧ a < cd ∧ j = 0) ∨ (k = 17 ∧ a = 0 ∧ j < cf) ∨ (k = 18 ∧ a = 0 ∧ j < 4) ∨ (k = 19 ∧ a < cf ∧ j = 0) ∨ (k = 23 ∧ a < cd ∧ j = 0) ∨ (k = 24 ∧ a < cf ∧ j < 9 * cs) ∨ (k = 25 ∧ a < ce ∧ j < 9)
def sp (u : Si) (k a j : Nat) : Prop := spN (n_f u) (n_p u) (n_e u) (n_d u) (n_s u a) k a j ∧ (k = 5 ∨ k = 6 → ¬ q_i u 4 a 0 = 4)
def vl (u : Si) (k a j : Nat) : Int64 := if k ≤ 17 then eb k (q_i u k a j) else if k = 18 then lN (q_n u j 0) else if k = 19 then lN (n_s u a) else if k = 23 then (if q_i u 16 a 0 = 0 then 0 else 1) else if k = 24 then wv (q_g u 0 a (j / 9)) (j % 9) else wv (q_g u 1 a 0) j
def gS (u : Si) : Prop := (∀ f t, f < n_f u → t < n_s u f → gSeg (q_g u 0 f t)) ∧ ∀ x, x < n_e u → gSeg (q_g u 1 x 0)
theorem vl_r {u : Si} {k a j : Nat} (h : k ≤ 17) : vl u k a j = eb k (q_i u k a j) := if_pos h
theorem vl_24 {u : Si} {a j : Nat} : vl u 24 a j = wv (q_g u 0 a (j / 9)) (j % 9) := rfl
theorem vl_25 {u : Si} {a j : Nat} : vl u 25 a j = wv (q_g u 1 a 0) j := rfl
theorem spN_r {u : Si} {k a j : Nat} (h : k ≤ 17) (q1 : spN (n_f u) (n_p u) (n_e u) (n_d u) (n_s u a) k a j) : inR u k a j := by
  rcases q1 with ⟨z1, z2, z3⟩ | ⟨z1, z2, z3, z4⟩ | ⟨z1, z2, z3, z4⟩ | ⟨z1, z2, z3, z4⟩ | ⟨z1, z2, z3, z4⟩ | ⟨z1, z2, z3, z4⟩ | ⟨z1, z2, z3⟩ | ⟨z1, z2, z3⟩ | ⟨z1, z2, z3⟩ | ⟨z1, z2, z3⟩ | ⟨z1, z2, z3⟩ | ⟨z1, z2, z3⟩
  · exact (Or.inl ⟨z1, z2, z3⟩)
  · exact (Or.inr (Or.inl ⟨z1, z2, z3, z4⟩))
  · exact (Or.inr (Or.inr (Or.inl ⟨z1, z2, z3, z4⟩)))
  · exact (Or.inr (Or.inr (Or.inr (Or.inl ⟨z1, z2, z3, z4⟩))))
  · exact (Or.inr (Or.inr (Or.inr (Or.inr (Or.inl ⟨z1, z2, z3, z4⟩)))))
  · exact (Or.inr (Or.inr (Or.inr (Or.inr (Or.inr (Or.inl ⟨z1, z2, z3, z4⟩))))))
  · exact (Or.inr (Or.inr (Or.inr (Or.inr (Or.inr (Or.inr ⟨z1, z2, z3⟩))))))
  · omega
  · omega
  · omega
  · omega
  · omega
theorem sp_r {u : Si} {k a j : Nat} (h : k ≤ 17) : sp u k a j ↔ inR u k a j ∧ (k = 5 ∨ k = 6 → ¬ q_i u 4 a 0 = 4) := by
  refine ⟨fun ⟨q1, q2⟩ => ⟨?_, q2⟩, fun ⟨q1, q2⟩ => ⟨?_, q2⟩⟩
  · exact spN_r h q1
  · rcases q1 with ⟨z1, z2, z3⟩ | ⟨z1, z2, z3, z4⟩ | ⟨z1, z2, z3, z4⟩ | ⟨z1, z2, z3, z4⟩ | ⟨z1, z2, z3, z4⟩ | ⟨z1, z2, z3, z4⟩ | ⟨z1, z2, z3⟩
    · exact (Or.inl ⟨z1, z2, z3⟩)
    · exact (Or.inr (Or.inl ⟨z1, z2, z3, z4⟩))
    · exact (Or.inr (Or.inr (Or.inl ⟨z1, z2, z3, z4⟩)))
    · exact (Or.inr (Or.inr (Or.inr (Or.inl ⟨z1, z2, z3, z4⟩))))
    · exact (Or.inr (Or.inr (Or.inr (Or.inr (Or.inl ⟨z1, z2, z3, z4⟩)))))
    · exact (Or.inr (Or.inr (Or.inr (Or.inr (Or.inr (Or.inl ⟨z1, z2, z3, z4⟩))))))
    · exact (Or.inr (Or.inr (Or.inr (Or.inr (Or.inr (Or.inr (Or.inl ⟨z1, z2, z3⟩)))))))
theorem SgN_iff {w : Nat → Int64} {g : Sg} : SgN w g ↔ gSeg g ∧ ∀ i, i < 9 → w i = wv g i := by
  refine ⟨fun h => ⟨h.1, fun i hi => ?_⟩, fun h => ⟨h.1, h.2 0 (by decide), fun i hi => ?_⟩⟩
  · cases i with
    | zero => exact h.2.1
    | succ i => rw [Nat.add_comm i 1]; exact (h.2.2 i (by omega)).trans (by rw [Nat.add_comm 1 i]; rfl)
  · rw [Nat.add_comm 1 i]; exact h.2 (i + 1) (by omega)
theorem LA_iff {r : Nat → Int64} {u : Si} : LA r u ↔ capU u ∧ gS u ∧ ∀ k a j, sp u k a j → r (pl k a j) = vl u k a j := by
  refine ⟨fun ⟨h1, ⟨c1, c2, c3, c4⟩, h3, h4, h5, h6, h7⟩ => ⟨h1, ⟨fun f t hf ht => (h6 f t hf ht).1, fun x hx => (h7 x hx).1⟩, fun k a j q => ?_⟩, fun ⟨h1, ⟨g1, g2⟩, h3⟩ => ⟨h1, ⟨h3 18 0 0 ⟨(Or.inr (Or.inr (Or.inr (Or.inr (Or.inr (Or.inr (Or.inr (Or.inl ⟨rfl, rfl, by decide⟩)))))))), fun z => by omega⟩, h3 18 0 1 ⟨(Or.inr (Or.inr (Or.inr (Or.inr (Or.inr (Or.inr (Or.inr (Or.inl ⟨rfl, rfl, by decide⟩)))))))), fun z => by omega⟩, h3 18 0 2 ⟨(Or.inr (Or.inr (Or.inr (Or.inr (Or.inr (Or.inr (Or.inr (Or.inl ⟨rfl, rfl, by decide⟩)))))))), fun z => by omega⟩, h3 18 0 3 ⟨(Or.inr (Or.inr (Or.inr (Or.inr (Or.inr (Or.inr (Or.inr (Or.inl ⟨rfl, rfl, by decide⟩)))))))), fun z => by omega⟩⟩, fun k a j q1 q2 => ?_, fun f hf => h3 19 f 0 ⟨(Or.inr (Or.inr (Or.inr (Or.inr (Or.inr (Or.inr (Or.inr (Or.inr (Or.inl ⟨rfl, hf, rfl⟩))))))))), fun z => by omega⟩, fun d hd => h3 23 d 0 ⟨(Or.inr (Or.inr (Or.inr (Or.inr (Or.inr (Or.inr (Or.inr (Or.inr (Or.inr (Or.inl ⟨rfl, hd, rfl⟩)))))))))), fun z => by omega⟩, fun f t hf ht => SgN_iff.mpr ⟨g1 f t hf ht, fun i hi => ?_⟩, fun x hx => SgN_iff.mpr ⟨g2 x hx, fun i hi => ?_⟩⟩⟩
  · by_cases hk : k ≤ 17
    · have q2 := (sp_r hk).mp q
      rw [vl_r hk]; exact h3 k a j q2.1 q2.2
    · have q1 := q.1
      rcases q1 with z | z | z | z | z | z | z | ⟨rfl, rfl, w⟩ | ⟨rfl, w, rfl⟩ | ⟨rfl, w, rfl⟩ | ⟨rfl, w, w2⟩ | ⟨rfl, w, w2⟩
      · omega
      · omega
      · omega
      · omega
      · omega
      · omega
      · omega
      · rcases (show j = 0 ∨ j = 1 ∨ j = 2 ∨ j = 3 by omega) with rfl | rfl | rfl | rfl
        · exact c1
        · exact c2
        · exact c3
        · exact c4
      · exact h4 a w
      · exact h5 a w
      · have := (SgN_iff.mp (h6 a (j / 9) w (by omega))).2 (j % 9) (by omega)
        rw [show 9 * (j / 9) + j % 9 = j by omega] at this
        exact this
      · exact (SgN_iff.mp (h7 a w)).2 j w2
  · have hk : k ≤ 17 := (q1.cp h1).le
    exact (h3 k a j ((sp_r hk).mpr ⟨q1, q2⟩)).trans (vl_r hk)
  · refine (h3 24 f (9 * t + i) ⟨(Or.inr (Or.inr (Or.inr (Or.inr (Or.inr (Or.inr (Or.inr (Or.inr (Or.inr (Or.inr (Or.inl ⟨rfl, hf, by omega⟩))))))))))), fun z => by omega⟩).trans ?_
    · rw [vl_24, show (9 * t + i) / 9 = t by omega, show (9 * t + i) % 9 = i by omega]
  · exact (h3 25 x i ⟨(Or.inr (Or.inr (Or.inr (Or.inr (Or.inr (Or.inr (Or.inr (Or.inr (Or.inr (Or.inr (Or.inr ⟨rfl, hx, hi⟩))))))))))), fun z => by omega⟩).trans vl_25
theorem sp.cp {u : Si} {k a j : Nat} (c : capU u) (h : sp u k a j) : cpX k a j := by
  obtain ⟨c1, c2, c3, c4, c5⟩ := c
  have h := h.1
  have c6 : a < n_f u → n_s u a ≤ 12 := c5 a
  rcases h with ⟨z1, z2, z3⟩ | ⟨z1, z2, z3, z4⟩ | ⟨z1, z2, z3, z4⟩ | ⟨z1, z2, z3, z4⟩ | ⟨z1, z2, z3, z4⟩ | ⟨z1, z2, z3, z4⟩ | ⟨z1, z2, z3⟩ | ⟨z1, z2, z3⟩ | ⟨z1, z2, z3⟩ | ⟨z1, z2, z3⟩ | ⟨z1, z2, z3⟩ | ⟨z1, z2, z3⟩
  · exact Or.inl (Or.inl ⟨z1, z2, z3⟩)
  · exact Or.inl (Or.inr (Or.inl ⟨z1, z2, by omega, z4⟩))
  · exact Or.inl (Or.inr (Or.inr (Or.inl ⟨z1, z2, by omega, z4⟩)))
  · exact Or.inl (Or.inr (Or.inr (Or.inr (Or.inl ⟨z1, z2, by omega, by have := c6 z3; omega⟩))))
  · exact Or.inl (Or.inr (Or.inr (Or.inr (Or.inr (Or.inl ⟨z1, z2, by omega, z4⟩)))))
  · exact Or.inl (Or.inr (Or.inr (Or.inr (Or.inr (Or.inr (Or.inl ⟨z1, z2, by omega, z4⟩))))))
  · exact Or.inl (Or.inr (Or.inr (Or.inr (Or.inr (Or.inr (Or.inr ⟨z1, z2, by omega⟩))))))
  · exact (Or.inr (Or.inl ⟨z1, z2, z3⟩))
  · exact (Or.inr (Or.inr (Or.inl ⟨z1, by omega, z3⟩)))
  · exact (Or.inr (Or.inr (Or.inr (Or.inr (Or.inl ⟨z1, by omega, z3⟩)))))
  · exact (Or.inr (Or.inr (Or.inr (Or.inr (Or.inr (Or.inl ⟨z1, by omega, by have := c6 z2; omega⟩))))))
  · exact (Or.inr (Or.inr (Or.inr (Or.inr (Or.inr (Or.inr ⟨z1, by omega, z3⟩))))))
theorem LA.ev {r : Nat → Int64} {u : Si} {k a j : Nat} (h : LA r u) (q : sp u k a j) : r (pl k a j) = vl u k a j := (LA_iff.mp h).2.2 k a j q
theorem LA.gs {r : Nat → Int64} {u : Si} (h : LA r u) : gS u := (LA_iff.mp h).2.1
/-- one write -/
theorem LA_step {r : Nat → Int64} {u : Si} {k a j : Nat} {v : Int64} (hc : cpX k a j) (c : capU u) (g : gS u) (hv : sp u k a j → v = vl u k a j) (he : ∀ k2 a2 j2, sp u k2 a2 j2 → ¬ (k2 = k ∧ a2 = a ∧ j2 = j) → r (pl k2 a2 j2) = vl u k2 a2 j2) : LA (updR r (pl k a j) v) u := LA_iff.mpr ⟨c, g, fun k2 a2 j2 q => by
  by_cases w : k2 = k ∧ a2 = a ∧ j2 = j
  · obtain ⟨rfl, rfl, rfl⟩ := w
    rw [updR_e]; exact hv q
  · rw [updR_n (pl_ne hc (q.cp c) w)]; exact he k2 a2 j2 q w⟩
theorem LA.off {r : Nat → Int64} {u : Si} {v : Int64} (k a j : Nat) (h : LA r u) (hc : cpX k a j) (hn : ¬ sp u k a j) : LA (updR r (pl k a j) v) u := LA_step hc h.1 h.gs (fun q => absurd q hn) (fun _ _ _ q _ => h.ev q)
theorem vl_ui {u : Si} {k a j k2 a2 j2 : Nat} {v : Int32} (hk : k ≠ 16) (w : ¬ (k2 = k ∧ a2 = a ∧ j2 = j)) : vl (u_i u k a j v) k2 a2 j2 = vl u k2 a2 j2 := by
  unfold vl
  by_cases h1 : k2 ≤ 17
  · rw [if_pos h1, if_pos h1, q_iu, if_neg w]
  · rw [if_neg h1, if_neg h1, q_ik (show 16 ≠ k from fun q => hk q.symm)]; rfl
theorem LA.w {r : Nat → Int64} {u : Si} {v : Int32} (k a j : Nat) (h : LA r u) (hc : cpR k a j) (h4 : k ≠ 4) (h16 : k ≠ 16) : LA (updR r (pl k a j) (eb k v)) (u_i u k a j v) := LA_step (Or.inl hc) h.1 h.gs (fun _ => by rw [vl_r hc.le, q_ie]) (fun k2 a2 j2 q w => by
  rw [vl_ui h16 w]
  exact h.ev ⟨q.1, fun z => by
    have := q.2 z
    rw [q_ik (show 4 ≠ k from fun y => h4 y.symm)] at this
    exact this⟩)
theorem LA.w4 {r : Nat → Int64} {u : Si} {v : Int32} (f : Nat) (h : LA r u) (hf : f < 8) (hv : v = 4 ∨ n_f u ≤ f ∨ ¬ q_i u 4 f 0 = 4) : LA (updR r (pl 4 f 0) v.toInt64) (u_i u 4 f 0 v) := by
  have hc : cpR 4 f 0 := Or.inr (Or.inr (Or.inl ⟨by decide, by decide, hf, rfl⟩))
  rw [show v.toInt64 = eb 4 v from (eb_o (by decide) (by decide)).symm]
  refine LA_step (Or.inl hc) h.1 h.gs (fun _ => by rw [vl_r hc.le, q_ie]) (fun k2 a2 j2 q w => ?_)
  rw [vl_ui (by decide) w]
  refine h.ev ⟨q.1, fun z => ?_⟩
  have q2 := q.2 z
  by_cases e : a2 = f
  · subst e
    rw [q_ie] at q2
    rcases hv with y | y | y
    · exact absurd y q2
    · have q1 : spN (n_f u) (n_p u) (n_e u) (n_d u) (n_s u a2) k2 a2 j2 := q.1
      unfold spN at q1
      omega
    · exact y
  · rw [q_ia e] at q2; exact q2
/-- a dispute's end: its flag and what was chosen -/
theorem LA.w16 {r : Nat → Int64} {u : Si} {v : Int32} (d : Nat) (h : LA r u) (hd : d < 10) : LA (updR (updR r (pl 23 d 0) (if v = 0 then 0 else 1)) (pl 16 d 0) (eb 16 v)) (u_i u 16 d 0 v) := by
  have hc : cpR 16 d 0 := Or.inr (Or.inr (Or.inr (Or.inr (Or.inr (Or.inl ⟨by decide, by decide, hd, rfl⟩)))))
  refine LA_step (Or.inl hc) h.1 h.gs (fun _ => by rw [vl_r hc.le, q_ie]) (fun k2 a2 j2 q w => ?_)
  by_cases w2 : k2 = 23 ∧ a2 = d ∧ j2 = 0
  · obtain ⟨rfl, rfl, rfl⟩ := w2
    rw [updR_e]
    show _ = (if q_i (u_i u 16 a2 0 v) 16 a2 0 = 0 then 0 else 1)
    rw [q_ie]
  · have q' : sp u k2 a2 j2 := ⟨q.1, fun z => by
      have := q.2 z
      rw [q_ik (by decide)] at this
      exact this⟩
    rw [updR_n (pl_ne (cX_23 hd) (q'.cp h.1) w2), h.ev q']
    unfold vl
    by_cases h1 : k2 ≤ 17
    · rw [if_pos h1, if_pos h1, q_iu, if_neg w]
    · rw [if_neg h1, if_neg h1]
      by_cases h2 : k2 = 23
      · subst h2
        have q1 : spN (n_f u) (n_p u) (n_e u) (n_d u) (n_s u a2) 23 a2 j2 := q.1
        unfold spN at q1
        have e : a2 ≠ d := by omega
        rw [q_ia e]; rfl
      · rw [if_neg h2, if_neg h2]; rfl
theorem vl_un {u : Si} {k n k2 a2 j2 : Nat} (hk : k < 4) (w : ¬ (k2 = 18 ∧ j2 = k)) : vl (u_n u k 0 n) k2 a2 j2 = vl u k2 a2 j2 := by
  unfold vl
  by_cases h1 : k2 ≤ 17
  · rw [if_pos h1, if_pos h1]; rfl
  · rw [if_neg h1, if_neg h1]
    by_cases h2 : k2 = 18
    · rw [if_pos h2, if_pos h2, q_nk (fun q => w ⟨h2, q⟩)]
    · rw [if_neg h2, if_neg h2, show n_s (u_n u k 0 n) a2 = n_s u a2 from q_nk (by omega)]; rfl
/-- one more person -/
theorem LA.growP {r : Nat → Int64} {u : Si} (h : LA r u) (hn : n_p u < 6) (g : ∀ k, 1 ≤ k → k ≤ 3 → r (pl k (n_p u) 0) = eb k (q_i u k (n_p u) 0)) : LA (updR r (pl 18 0 1) (lN (n_p u + 1))) (u_n u 1 0 (n_p u + 1)) := by
  obtain ⟨c1, c2, c3, c4, c5⟩ := h.1
  refine LA_step (cX_18 (by decide)) ⟨c1, by show n_p u + 1 ≤ 6; omega, c3, c4, c5⟩ h.gs (fun _ => rfl) (fun k2 a2 j2 q w => ?_)
  have q1 : spN (n_f u) (n_p u + 1) (n_e u) (n_d u) (n_s u a2) k2 a2 j2 := q.1
  have w2 : ¬ (k2 = 18 ∧ j2 = 1) := fun z => by
    obtain ⟨rfl, rfl⟩ := z
    unfold spN at q1
    omega
  rw [vl_un (by decide) w2]
  rcases q1 with ⟨z1, z2, z3⟩ | ⟨z1, z2, z3, z4⟩ | ⟨z1, z2, z3, z4⟩ | ⟨z1, z2, z3, z4⟩ | ⟨z1, z2, z3, z4⟩ | ⟨z1, z2, z3, z4⟩ | ⟨z1, z2, z3⟩ | ⟨z1, z2, z3⟩ | ⟨z1, z2, z3⟩ | ⟨z1, z2, z3⟩ | ⟨z1, z2, z3⟩ | ⟨z1, z2, z3⟩
  · exact h.ev ⟨(Or.inl ⟨z1, z2, z3⟩), q.2⟩
  · by_cases w9 : a2 = n_p u
    · subst w9
      subst z4
      rw [vl_r (by omega)]
      exact g k2 z1 z2
    · exact h.ev ⟨(Or.inr (Or.inl ⟨z1, z2, by omega, z4⟩)), q.2⟩
  · exact h.ev ⟨(Or.inr (Or.inr (Or.inl ⟨z1, z2, z3, z4⟩))), q.2⟩
  · exact h.ev ⟨(Or.inr (Or.inr (Or.inr (Or.inl ⟨z1, z2, z3, z4⟩)))), q.2⟩
  · exact h.ev ⟨(Or.inr (Or.inr (Or.inr (Or.inr (Or.inl ⟨z1, z2, z3, z4⟩))))), q.2⟩
  · exact h.ev ⟨(Or.inr (Or.inr (Or.inr (Or.inr (Or.inr (Or.inl ⟨z1, z2, z3, z4⟩)))))), q.2⟩
  · exact h.ev ⟨(Or.inr (Or.inr (Or.inr (Or.inr (Or.inr (Or.inr (Or.inl ⟨z1, z2, z3⟩))))))), q.2⟩
  · exact h.ev ⟨(Or.inr (Or.inr (Or.inr (Or.inr (Or.inr (Or.inr (Or.inr (Or.inl ⟨z1, z2, z3⟩)))))))), q.2⟩
  · exact h.ev ⟨(Or.inr (Or.inr (Or.inr (Or.inr (Or.inr (Or.inr (Or.inr (Or.inr (Or.inl ⟨z1, z2, z3⟩))))))))), q.2⟩
  · exact h.ev ⟨(Or.inr (Or.inr (Or.inr (Or.inr (Or.inr (Or.inr (Or.inr (Or.inr (Or.inr (Or.inl ⟨z1, z2, z3⟩)))))))))), q.2⟩
  · exact h.ev ⟨(Or.inr (Or.inr (Or.inr (Or.inr (Or.inr (Or.inr (Or.inr (Or.inr (Or.inr (Or.inr (Or.inl ⟨z1, z2, z3⟩))))))))))), q.2⟩
  · exact h.ev ⟨(Or.inr (Or.inr (Or.inr (Or.inr (Or.inr (Or.inr (Or.inr (Or.inr (Or.inr (Or.inr (Or.inr ⟨z1, z2, z3⟩))))))))))), q.2⟩
/-- one more file, empty -/
theorem LA.growF {r : Nat → Int64} {u : Si} (h : LA r u) (hn : n_f u < 8) (h0 : n_s u (n_f u) = 0) (g : ∀ k, 4 ≤ k → k ≤ 8 → r (pl k (n_f u) 0) = eb k (q_i u k (n_f u) 0)) (g2 : r (pl 17 0 (n_f u)) = eb 17 (q_i u 17 0 (n_f u))) (g3 : r (pl 19 (n_f u) 0) = 0) : LA (updR r (pl 18 0 0) (lN (n_f u + 1))) (u_n u 0 0 (n_f u + 1)) := by
  obtain ⟨c1, c2, c3, c4, c5⟩ := h.1
  have hc : capU (u_n u 0 0 (n_f u + 1)) := ⟨by show n_f u + 1 ≤ 8; omega, c2, c3, c4, fun f hf => by
    have hf2 : f < n_f u + 1 := hf
    show n_s u f ≤ 12
    by_cases e : f = n_f u
    · rw [e, h0]; omega
    · exact c5 f (by omega)⟩
  have hg : gS (u_n u 0 0 (n_f u + 1)) := ⟨fun f t hf ht => by
    have hf2 : f < n_f u + 1 := hf
    have ht2 : t < n_s u f := ht
    by_cases e : f = n_f u
    · rw [e, h0] at ht2; omega
    · exact h.gs.1 f t (by omega) ht2, h.gs.2⟩
  refine LA_step (cX_18 (by decide)) hc hg (fun _ => rfl) (fun k2 a2 j2 q w => ?_)
  have q1 : spN (n_f u + 1) (n_p u) (n_e u) (n_d u) (n_s u a2) k2 a2 j2 := q.1
  have w2 : ¬ (k2 = 18 ∧ j2 = 0) := fun z => by
    obtain ⟨rfl, rfl⟩ := z
    unfold spN at q1
    omega
  rw [vl_un (by decide) w2]
  have s0 : a2 = n_f u → n_s u a2 = 0 := fun z => by rw [z]; exact h0
  rcases q1 with ⟨z1, z2, z3⟩ | ⟨z1, z2, z3, z4⟩ | ⟨z1, z2, z3, z4⟩ | ⟨z1, z2, z3, z4⟩ | ⟨z1, z2, z3, z4⟩ | ⟨z1, z2, z3, z4⟩ | ⟨z1, z2, z3⟩ | ⟨z1, z2, z3⟩ | ⟨z1, z2, z3⟩ | ⟨z1, z2, z3⟩ | ⟨z1, z2, z3⟩ | ⟨z1, z2, z3⟩
  · exact h.ev ⟨(Or.inl ⟨z1, z2, z3⟩), q.2⟩
  · exact h.ev ⟨(Or.inr (Or.inl ⟨z1, z2, z3, z4⟩)), q.2⟩
  · by_cases w9 : a2 = n_f u
    · subst w9
      subst z4
      rw [vl_r (by omega)]
      exact g k2 z1 z2
    · exact h.ev ⟨(Or.inr (Or.inr (Or.inl ⟨z1, z2, by omega, z4⟩))), q.2⟩
  · by_cases w9 : a2 = n_f u
    · subst w9
      have := s0 rfl
      omega
    · exact h.ev ⟨(Or.inr (Or.inr (Or.inr (Or.inl ⟨z1, z2, by omega, z4⟩)))), q.2⟩
  · exact h.ev ⟨(Or.inr (Or.inr (Or.inr (Or.inr (Or.inl ⟨z1, z2, z3, z4⟩))))), q.2⟩
  · exact h.ev ⟨(Or.inr (Or.inr (Or.inr (Or.inr (Or.inr (Or.inl ⟨z1, z2, z3, z4⟩)))))), q.2⟩
  · by_cases w9 : j2 = n_f u
    · subst w9 z1 z2
      exact g2
    · exact h.ev ⟨(Or.inr (Or.inr (Or.inr (Or.inr (Or.inr (Or.inr (Or.inl ⟨z1, z2, by omega⟩))))))), q.2⟩
  · exact h.ev ⟨(Or.inr (Or.inr (Or.inr (Or.inr (Or.inr (Or.inr (Or.inr (Or.inl ⟨z1, z2, z3⟩)))))))), q.2⟩
  · by_cases w9 : a2 = n_f u
    · subst w9
      subst z1 z3
      rw [g3]
      show _ = lN (n_s u (n_f u))
      rw [h0]; rfl
    · exact h.ev ⟨(Or.inr (Or.inr (Or.inr (Or.inr (Or.inr (Or.inr (Or.inr (Or.inr (Or.inl ⟨z1, by omega, z3⟩))))))))), q.2⟩
  · exact h.ev ⟨(Or.inr (Or.inr (Or.inr (Or.inr (Or.inr (Or.inr (Or.inr (Or.inr (Or.inr (Or.inl ⟨z1, z2, z3⟩)))))))))), q.2⟩
  · by_cases w9 : a2 = n_f u
    · subst w9
      have := s0 rfl
      omega
    · exact h.ev ⟨(Or.inr (Or.inr (Or.inr (Or.inr (Or.inr (Or.inr (Or.inr (Or.inr (Or.inr (Or.inr (Or.inl ⟨z1, by omega, z3⟩))))))))))), q.2⟩
  · exact h.ev ⟨(Or.inr (Or.inr (Or.inr (Or.inr (Or.inr (Or.inr (Or.inr (Or.inr (Or.inr (Or.inr (Or.inr ⟨z1, z2, z3⟩))))))))))), q.2⟩
/-- one more segment of a file -/
theorem LA.growS {r : Nat → Int64} {u : Si} {f : Nat} (h : LA r u) (hf : f < n_f u) (hn : n_s u f < 12) (hg : gSeg (q_g u 0 f (n_s u f))) (g : ∀ i, i < 9 → r (pl 24 f (9 * n_s u f + i)) = wv (q_g u 0 f (n_s u f)) i) (g9 : r (pl 9 f (n_s u f)) = eb 9 (q_i u 9 f (n_s u f))) (g10 : r (pl 10 f (n_s u f)) = eb 10 (q_i u 10 f (n_s u f))) : LA (updR r (pl 19 f 0) (lN (n_s u f + 1))) (u_n u 4 f (n_s u f + 1)) := by
  obtain ⟨c1, c2, c3, c4, c5⟩ := h.1
  have es : ∀ f2, n_s (u_n u 4 f (n_s u f + 1)) f2 = if f2 = f then n_s u f + 1 else n_s u f2 := fun f2 => by
    rw [show n_s (u_n u 4 f (n_s u f + 1)) f2 = _ from q_nu]
    by_cases e : f2 = f
    · rw [if_pos ⟨rfl, e⟩, if_pos e]
    · rw [if_neg (fun z => e z.2), if_neg e]
  have hc : capU (u_n u 4 f (n_s u f + 1)) := ⟨c1, c2, c3, c4, fun f2 hf2 => by
    rw [es f2]
    have := c5 f2 hf2
    split <;> omega⟩
  have hgs : gS (u_n u 4 f (n_s u f + 1)) := ⟨fun f2 t hf2 ht => by
    rw [es f2] at ht
    by_cases e : f2 = f
    · subst e
      rw [if_pos rfl] at ht
      by_cases e2 : t = n_s u f2
      · rw [e2]; exact hg
      · exact h.gs.1 f2 t hf (by omega)
    · rw [if_neg e] at ht
      exact h.gs.1 f2 t hf2 ht, h.gs.2⟩
  refine LA_step (cX_19 (by omega)) hc hgs (fun _ => by show _ = lN (n_s (u_n u 4 f (n_s u f + 1)) f); rw [es, if_pos rfl]) (fun k2 a2 j2 q w => ?_)
  have q1 : spN (n_f u) (n_p u) (n_e u) (n_d u) (n_s (u_n u 4 f (n_s u f + 1)) a2) k2 a2 j2 := q.1
  rw [es a2] at q1
  have ev : vl (u_n u 4 f (n_s u f + 1)) k2 a2 j2 = vl u k2 a2 j2 := by
    unfold vl
    by_cases h1 : k2 ≤ 17
    · rw [if_pos h1, if_pos h1]; rfl
    · rw [if_neg h1, if_neg h1]
      by_cases h2 : k2 = 18
      · subst h2
        rw [if_pos rfl, if_pos rfl, q_nk (by unfold spN at q1; omega)]
      · rw [if_neg h2, if_neg h2]
        by_cases h3 : k2 = 19
        · subst h3
          rw [if_pos rfl, if_pos rfl, es, if_neg (fun e => w ⟨rfl, e, by unfold spN at q1; omega⟩)]
        · rw [if_neg h3, if_neg h3]; rfl
  rw [ev]
  by_cases e : a2 = f
  · subst e
    rw [if_pos rfl] at q1
    rcases q1 with ⟨z1, z2, z3⟩ | ⟨z1, z2, z3, z4⟩ | ⟨z1, z2, z3, z4⟩ | ⟨z1, z2, z3, z4⟩ | ⟨z1, z2, z3, z4⟩ | ⟨z1, z2, z3, z4⟩ | ⟨z1, z2, z3⟩ | ⟨z1, z2, z3⟩ | ⟨z1, z2, z3⟩ | ⟨z1, z2, z3⟩ | ⟨z1, z2, z3⟩ | ⟨z1, z2, z3⟩
    · exact h.ev ⟨(Or.inl ⟨z1, z2, z3⟩), q.2⟩
    · exact h.ev ⟨(Or.inr (Or.inl ⟨z1, z2, z3, z4⟩)), q.2⟩
    · exact h.ev ⟨(Or.inr (Or.inr (Or.inl ⟨z1, z2, z3, z4⟩))), q.2⟩
    · by_cases w9 : j2 = n_s u a2
      · subst w9
        rcases (show k2 = 9 ∨ k2 = 10 by omega) with rfl | rfl
        · exact g9
        · exact g10
      · exact h.ev ⟨(Or.inr (Or.inr (Or.inr (Or.inl ⟨z1, z2, z3, by omega⟩)))), q.2⟩
    · exact h.ev ⟨(Or.inr (Or.inr (Or.inr (Or.inr (Or.inl ⟨z1, z2, z3, z4⟩))))), q.2⟩
    · exact h.ev ⟨(Or.inr (Or.inr (Or.inr (Or.inr (Or.inr (Or.inl ⟨z1, z2, z3, z4⟩)))))), q.2⟩
    · exact h.ev ⟨(Or.inr (Or.inr (Or.inr (Or.inr (Or.inr (Or.inr (Or.inl ⟨z1, z2, z3⟩))))))), q.2⟩
    · exact h.ev ⟨(Or.inr (Or.inr (Or.inr (Or.inr (Or.inr (Or.inr (Or.inr (Or.inl ⟨z1, z2, z3⟩)))))))), q.2⟩
    · exact h.ev ⟨(Or.inr (Or.inr (Or.inr (Or.inr (Or.inr (Or.inr (Or.inr (Or.inr (Or.inl ⟨z1, z2, z3⟩))))))))), q.2⟩
    · exact h.ev ⟨(Or.inr (Or.inr (Or.inr (Or.inr (Or.inr (Or.inr (Or.inr (Or.inr (Or.inr (Or.inl ⟨z1, z2, z3⟩)))))))))), q.2⟩
    · by_cases w9 : 9 * n_s u a2 ≤ j2
      · subst z1
        rw [vl_24, show j2 / 9 = n_s u a2 by omega, ← g (j2 % 9) (by omega), show 9 * n_s u a2 + j2 % 9 = j2 by omega]
      · exact h.ev ⟨(Or.inr (Or.inr (Or.inr (Or.inr (Or.inr (Or.inr (Or.inr (Or.inr (Or.inr (Or.inr (Or.inl ⟨z1, z2, by omega⟩))))))))))), q.2⟩
    · exact h.ev ⟨(Or.inr (Or.inr (Or.inr (Or.inr (Or.inr (Or.inr (Or.inr (Or.inr (Or.inr (Or.inr (Or.inr ⟨z1, z2, z3⟩))))))))))), q.2⟩
  · rw [if_neg e] at q1
    exact h.ev ⟨q1, q.2⟩
/-- one more entry -/
theorem LA.growE {r : Nat → Int64} {u : Si} (h : LA r u) (hn : n_e u < 40) (hg : gSeg (q_g u 1 (n_e u) 0)) (g : ∀ i, i < 9 → r (pl 25 (n_e u) i) = wv (q_g u 1 (n_e u) 0) i) (g2 : ∀ k, 11 ≤ k → k ≤ 12 → r (pl k (n_e u) 0) = eb k (q_i u k (n_e u) 0)) : LA (updR r (pl 18 0 2) (lN (n_e u + 1))) (u_n u 2 0 (n_e u + 1)) := by
  obtain ⟨c1, c2, c3, c4, c5⟩ := h.1
  refine LA_step (cX_18 (by decide)) ⟨c1, c2, by show n_e u + 1 ≤ 40; omega, c4, c5⟩ ⟨h.gs.1, fun x hx => by
    have hx2 : x < n_e u + 1 := hx
    by_cases e : x = n_e u
    · rw [e]; exact hg
    · exact h.gs.2 x (by omega)⟩ (fun _ => rfl) (fun k2 a2 j2 q w => ?_)
  have q1 : spN (n_f u) (n_p u) (n_e u + 1) (n_d u) (n_s u a2) k2 a2 j2 := q.1
  have w2 : ¬ (k2 = 18 ∧ j2 = 2) := fun z => by
    obtain ⟨rfl, rfl⟩ := z
    unfold spN at q1
    omega
  rw [vl_un (by decide) w2]
  rcases q1 with ⟨z1, z2, z3⟩ | ⟨z1, z2, z3, z4⟩ | ⟨z1, z2, z3, z4⟩ | ⟨z1, z2, z3, z4⟩ | ⟨z1, z2, z3, z4⟩ | ⟨z1, z2, z3, z4⟩ | ⟨z1, z2, z3⟩ | ⟨z1, z2, z3⟩ | ⟨z1, z2, z3⟩ | ⟨z1, z2, z3⟩ | ⟨z1, z2, z3⟩ | ⟨z1, z2, z3⟩
  · exact h.ev ⟨(Or.inl ⟨z1, z2, z3⟩), q.2⟩
  · exact h.ev ⟨(Or.inr (Or.inl ⟨z1, z2, z3, z4⟩)), q.2⟩
  · exact h.ev ⟨(Or.inr (Or.inr (Or.inl ⟨z1, z2, z3, z4⟩))), q.2⟩
  · exact h.ev ⟨(Or.inr (Or.inr (Or.inr (Or.inl ⟨z1, z2, z3, z4⟩)))), q.2⟩
  · by_cases w9 : a2 = n_e u
    · subst w9
      subst z4
      rw [vl_r (by omega)]
      exact g2 k2 z1 z2
    · exact h.ev ⟨(Or.inr (Or.inr (Or.inr (Or.inr (Or.inl ⟨z1, z2, by omega, z4⟩))))), q.2⟩
  · exact h.ev ⟨(Or.inr (Or.inr (Or.inr (Or.inr (Or.inr (Or.inl ⟨z1, z2, z3, z4⟩)))))), q.2⟩
  · exact h.ev ⟨(Or.inr (Or.inr (Or.inr (Or.inr (Or.inr (Or.inr (Or.inl ⟨z1, z2, z3⟩))))))), q.2⟩
  · exact h.ev ⟨(Or.inr (Or.inr (Or.inr (Or.inr (Or.inr (Or.inr (Or.inr (Or.inl ⟨z1, z2, z3⟩)))))))), q.2⟩
  · exact h.ev ⟨(Or.inr (Or.inr (Or.inr (Or.inr (Or.inr (Or.inr (Or.inr (Or.inr (Or.inl ⟨z1, z2, z3⟩))))))))), q.2⟩
  · exact h.ev ⟨(Or.inr (Or.inr (Or.inr (Or.inr (Or.inr (Or.inr (Or.inr (Or.inr (Or.inr (Or.inl ⟨z1, z2, z3⟩)))))))))), q.2⟩
  · exact h.ev ⟨(Or.inr (Or.inr (Or.inr (Or.inr (Or.inr (Or.inr (Or.inr (Or.inr (Or.inr (Or.inr (Or.inl ⟨z1, z2, z3⟩))))))))))), q.2⟩
  · by_cases w9 : a2 = n_e u
    · subst w9
      subst z1
      exact g j2 z3
    · exact h.ev ⟨(Or.inr (Or.inr (Or.inr (Or.inr (Or.inr (Or.inr (Or.inr (Or.inr (Or.inr (Or.inr (Or.inr ⟨z1, by omega, z3⟩))))))))))), q.2⟩
/-- one more dispute -/
theorem LA.growD {r : Nat → Int64} {u : Si} (h : LA r u) (hn : n_d u < 10) (g : ∀ k, 13 ≤ k → k ≤ 16 → r (pl k (n_d u) 0) = eb k (q_i u k (n_d u) 0)) (g2 : r (pl 23 (n_d u) 0) = if q_i u 16 (n_d u) 0 = 0 then 0 else 1) : LA (updR r (pl 18 0 3) (lN (n_d u + 1))) (u_n u 3 0 (n_d u + 1)) := by
  obtain ⟨c1, c2, c3, c4, c5⟩ := h.1
  refine LA_step (cX_18 (by decide)) ⟨c1, c2, c3, by show n_d u + 1 ≤ 10; omega, c5⟩ h.gs (fun _ => rfl) (fun k2 a2 j2 q w => ?_)
  have q1 : spN (n_f u) (n_p u) (n_e u) (n_d u + 1) (n_s u a2) k2 a2 j2 := q.1
  have w2 : ¬ (k2 = 18 ∧ j2 = 3) := fun z => by
    obtain ⟨rfl, rfl⟩ := z
    unfold spN at q1
    omega
  rw [vl_un (by decide) w2]
  rcases q1 with ⟨z1, z2, z3⟩ | ⟨z1, z2, z3, z4⟩ | ⟨z1, z2, z3, z4⟩ | ⟨z1, z2, z3, z4⟩ | ⟨z1, z2, z3, z4⟩ | ⟨z1, z2, z3, z4⟩ | ⟨z1, z2, z3⟩ | ⟨z1, z2, z3⟩ | ⟨z1, z2, z3⟩ | ⟨z1, z2, z3⟩ | ⟨z1, z2, z3⟩ | ⟨z1, z2, z3⟩
  · exact h.ev ⟨(Or.inl ⟨z1, z2, z3⟩), q.2⟩
  · exact h.ev ⟨(Or.inr (Or.inl ⟨z1, z2, z3, z4⟩)), q.2⟩
  · exact h.ev ⟨(Or.inr (Or.inr (Or.inl ⟨z1, z2, z3, z4⟩))), q.2⟩
  · exact h.ev ⟨(Or.inr (Or.inr (Or.inr (Or.inl ⟨z1, z2, z3, z4⟩)))), q.2⟩
  · exact h.ev ⟨(Or.inr (Or.inr (Or.inr (Or.inr (Or.inl ⟨z1, z2, z3, z4⟩))))), q.2⟩
  · by_cases w9 : a2 = n_d u
    · subst w9
      subst z4
      rw [vl_r (by omega)]
      exact g k2 z1 z2
    · exact h.ev ⟨(Or.inr (Or.inr (Or.inr (Or.inr (Or.inr (Or.inl ⟨z1, z2, by omega, z4⟩)))))), q.2⟩
  · exact h.ev ⟨(Or.inr (Or.inr (Or.inr (Or.inr (Or.inr (Or.inr (Or.inl ⟨z1, z2, z3⟩))))))), q.2⟩
  · exact h.ev ⟨(Or.inr (Or.inr (Or.inr (Or.inr (Or.inr (Or.inr (Or.inr (Or.inl ⟨z1, z2, z3⟩)))))))), q.2⟩
  · exact h.ev ⟨(Or.inr (Or.inr (Or.inr (Or.inr (Or.inr (Or.inr (Or.inr (Or.inr (Or.inl ⟨z1, z2, z3⟩))))))))), q.2⟩
  · by_cases w9 : a2 = n_d u
    · subst w9
      subst z1 z3
      exact g2
    · exact h.ev ⟨(Or.inr (Or.inr (Or.inr (Or.inr (Or.inr (Or.inr (Or.inr (Or.inr (Or.inr (Or.inl ⟨z1, by omega, z3⟩)))))))))), q.2⟩
  · exact h.ev ⟨(Or.inr (Or.inr (Or.inr (Or.inr (Or.inr (Or.inr (Or.inr (Or.inr (Or.inr (Or.inr (Or.inl ⟨z1, z2, z3⟩))))))))))), q.2⟩
  · exact h.ev ⟨(Or.inr (Or.inr (Or.inr (Or.inr (Or.inr (Or.inr (Or.inr (Or.inr (Or.inr (Or.inr (Or.inr ⟨z1, z2, z3⟩))))))))))), q.2⟩
/-- a number, a segment, a size where the row doesn't speak of it -/
theorem LA.poke {r : Nat → Int64} {u : Si} {v : Int32} (k a j : Nat) (h : LA r u) (hc : cpR k a j) (hn : ¬ inR u k a j) (h16 : k ≠ 16) : LA r (u_i u k a j v) := by
  have w := h.w (v := v) k a j hc
  refine LA_iff.mpr ⟨h.1, h.gs, fun k2 a2 j2 q => ?_⟩
  have q1 : spN (n_f u) (n_p u) (n_e u) (n_d u) (n_s u a2) k2 a2 j2 := q.1
  by_cases w2 : k2 = k ∧ a2 = a ∧ j2 = j
  · obtain ⟨rfl, rfl, rfl⟩ := w2
    exact absurd (spN_r hc.le q1) hn
  · rw [vl_ui h16 w2]
    refine h.ev ⟨q.1, fun z => ?_⟩
    have q2 := q.2 z
    by_cases e : k = 4 ∧ a = a2 ∧ j = 0
    · obtain ⟨rfl, rfl, rfl⟩ := e
      exact absurd (show inR u 4 a 0 from Or.inr (Or.inr (Or.inl ⟨by decide, by decide, by unfold spN at q1; omega, rfl⟩))) hn
    · rw [q_iu, if_neg (fun y => e ⟨y.1.symm, y.2.1.symm, y.2.2.symm⟩)] at q2; exact q2
theorem LA.pokeG {r : Nat → Int64} {u : Si} {v : Sg} (k a j : Nat) (h : LA r u) (hn : ¬ inG u k a j) : LA r (u_g u k a j v) := by
  have e : ∀ k2 a2 j2, inG u k2 a2 j2 → q_g (u_g u k a j v) k2 a2 j2 = q_g u k2 a2 j2 := fun k2 a2 j2 q => by
    rw [q_gu, if_neg (fun z => hn (by rw [← z.1, ← z.2.1, ← z.2.2]; exact q))]
  refine LA_iff.mpr ⟨h.1, ⟨fun f t hf ht => by rw [e 0 f t (Or.inl ⟨rfl, hf, ht⟩)]; exact h.gs.1 f t hf ht, fun x hx => by rw [e 1 x 0 (Or.inr ⟨rfl, hx, rfl⟩)]; exact h.gs.2 x hx⟩, fun k2 a2 j2 q => ?_⟩
  rw [h.ev q]
  have q1 : spN (n_f u) (n_p u) (n_e u) (n_d u) (n_s u a2) k2 a2 j2 := q.1
  unfold spN at q1
  unfold vl
  by_cases h24 : k2 = 24
  · subst h24
    rw [if_neg (by decide), if_neg (by decide), if_neg (by decide), if_neg (by decide), if_pos rfl, if_neg (by decide), if_neg (by decide), if_neg (by decide), if_neg (by decide), if_pos rfl, e 0 a2 (j2 / 9) (Or.inl ⟨rfl, by omega, by omega⟩)]
  · by_cases h25 : k2 = 25
    · subst h25
      rw [if_neg (by decide), if_neg (by decide), if_neg (by decide), if_neg (by decide), if_neg (by decide), if_neg (by decide), if_neg (by decide), if_neg (by decide), if_neg (by decide), if_neg (by decide), e 1 a2 0 (Or.inr ⟨rfl, by omega, rfl⟩)]
    · by_cases h1 : k2 ≤ 17
      · rw [if_pos h1, if_pos h1]; rfl
      · rw [if_neg h1, if_neg h1, if_neg h24, if_neg h24]
        by_cases h2 : k2 = 18
        · rw [if_pos h2, if_pos h2]; rfl
        · rw [if_neg h2, if_neg h2]
          by_cases h3 : k2 = 19
          · rw [if_pos h3, if_pos h3]; rfl
          · rw [if_neg h3, if_neg h3]
            by_cases h4 : k2 = 23
            · rw [if_pos h4, if_pos h4]; rfl
            · omega
theorem LA.pokeN {r : Nat → Int64} {u : Si} {f n : Nat} (h : LA r u) (hn : n_f u ≤ f) : LA r (u_n u 4 f n) := by
  have es : ∀ f2, f2 < n_f u → n_s (u_n u 4 f n) f2 = n_s u f2 := fun f2 hf2 => q_na (by omega)
  obtain ⟨c1, c2, c3, c4, c5⟩ := h.1
  refine LA_iff.mpr ⟨⟨c1, c2, c3, c4, fun f2 hf2 => by rw [es f2 hf2]; exact c5 f2 hf2⟩, ⟨fun f2 t hf2 ht => h.gs.1 f2 t hf2 (by rw [← es f2 hf2]; exact ht), h.gs.2⟩, fun k2 a2 j2 q => ?_⟩
  have q1 : spN (n_f u) (n_p u) (n_e u) (n_d u) (n_s (u_n u 4 f n) a2) k2 a2 j2 := q.1
  have q3 : spN (n_f u) (n_p u) (n_e u) (n_d u) (n_s u a2) k2 a2 j2 := by
    by_cases w : a2 < n_f u
    · rw [← es a2 w]; exact q1
    · rcases q1 with ⟨z1, z2, z3⟩ | ⟨z1, z2, z3, z4⟩ | ⟨z1, z2, z3, z4⟩ | ⟨z1, z2, z3, z4⟩ | ⟨z1, z2, z3, z4⟩ | ⟨z1, z2, z3, z4⟩ | ⟨z1, z2, z3⟩ | ⟨z1, z2, z3⟩ | ⟨z1, z2, z3⟩ | ⟨z1, z2, z3⟩ | ⟨z1, z2, z3⟩ | ⟨z1, z2, z3⟩
      · exact (Or.inl ⟨z1, z2, z3⟩)
      · exact (Or.inr (Or.inl ⟨z1, z2, z3, z4⟩))
      · exact (Or.inr (Or.inr (Or.inl ⟨z1, z2, z3, z4⟩)))
      · omega
      · exact (Or.inr (Or.inr (Or.inr (Or.inr (Or.inl ⟨z1, z2, z3, z4⟩)))))
      · exact (Or.inr (Or.inr (Or.inr (Or.inr (Or.inr (Or.inl ⟨z1, z2, z3, z4⟩))))))
      · exact (Or.inr (Or.inr (Or.inr (Or.inr (Or.inr (Or.inr (Or.inl ⟨z1, z2, z3⟩)))))))
      · exact (Or.inr (Or.inr (Or.inr (Or.inr (Or.inr (Or.inr (Or.inr (Or.inl ⟨z1, z2, z3⟩))))))))
      · exact (Or.inr (Or.inr (Or.inr (Or.inr (Or.inr (Or.inr (Or.inr (Or.inr (Or.inl ⟨z1, z2, z3⟩)))))))))
      · exact (Or.inr (Or.inr (Or.inr (Or.inr (Or.inr (Or.inr (Or.inr (Or.inr (Or.inr (Or.inl ⟨z1, z2, z3⟩))))))))))
      · omega
      · exact (Or.inr (Or.inr (Or.inr (Or.inr (Or.inr (Or.inr (Or.inr (Or.inr (Or.inr (Or.inr (Or.inr ⟨z1, z2, z3⟩)))))))))))
  rw [h.ev ⟨q3, q.2⟩]
  unfold vl
  by_cases h1 : k2 ≤ 17
  · rw [if_pos h1, if_pos h1]; rfl
  · rw [if_neg h1, if_neg h1]
    by_cases h2 : k2 = 18
    · subst h2
      rw [if_pos rfl, if_pos rfl, q_nk (by unfold spN at q3; omega)]
    · rw [if_neg h2, if_neg h2]
      by_cases h3 : k2 = 19
      · subst h3
        rw [if_pos rfl, if_pos rfl, es a2 (by unfold spN at q3; omega)]
      · rw [if_neg h3, if_neg h3]; rfl
