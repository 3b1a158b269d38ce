/-! what is learned leaves files as they are -/
theorem lrn_k (v : Si) (g : Sg) (t : Int32) : (∀ k a, k ≠ 2 → k ≠ 3 → q_n (lrnU v g t) k a = q_n v k a) ∧ (∀ k a j, k < 11 ∨ k = 17 → q_i (lrnU v g t) k a j = q_i v k a j) ∧ (∀ a j, q_g (lrnU v g t) 0 a j = q_g v 0 a j) := by
  unfold lrnU
  split
  · refine ⟨fun k a h1 h2 => ?_, fun k a j h => ?_, fun a j => ?_⟩
    · exact q_nk h1
    · exact (q_ik (show k ≠ 12 by omega)).trans (q_ik (show k ≠ 11 by omega))
    · show q_g (u_g v 1 (n_e v) 0 g) 0 a j = _
      rw [q_gu, if_neg (fun z => absurd z.1 (by decide))]
  · split
    · refine ⟨fun k a h1 h2 => q_nk h2, fun k a j h => ?_, fun a j => rfl⟩
      exact (q_ik (show k ≠ 16 by omega)).trans ((q_ik (show k ≠ 15 by omega)).trans ((q_ik (show k ≠ 14 by omega)).trans (q_ik (show k ≠ 13 by omega))))
    · exact ⟨fun _ _ _ _ => rfl, fun _ _ _ _ => rfl, fun _ _ => rfl⟩
theorem trV_9 {u : Si} {f s : Nat} {t : Int32} : q_i (trV u f s t) 9 f s = t := by
  unfold trV
  rw [(lrn_k _ _ _).2.1 9 f s (by omega), q_ik (by decide), q_ie]
theorem trV_n {u : Si} {f s : Nat} {t : Int32} (k a : Nat) (h1 : k ≠ 2) (h2 : k ≠ 3) : q_n (trV u f s t) k a = q_n u k a := by
  unfold trV
  rw [(lrn_k _ _ _).1 k a h1 h2]; rfl
theorem trV_g {u : Si} {f s : Nat} {t : Int32} (a j : Nat) : q_g (trV u f s t) 0 a j = q_g u 0 a j := by
  unfold trV
  rw [(lrn_k _ _ _).2.2 a j]; rfl
theorem trV_i {u : Si} {f s : Nat} {t : Int32} (k a j : Nat) (h : k < 9 ∨ k = 17) : q_i (trV u f s t) k a j = q_i u k a j := by
  unfold trV
  rw [(lrn_k _ _ _).2.1 k a j (by omega), q_ik (show k ≠ 10 by omega), q_ik (show k ≠ 9 by omega)]
theorem trV_T {u : Si} {f s : Nat} {t : Int32} (w : WfT u) (ht : 0 < t) : WfT (trV u f s t) := fun a b ha hb => by
  have ha2 : a < n_f u := Nat.lt_of_lt_of_eq ha (trV_n (f := f) (s := s) (t := t) 0 0 (by decide) (by decide))
  have hb2 : b < n_s u a := Nat.lt_of_lt_of_eq hb (trV_n (f := f) (s := s) (t := t) 4 a (by decide) (by decide))
  unfold trV
  rw [(lrn_k _ _ _).2.1 9 a b (by omega), (lrn_k _ _ _).2.1 10 a b (by omega)]
  exact (w.give (f := f) (t := s) (x := t) (y := 1) ht (by decide)) a b ha2 hb2
theorem trV_S {u : Si} {f s : Nat} {t : Int32} (w : WfS u) : WfS (trV u f s t) := fun a ha => by
  rw [trV_i 4 a 0 (by omega)]
  exact w a (Nat.lt_of_lt_of_eq ha (trV_n (f := f) (s := s) (t := t) 0 0 (by decide) (by decide)))
theorem PdF.tv {u : Si} {f s : Nat} {t : Int32} : PdF u (trV u f s t) := ⟨trV_n 0 0 (by decide) (by decide), fun g hg => ⟨by rw [trV_i 4 g 0 (by omega)], fun _ => ⟨trV_i 5 g 0 (by omega), trV_i 6 g 0 (by omega), trV_i 7 g 0 (by omega), by
  unfold w_f
  rw [show n_s (trV u f s t) g = n_s u g from trV_n 4 g (by decide) (by decide), show q_g (trV u f s t) 0 g = q_g u 0 g from funext fun j => trV_g g j]⟩⟩⟩
theorem PdF.tn {u : Si} {f s : Nat} {t : Int32} : PdF u (trnU u f s t) := PdF.tv.tr (PdF.kp (Kp.fU (stS_kp _ _) _))
/-- a new entry, its words copied from elsewhere -/
theorem LA.ent {r r2 W : Nat → Int64} {v : Si} {g : Sg} {t : Int32} (h : LA r v) (hn : n_e v < 40) (hg : SgN W g) (e : ∀ q, r2 q = if 166 + 11 * n_e v ≤ q ∧ q < 166 + 11 * n_e v + 9 then W (q - (166 + 11 * n_e v)) else updR (updR (updR r (166 + 11 * n_e v + 9) t.toInt64) (166 + 11 * n_e v + 10) 0) 2 (lN (n_e v + 1)) q) : LA r2 (entU v g t) := by
  have nG : ¬ inG v 1 (n_e v) 0 := fun q => by unfold inG at q; omega
  have c11 : ∀ k, 11 ≤ k → k ≤ 12 → cpR k (n_e v) 0 := fun k q1 q2 => Or.inr (Or.inr (Or.inr (Or.inr (Or.inl ⟨q1, q2, hn, rfl⟩))))
  have a2 := ((h.pokeG (v := g) 1 (n_e v) 0 nG).w (v := t) 11 (n_e v) 0 (c11 11 (by decide) (by decide)) (by decide) (by decide)).w (v := 0) 12 (n_e v) 0 (c11 12 (by decide) (by decide)) (by decide) (by decide)
  rw [show eb 11 t = t.toInt64 from eb_o (by decide) (by decide), show eb 12 0 = 0 by decide, show pl 11 (n_e v) 0 = 166 + 11 * n_e v + 9 by simp [pl, pB_, pA_, pJ_]; omega, show pl 12 (n_e v) 0 = 166 + 11 * n_e v + 10 by simp [pl, pB_, pA_, pJ_]; omega] at a2
  have a3 : LA (fun q => if 166 + 11 * n_e v ≤ q ∧ q < 166 + 11 * n_e v + 9 then W (q - (166 + 11 * n_e v)) else updR (updR r (166 + 11 * n_e v + 9) t.toInt64) (166 + 11 * n_e v + 10) 0 q) (u_i (u_i (u_g v 1 (n_e v) 0 g) 11 (n_e v) 0 t) 12 (n_e v) 0 0) := a2.eqs (fun k a j q => by
    refine if_neg (fun z => ?_)
    have q1 := q.cp a2.1
    have q2 : spN (n_f v) (n_p v) (n_e v) (n_d v) (n_s v a) k a j := q.1
    have q3 := pl_ne (cX_25 (i := pl k a j - (166 + 11 * n_e v)) hn (by omega)) q1 (fun w => by
      obtain ⟨rfl, rfl, w3⟩ := w
      unfold spN at q2
      omega)
    rw [pl25] at q3
    omega)
  have a4 := a3.growE hn (by show gSeg (q_g (u_g v 1 (n_e v) 0 g) 1 (n_e v) 0); rw [q_gu, if_pos ⟨rfl, rfl, rfl⟩]; exact hg.1) (fun i hi => by
    show (if _ then _ else _) = wv (q_g (u_g v 1 (n_e v) 0 g) 1 (n_e v) 0) i
    rw [show q_g (u_g v 1 (n_e v) 0 g) 1 (n_e v) 0 = g from if_pos ⟨rfl, rfl, rfl⟩, pl25]
    show (if 166 + 11 * n_e v ≤ 166 + 11 * n_e v + i ∧ 166 + 11 * n_e v + i < 166 + 11 * n_e v + 9 then _ else _) = _
    rw [if_pos ⟨by omega, by omega⟩]
    refine Eq.trans (congrArg W ?_) ((SgN_iff.mp hg).2 i hi)
    show 166 + 11 * n_e v + i - (166 + 11 * n_e v) = i
    omega) (fun k q1 q2 => by
    rcases (show k = 11 ∨ k = 12 by omega) with rfl | rfl
    · show (if _ then _ else _) = eb 11 (q_i (u_i (u_i (u_g v 1 (n_e v) 0 g) 11 (n_e v) 0 t) 12 (n_e v) 0 0) 11 (n_e v) 0)
      rw [q_ik (by decide), q_ie, show pl 11 (n_e (u_i (u_i (u_g v 1 (n_e v) 0 g) 11 (n_e v) 0 t) 12 (n_e v) 0 0)) 0 = 166 + 11 * n_e v + 9 from (show pl 11 (n_e v) 0 = _ by simp [pl, pB_, pA_, pJ_]; omega)]
      rw [if_neg (by omega), updR_n (by omega), updR_e]; exact (eb_o (by decide) (by decide)).symm
    · show (if _ then _ else _) = eb 12 (q_i (u_i (u_i (u_g v 1 (n_e v) 0 g) 11 (n_e v) 0 t) 12 (n_e v) 0 0) 12 (n_e v) 0)
      rw [q_ie, show pl 12 (n_e (u_i (u_i (u_g v 1 (n_e v) 0 g) 11 (n_e v) 0 t) 12 (n_e v) 0 0)) 0 = 166 + 11 * n_e v + 10 from (show pl 12 (n_e v) 0 = _ by simp [pl, pB_, pA_, pJ_]; omega)]
      rw [if_neg (by omega), updR_e]; decide)
  have e2 : r2 = updR (fun q => if 166 + 11 * n_e v ≤ q ∧ q < 166 + 11 * n_e v + 9 then W (q - (166 + 11 * n_e v)) else updR (updR r (166 + 11 * n_e v + 9) t.toInt64) (166 + 11 * n_e v + 10) 0 q) (pl 18 0 2) (lN (n_e v + 1)) := funext fun q => by
    rw [e q, show pl 18 0 2 = 2 by simp [pl, pB_, pA_, pJ_]]
    by_cases w : q = 2
    · rw [w, if_neg (by omega), updR_e, updR_e]
    · rw [updR_n w, updR_n w]
  rw [e2]
  exact a4
theorem LPd.ent {r r2 W : Nat → Int64} {u v : Si} {t : Int32} (h : LPd r u) (hn6 : n_p u ≤ 6) (e : ∀ q, r2 q = if 166 + 11 * n_e v ≤ q ∧ q < 166 + 11 * n_e v + 9 then W (q - (166 + 11 * n_e v)) else updR (updR (updR r (166 + 11 * n_e v + 9) t.toInt64) (166 + 11 * n_e v + 10) 0) 2 (lN (n_e v + 1)) q) : LPd r2 u := fun p hp => by
  have z : ∀ k, 20 ≤ k → k ≤ 22 → r2 (pl k p 0) = r (pl k p 0) := fun k q1 q2 => by
    have e1 : pl k p 0 = 57 + k + 7 * p := by
      rcases (show k = 20 ∨ k = 21 ∨ k = 22 by omega) with rfl | rfl | rfl <;> simp [pl, pB_, pA_, pJ_]
    rw [e, e1, if_neg (by omega), updR_n (by omega), updR_n (by omega), updR_n (by omega)]
  rw [z 20 (by decide) (by decide), z 21 (by decide) (by decide), z 22 (by decide) (by decide)]
  exact h p hp
/-- a new dispute -/
theorem LA.dsp {r : Nat → Int64} {v : Si} {w : Nat} {t : Int32} (h : LA r v) (hn : n_d v < 10) : LA (updR (updR (updR (updR (updR (updR r (116 + 5 * n_d v) (nI w).toInt64) (116 + 5 * n_d v + 1) (q_i v 11 w 0).toInt64) (116 + 5 * n_d v + 2) t.toInt64) (116 + 5 * n_d v + 3) 0) (116 + 5 * n_d v + 4) (-5)) 3 (lN (n_d v + 1))) (dspU v w t) := by
  have c : ∀ k, 13 ≤ k → k ≤ 16 → cpR k (n_d v) 0 := fun k q1 q2 => Or.inr (Or.inr (Or.inr (Or.inr (Or.inr (Or.inl ⟨q1, q2, hn, rfl⟩)))))
  have a4 := (((h.w (v := nI w) 13 (n_d v) 0 (c 13 (by decide) (by decide)) (by decide) (by decide)).w (v := q_i v 11 w 0) 14 (n_d v) 0 (c 14 (by decide) (by decide)) (by decide) (by decide)).w (v := t) 15 (n_d v) 0 (c 15 (by decide) (by decide)) (by decide) (by decide)).w16 (v := 0) (n_d v) hn
  rw [show eb 13 (nI w) = (nI w).toInt64 from eb_o (by decide) (by decide), show eb 14 (q_i v 11 w 0) = (q_i v 11 w 0).toInt64 from eb_o (by decide) (by decide), show eb 15 t = t.toInt64 from eb_o (by decide) (by decide), show eb 16 0 = -5 by decide, if_pos rfl] at a4
  have a5 := a4.growD hn (fun k q1 q2 => by
    have x13 := c 13 (by decide) (by decide)
    have x14 := c 14 (by decide) (by decide)
    have x15 := c 15 (by decide) (by decide)
    have x16 := c 16 (by decide) (by decide)
    have x23 : cpX 23 (n_d v) 0 := cX_23 hn
    rcases (show k = 13 ∨ k = 14 ∨ k = 15 ∨ k = 16 by omega) with rfl | rfl | rfl | rfl
    · show updR _ _ _ (pl 13 (n_d v) 0) = eb 13 (q_i _ 13 (n_d v) 0)
      rw [updR_n (pl_ne (Or.inl x16) (Or.inl x13) (by omega)), updR_n (pl_ne x23 (Or.inl x13) (by omega)), updR_n (pl_ne (Or.inl x15) (Or.inl x13) (by omega)), updR_n (pl_ne (Or.inl x14) (Or.inl x13) (by omega)), updR_e, q_ik (by decide), q_ik (by decide), q_ik (by decide), q_ie]
      exact (eb_o (by decide) (by decide)).symm
    · show updR _ _ _ (pl 14 (n_d v) 0) = eb 14 (q_i _ 14 (n_d v) 0)
      rw [updR_n (pl_ne (Or.inl x16) (Or.inl x14) (by omega)), updR_n (pl_ne x23 (Or.inl x14) (by omega)), updR_n (pl_ne (Or.inl x15) (Or.inl x14) (by omega)), updR_e, q_ik (by decide), q_ik (by decide), q_ie]
      exact (eb_o (by decide) (by decide)).symm
    · show updR _ _ _ (pl 15 (n_d v) 0) = eb 15 (q_i _ 15 (n_d v) 0)
      rw [updR_n (pl_ne (Or.inl x16) (Or.inl x15) (by omega)), updR_n (pl_ne x23 (Or.inl x15) (by omega)), updR_e, q_ik (by decide), q_ie]
      exact (eb_o (by decide) (by decide)).symm
    · show updR _ _ _ (pl 16 (n_d v) 0) = eb 16 (q_i _ 16 (n_d v) 0)
      rw [updR_e, q_ie]; decide) (by
    have x16 := c 16 (by decide) (by decide)
    have x23 : cpX 23 (n_d v) 0 := cX_23 hn
    show updR _ _ _ (pl 23 (n_d v) 0) = if q_i _ 16 (n_d v) 0 = 0 then 0 else 1
    rw [updR_n (pl_ne (Or.inl x16) x23 (by omega)), updR_e, q_ie, if_pos rfl])
  rw [show 116 + 5 * n_d v = pl 13 (n_d v) 0 by simp [pl, pB_, pA_, pJ_], show pl 13 (n_d v) 0 + 1 = pl 14 (n_d v) 0 by simp [pl, pB_, pA_, pJ_]; omega, show pl 13 (n_d v) 0 + 2 = pl 15 (n_d v) 0 by simp [pl, pB_, pA_, pJ_]; omega, show pl 13 (n_d v) 0 + 3 = pl 23 (n_d v) 0 by simp [pl, pB_, pA_, pJ_]; omega, show pl 13 (n_d v) 0 + 4 = pl 16 (n_d v) 0 by simp [pl, pB_, pA_, pJ_]; omega, show (3 : Nat) = pl 18 0 3 by simp [pl, pB_, pA_, pJ_]]
  exact a5
theorem LPd.dsp {r : Nat → Int64} {u : Si} {n : Nat} {a b d e x z : Int64} (h : LPd r u) (hn6 : n_p u ≤ 6) (hn : n < 10) : LPd (updR (updR (updR (updR (updR (updR r (116 + 5 * n) a) (116 + 5 * n + 1) b) (116 + 5 * n + 2) d) (116 + 5 * n + 3) e) (116 + 5 * n + 4) x) 3 z) u := fun p hp => by
  have w : ∀ k, 20 ≤ k → k ≤ 22 → updR (updR (updR (updR (updR (updR r (116 + 5 * n) a) (116 + 5 * n + 1) b) (116 + 5 * n + 2) d) (116 + 5 * n + 3) e) (116 + 5 * n + 4) x) 3 z (pl k p 0) = r (pl k p 0) := fun k q1 q2 => by
    have e1 : pl k p 0 = 57 + k + 7 * p := by
      rcases (show k = 20 ∨ k = 21 ∨ k = 22 by omega) with rfl | rfl | rfl <;> simp [pl, pB_, pA_, pJ_]
    rw [e1, updR_n (by omega), updR_n (by omega), updR_n (by omega), updR_n (by omega), updR_n (by omega), updR_n (by omega)]
  rw [w 20 (by decide) (by decide), w 21 (by decide) (by decide), w 22 (by decide) (by decide)]
  exact h p hp
/-- which entry is like a segment -/
theorem alN_c {u : Si} {g : Sg} {r : Int32} (h : r = eN (alN u g)) : (∃ e, alN u g = some e ∧ e < n_e u ∧ r = nI e) ∨ alN u g = none ∧ r = -5 := by
  cases w : alN u g with
  | none => rw [w] at h; exact Or.inr ⟨rfl, h⟩
  | some e => rw [w] at h; exact Or.inl ⟨e, rfl, alN_i w, h⟩
theorem opN_c {u : Si} {x r : Int32} (h : r = eN (opN u x)) : (∃ d, opN u x = some d ∧ d < n_d u ∧ r = nI d) ∨ opN u x = none ∧ r = -5 := by
  cases w : opN u x with
  | none => rw [w] at h; exact Or.inr ⟨rfl, h⟩
  | some d => rw [w] at h; exact Or.inl ⟨d, rfl, opN_i w, h⟩
theorem nI_n0 {e : Nat} (h : e < 2 ^ 31) : ¬ nI e < 0 := fun q => i_ab q (nI_le (a := 0) (Nat.zero_le e) h)
theorem eb9_t {x t : Int32} (ht : 0 < t) (h : eb 9 x = t.toInt64) : x = t := by
  unfold eb at h
  by_cases q : x = 0
  · rw [if_pos ⟨Or.inl rfl, q⟩] at h
    have := congrArg Int64.toInt32 h
    rw [Int32.toInt32_toInt64] at this
    rw [← this] at ht
    exact absurd ht (by decide)
  · rw [if_neg (fun z => q z.2)] at h
    exact toInt64_inj h
theorem tg_pos {t : Int32} (h : ¬ t < 1 ∧ ¬ 999 < t) : 0 < t := Int32.lt_of_lt_of_le (by decide) (Int32.not_lt.mp h.1)
theorem lrn_0 {v : Si} {g : Sg} {t : Int32} (h : alN v g = none) : lrnU v g t = entU v g t := by rw [lrnU, h]
theorem lrn_1 {v : Si} {g : Sg} {t : Int32} {e : Nat} (h : alN v g = some e) (h2 : ¬ ndB v e t = true) : lrnU v g t = v := by
  rw [lrnU, h]
  exact if_neg h2
theorem lrn_2 {v : Si} {g : Sg} {t : Int32} {e : Nat} (h : alN v g = some e) (h2 : ndB v e t = true) : lrnU v g t = dspU v e t := by
  rw [lrnU, h]
  exact if_pos h2
