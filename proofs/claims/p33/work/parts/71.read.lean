theorem nI_ml (a b : Nat) : nI a * nI b = nI (a * b) := (Int32.ofNat_mul a b).symm
theorem lc_ge {i n : Nat} (h : 0 ≤ lg_cmp (lN i) (lN n)) (hi : i < 2 ^ 31 := by omega) (hn : n < 2 ^ 31 := by omega) : n ≤ i := (lN_le hn hi).mp ((lg_cmp_ge _ _).mp h)
theorem lc_lt {i n : Nat} (h : ¬ 0 ≤ lg_cmp (lN i) (lN n)) (hi : i < 2 ^ 31 := by omega) (hn : n < 2 ^ 31 := by omega) : i < n := Nat.not_le.mp fun q => h ((lg_cmp_ge _ _).mpr ((lN_le hn hi).mpr q))
abbrev rwM (M : Me) (h : Nat) : Nat → Int64 := fun p => m_l M 31 (m_r M 276 h 0) p
theorem eb_o {k : Nat} {x : Int32} (h1 : k ≠ 9) (h2 : k ≠ 16) : eb k x = x.toInt64 := if_neg (fun q => q.1.elim h1 h2)
section LAs
variable {r : Nat → Int64} {u : Si}
theorem LA.c0 (h : LA r u) : r 0 = lN (n_f u) := h.2.1.1
theorem LA.c1 (h : LA r u) : r 1 = lN (n_p u) := h.2.1.2.1
theorem LA.c2 (h : LA r u) : r 2 = lN (n_e u) := h.2.1.2.2.1
theorem LA.c3 (h : LA r u) : r 3 = lN (n_d u) := h.2.1.2.2.2
theorem LA.at {k a j : Nat} (h : LA r u) (q : inR u k a j) (h5 : k = 5 ∨ k = 6 → ¬ q_i u 4 a 0 = 4) (p : Nat) (hp : p = pl k a j) : r p = eb k (q_i u k a j) := by rw [hp]; exact h.2.2.1 k a j q h5
theorem iR_f {f : Nat} (hf : f < n_f u) : ∀ k, 4 ≤ k → k ≤ 8 → inR u k f 0 := fun k q1 q2 => Or.inr (Or.inr (Or.inl ⟨q1, q2, hf, rfl⟩))
theorem iR_p {p : Nat} (hp : p < n_p u) : ∀ k, 1 ≤ k → k ≤ 3 → inR u k p 0 := fun k q1 q2 => Or.inr (Or.inl ⟨q1, q2, hp, rfl⟩)
theorem iR_s {f t : Nat} (hf : f < n_f u) (ht : t < n_s u f) : ∀ k, 9 ≤ k → k ≤ 10 → inR u k f t := fun k q1 q2 => Or.inr (Or.inr (Or.inr (Or.inl ⟨q1, q2, hf, ht⟩)))
theorem iR_e {e : Nat} (he : e < n_e u) : ∀ k, 11 ≤ k → k ≤ 12 → inR u k e 0 := fun k q1 q2 => Or.inr (Or.inr (Or.inr (Or.inr (Or.inl ⟨q1, q2, he, rfl⟩))))
theorem iR_d {d : Nat} (hd : d < n_d u) : ∀ k, 13 ≤ k → k ≤ 16 → inR u k d 0 := fun k q1 q2 => Or.inr (Or.inr (Or.inr (Or.inr (Or.inr (Or.inl ⟨q1, q2, hd, rfl⟩)))))
theorem iR_o {j : Nat} (hj : j < n_f u) : inR u 17 0 j := Or.inr (Or.inr (Or.inr (Or.inr (Or.inr (Or.inr ⟨rfl, rfl, hj⟩)))))
theorem iR_h {b : Nat} (hb : b < 6) : inR u 0 0 b := Or.inl ⟨rfl, rfl, hb⟩
theorem LA.f4 {f : Nat} (h : LA r u) (hf : f < n_f u) : r (18 + 7 * f + 1) = (q_i u 4 f 0).toInt64 ∧ (¬ q_i u 4 f 0 = 4 → r (18 + 7 * f + 2) = (q_i u 5 f 0).toInt64 ∧ r (18 + 7 * f + 3) = (q_i u 6 f 0).toInt64) ∧ r (18 + 7 * f + 4) = (q_i u 7 f 0).toInt64 ∧ r (18 + 7 * f + 5) = (q_i u 8 f 0).toInt64 := by
  refine ⟨?_, fun h4 => ⟨?_, ?_⟩, ?_, ?_⟩
  · rw [h.at (iR_f hf 4 (by decide) (by decide)) (fun q => by omega) (18 + 7 * f + 1) (by simp [pl, pB_, pA_, pJ_]; omega)]; exact eb_o (by decide) (by decide)
  · rw [h.at (iR_f hf 5 (by decide) (by decide)) (fun _ => h4) (18 + 7 * f + 2) (by simp [pl, pB_, pA_, pJ_]; omega)]; exact eb_o (by decide) (by decide)
  · rw [h.at (iR_f hf 6 (by decide) (by decide)) (fun _ => h4) (18 + 7 * f + 3) (by simp [pl, pB_, pA_, pJ_]; omega)]; exact eb_o (by decide) (by decide)
  · rw [h.at (iR_f hf 7 (by decide) (by decide)) (fun q => by omega) (18 + 7 * f + 4) (by simp [pl, pB_, pA_, pJ_]; omega)]; exact eb_o (by decide) (by decide)
  · rw [h.at (iR_f hf 8 (by decide) (by decide)) (fun q => by omega) (18 + 7 * f + 5) (by simp [pl, pB_, pA_, pJ_]; omega)]; exact eb_o (by decide) (by decide)
theorem LA.f0 {f : Nat} (h : LA r u) (hf : f < n_f u) : r (18 + 7 * f) = lN (n_s u f) := by
  have := h.2.2.2.1 f hf
  rw [show pl 19 f 0 = 18 + 7 * f by simp [pl, pB_, pA_, pJ_]] at this; exact this
theorem LA.p3 {p : Nat} (h : LA r u) (hp : p < n_p u) : r (74 + 7 * p) = (q_i u 1 p 0).toInt64 ∧ r (74 + 7 * p + 1) = (q_i u 2 p 0).toInt64 ∧ r (74 + 7 * p + 2) = (q_i u 3 p 0).toInt64 := by
  refine ⟨?_, ?_, ?_⟩
  · rw [h.at (iR_p hp 1 (by decide) (by decide)) (fun q => by omega) (74 + 7 * p) (by simp [pl, pB_, pA_, pJ_])]; exact eb_o (by decide) (by decide)
  · rw [h.at (iR_p hp 2 (by decide) (by decide)) (fun q => by omega) (74 + 7 * p + 1) (by simp [pl, pB_, pA_, pJ_]; omega)]; exact eb_o (by decide) (by decide)
  · rw [h.at (iR_p hp 3 (by decide) (by decide)) (fun q => by omega) (74 + 7 * p + 2) (by simp [pl, pB_, pA_, pJ_]; omega)]; exact eb_o (by decide) (by decide)
theorem LA.h0 {b : Nat} (h : LA r u) (hb : b < 6) : r (4 + b) = (q_i u 0 0 b).toInt64 := by
  rw [h.at (iR_h hb) (fun q => by omega) (4 + b) (by simp [pl, pB_, pA_, pJ_])]; exact eb_o (by decide) (by decide)
theorem LA.o0 {j : Nat} (h : LA r u) (hj : j < n_f u) : r (10 + j) = (q_i u 17 0 j).toInt64 := by
  rw [h.at (iR_o hj) (fun q => by omega) (10 + j) (by simp [pl, pB_, pA_, pJ_])]; exact eb_o (by decide) (by decide)
theorem LA.e2 {e : Nat} (h : LA r u) (he : e < n_e u) : r (166 + 11 * e + 9) = (q_i u 11 e 0).toInt64 ∧ r (166 + 11 * e + 10) = (q_i u 12 e 0).toInt64 := by
  refine ⟨?_, ?_⟩
  · rw [h.at (iR_e he 11 (by decide) (by decide)) (fun q => by omega) (166 + 11 * e + 9) (by simp [pl, pB_, pA_, pJ_]; omega)]; exact eb_o (by decide) (by decide)
  · rw [h.at (iR_e he 12 (by decide) (by decide)) (fun q => by omega) (166 + 11 * e + 10) (by simp [pl, pB_, pA_, pJ_]; omega)]; exact eb_o (by decide) (by decide)
theorem LA.s2 {f t : Nat} (h : LA r u) (hf : f < n_f u) (ht : t < n_s u f) : r (606 + 11 * (12 * f + t) + 9) = eb 9 (q_i u 9 f t) ∧ r (606 + 11 * (12 * f + t) + 10) = (q_i u 10 f t).toInt64 := by
  refine ⟨?_, ?_⟩
  · exact h.at (iR_s hf ht 9 (by decide) (by decide)) (fun q => by omega) (606 + 11 * (12 * f + t) + 9) (by simp [pl, pB_, pA_, pJ_]; omega)
  · rw [h.at (iR_s hf ht 10 (by decide) (by decide)) (fun q => by omega) (606 + 11 * (12 * f + t) + 10) (by simp [pl, pB_, pA_, pJ_]; omega)]; exact eb_o (by decide) (by decide)
theorem LA.d5 {d : Nat} (h : LA r u) (hd : d < n_d u) : r (116 + 5 * d) = (q_i u 13 d 0).toInt64 ∧ r (116 + 5 * d + 1) = (q_i u 14 d 0).toInt64 ∧ r (116 + 5 * d + 2) = (q_i u 15 d 0).toInt64 ∧ r (116 + 5 * d + 3) = (if q_i u 16 d 0 = 0 then 0 else 1) ∧ r (116 + 5 * d + 4) = eb 16 (q_i u 16 d 0) := by
  refine ⟨?_, ?_, ?_, ?_, ?_⟩
  · rw [h.at (iR_d hd 13 (by decide) (by decide)) (fun q => by omega) (116 + 5 * d) (by simp [pl, pB_, pA_, pJ_])]; exact eb_o (by decide) (by decide)
  · rw [h.at (iR_d hd 14 (by decide) (by decide)) (fun q => by omega) (116 + 5 * d + 1) (by simp [pl, pB_, pA_, pJ_]; omega)]; exact eb_o (by decide) (by decide)
  · rw [h.at (iR_d hd 15 (by decide) (by decide)) (fun q => by omega) (116 + 5 * d + 2) (by simp [pl, pB_, pA_, pJ_]; omega)]; exact eb_o (by decide) (by decide)
  · have := h.2.2.2.2.1 d hd
    rw [show pl 23 d 0 = 116 + 5 * d + 3 by simp [pl, pB_, pA_, pJ_]; omega] at this; exact this
  · exact h.at (iR_d hd 16 (by decide) (by decide)) (fun q => by omega) (116 + 5 * d + 4) (by simp [pl, pB_, pA_, pJ_]; omega)
theorem LA.sg {f t : Nat} (h : LA r u) (hf : f < n_f u) (ht : t < n_s u f) : SgN (fun i => r (606 + 11 * (12 * f + t) + i)) (q_g u 0 f t) := (h.2.2.2.2.2.1 f t hf ht).congr (fun i hi => by rw [pl24 hi])
theorem LA.eg {e : Nat} (h : LA r u) (he : e < n_e u) : SgN (fun i => r (166 + 11 * e + i)) (q_g u 1 e 0) := (h.2.2.2.2.2.2 e he).congr (fun i hi => by rw [pl25])
end LAs
/-- a file's stage is one of five -/
def WfS (u : Si) : Prop := ∀ f, f < n_f u → ∃ k, k ≤ 4 ∧ q_i u 4 f 0 = nI k
theorem iH_le {u : Si} {f : Nat} (w : WfS u) (hf : f < n_f u) : iH u f ↔ ¬ (2 : Int32) < q_i u 4 f 0 := by
  obtain ⟨k, hk, e⟩ := w f hf
  unfold iH
  rw [e]
  rcases (show k = 0 ∨ k = 1 ∨ k = 2 ∨ k = 3 ∨ k = 4 by omega) with rfl | rfl | rfl | rfl | rfl <;> decide
set_option maxHeartbeats 4000000 in
set_option maxRecDepth 100000 in
theorem c_X11_in {l : Launch} {G : Gd} {M : Me} {x y z : Int32}  : CQ (Qi G (fun r M2 => M2 = M ∧ ((¬ x < y ∧ ¬ z < x) ∧ r = 1 ∨ ¬ (¬ x < y ∧ ¬ z < x) ∧ r = 0))) l G yX11_in cX11_in 3 ((some .boolean)) 0 0 0 0 [.int x, .int y, .int z] M := by
  refine c_of ([some (.int x), some (.int y), some (.int z)] : Lo) RX11 "in" (by decide) rfl rfl (Nat.le_of_ble_eq_true rfl) rfl (fun p e s m below meth c hC nw => ?_)
  refine v_iload_n hC dX11_in_0 rfl rfl ?_
  refine v_iload_n hC dX11_in_1 rfl rfl ?_
  refine v_icmp_lt hC dX11_in_2 (tgt := 14) (by decide) (fun h2 => ?_) (fun h2 => ?_)
  · refine v_iconst (v := 0) hC dX11_in_14 (by decide) ?_
    refine v_zret hC (Or.inl rfl) dX11_in_15 ?_
    exact ⟨rfl, Or.inr ⟨fun q => by first | exact q.1 h2 | exact q.2 h7, rfl⟩⟩
  · refine v_iload_n hC dX11_in_5 rfl rfl ?_
    refine v_iload_n hC dX11_in_6 rfl rfl ?_
    refine v_icmp_gt hC dX11_in_7 (tgt := 14) (by decide) (fun h7 => ?_) (fun h7 => ?_)
    · refine v_iconst (v := 0) hC dX11_in_14 (by decide) ?_
      refine v_zret hC (Or.inl rfl) dX11_in_15 ?_
      exact ⟨rfl, Or.inr ⟨fun q => by first | exact q.1 h2 | exact q.2 h7, rfl⟩⟩
    · refine v_iconst (v := 1) hC dX11_in_10 (by decide) ?_
      refine v_goto hC dX11_in_11 (tgt := 15) (by decide) ?_
      refine v_zret hC (Or.inr rfl) dX11_in_15 ?_
      exact ⟨rfl, Or.inl ⟨⟨h2, h7⟩, rfl⟩⟩

set_option maxHeartbeats 4000000 in
set_option maxRecDepth 100000 in
theorem c_X11_number {l : Launch} {G : Gd} {M : Me} {h q : Nat} (hW : Wt M) (ht : m_t M h = 12) (hq : q < 1662) : CQ (Qi G (fun r M2 => r = (rwM M h q).toInt32 ∧ M2 = M)) l G yX11_number cX11_number 2 ((some .int)) 0 0 0 0 [.ref h, .int (nI q)] M := by
  refine c_of ([some (.ref h), some (.int (nI q))] : Lo) RX11 "number" (by decide) rfl rfl (Nat.le_of_ble_eq_true rfl) rfl (fun p e s m below meth c hC nw => ?_)
  have hq9 := hq
  refine v_aload_n hC dX11_number_0 rfl rfl ?_
  refine gf_11_0 hC ht (wf_276 hW ht) mw_4_120 dX11_number_1 ?_
  refine v_iload_n hC dX11_number_4 rfl rfl ?_
  refine v_lald 31 hC (wf_276 hW ht) (by decide) (by decide) (ix_c (wz_31 hW (wf_276 hW ht)) hq9) dX11_number_5 ?_
  refine v_l2i hC dX11_number_6 ?_
  refine v_iret hC dX11_number_7 ?_
  exact ⟨rfl, rfl⟩

set_option maxHeartbeats 4000000 in
set_option maxRecDepth 100000 in
theorem c_X11_fileBy {l : Launch} {G : Gd} {M : Me} {h f : Nat} (ht : m_t M h = 12) : CQ (Qi G (fun r M2 => r = nI (18 + 7 * f) ∧ M2 = M)) l G yX11_fileBy cX11_fileBy 2 ((some .int)) 0 0 0 0 [.ref h, .int (nI f)] M := by
  refine c_of ([some (.ref h), some (.int (nI f))] : Lo) RX11 "fileBy" (by decide) rfl rfl (Nat.le_of_ble_eq_true rfl) rfl (fun p e s m below meth c hC nw => ?_)
  refine v_bipush (v := 18) hC dX11_fileBy_0 (by decide) ?_
  refine v_bipush (v := 7) hC dX11_fileBy_2 (by decide) ?_
  refine v_iload_n hC dX11_fileBy_4 rfl rfl ?_
  refine v_imul hC dX11_fileBy_5 ?_
  refine v_iadd hC dX11_fileBy_6 ?_
  refine v_iret hC dX11_fileBy_7 ?_
  exact ⟨by rw [← nI_add, ← nI_ml]; rfl, rfl⟩

set_option maxHeartbeats 4000000 in
set_option maxRecDepth 100000 in
theorem c_X11_personBy {l : Launch} {G : Gd} {M : Me} {h f : Nat} (ht : m_t M h = 12) : CQ (Qi G (fun r M2 => r = nI (74 + 7 * f) ∧ M2 = M)) l G yX11_personBy cX11_personBy 2 ((some .int)) 0 0 0 0 [.ref h, .int (nI f)] M := by
  refine c_of ([some (.ref h), some (.int (nI f))] : Lo) RX11 "personBy" (by decide) rfl rfl (Nat.le_of_ble_eq_true rfl) rfl (fun p e s m below meth c hC nw => ?_)
  refine v_bipush (v := 74) hC dX11_personBy_0 (by decide) ?_
  refine v_bipush (v := 7) hC dX11_personBy_2 (by decide) ?_
  refine v_iload_n hC dX11_personBy_4 rfl rfl ?_
  refine v_imul hC dX11_personBy_5 ?_
  refine v_iadd hC dX11_personBy_6 ?_
  refine v_iret hC dX11_personBy_7 ?_
  exact ⟨by rw [← nI_add, ← nI_ml]; rfl, rfl⟩

set_option maxHeartbeats 4000000 in
set_option maxRecDepth 100000 in
theorem c_X11_disputeAt {l : Launch} {G : Gd} {M : Me} {h f : Nat} (ht : m_t M h = 12) : CQ (Qi G (fun r M2 => r = nI (116 + 5 * f) ∧ M2 = M)) l G yX11_disputeAt cX11_disputeAt 2 ((some .int)) 0 0 0 0 [.ref h, .int (nI f)] M := by
  refine c_of ([some (.ref h), some (.int (nI f))] : Lo) RX11 "disputeAt" (by decide) rfl rfl (Nat.le_of_ble_eq_true rfl) rfl (fun p e s m below meth c hC nw => ?_)
  refine v_bipush (v := 116) hC dX11_disputeAt_0 (by decide) ?_
  refine v_iconst (v := 5) hC dX11_disputeAt_2 (by decide) ?_
  refine v_iload_n hC dX11_disputeAt_3 rfl rfl ?_
  refine v_imul hC dX11_disputeAt_4 ?_
  refine v_iadd hC dX11_disputeAt_5 ?_
  refine v_iret hC dX11_disputeAt_6 ?_
  exact ⟨by rw [← nI_add, ← nI_ml]; rfl, rfl⟩

set_option maxHeartbeats 4000000 in
set_option maxRecDepth 100000 in
theorem c_X11_entryAt {l : Launch} {G : Gd} {M : Me} {h f : Nat} (ht : m_t M h = 12) : CQ (Qi G (fun r M2 => r = nI (166 + 11 * f) ∧ M2 = M)) l G yX11_entryAt cX11_entryAt 2 ((some .int)) 0 0 0 0 [.ref h, .int (nI f)] M := by
  refine c_of ([some (.ref h), some (.int (nI f))] : Lo) RX11 "entryAt" (by decide) rfl rfl (Nat.le_of_ble_eq_true rfl) rfl (fun p e s m below meth c hC nw => ?_)
  refine v_sipush (v := 166) hC dX11_entryAt_0 (by decide) ?_
  refine v_bipush (v := 11) hC dX11_entryAt_3 (by decide) ?_
  refine v_iload_n hC dX11_entryAt_5 rfl rfl ?_
  refine v_imul hC dX11_entryAt_6 ?_
  refine v_iadd hC dX11_entryAt_7 ?_
  refine v_iret hC dX11_entryAt_8 ?_
  exact ⟨by rw [← nI_add, ← nI_ml]; rfl, rfl⟩

set_option maxHeartbeats 4000000 in
set_option maxRecDepth 100000 in
theorem c_X11_segmentAt {l : Launch} {G : Gd} {M : Me} {h f t : Nat} (ht : m_t M h = 12) : CQ (Qi G (fun r M2 => r = nI (606 + 11 * (12 * f + t)) ∧ M2 = M)) l G yX11_segmentAt cX11_segmentAt 3 ((some .int)) 0 0 0 0 [.ref h, .int (nI f), .int (nI t)] M := by
  refine c_of ([some (.ref h), some (.int (nI f)), some (.int (nI t))] : Lo) RX11 "segmentAt" (by decide) rfl rfl (Nat.le_of_ble_eq_true rfl) rfl (fun p e s m below meth c hC nw => ?_)
  refine v_sipush (v := 606) hC dX11_segmentAt_0 (by decide) ?_
  refine v_bipush (v := 11) hC dX11_segmentAt_3 (by decide) ?_
  refine v_bipush (v := 12) hC dX11_segmentAt_5 (by decide) ?_
  refine v_iload_n hC dX11_segmentAt_7 rfl rfl ?_
  refine v_imul hC dX11_segmentAt_8 ?_
  refine v_iload_n hC dX11_segmentAt_9 rfl rfl ?_
  refine v_iadd hC dX11_segmentAt_10 ?_
  refine v_imul hC dX11_segmentAt_11 ?_
  refine v_iadd hC dX11_segmentAt_12 ?_
  refine v_iret hC dX11_segmentAt_13 ?_
  exact ⟨by rw [← nI_add, ← nI_ml, ← nI_add, ← nI_ml]; rfl, rfl⟩

set_option maxHeartbeats 4000000 in
set_option maxRecDepth 100000 in
theorem c_X11_many {l : Launch} {G : Gd} {M : Me} {h f : Nat} {u : Si} (hW : Wt M) (ht : m_t M h = 12) (hA : LA (rwM M h) u) (hf : f < n_f u) : CQ (Qi G (fun r M2 => r = nI (n_s u f) ∧ M2 = M)) l G yX11_many cX11_many 2 ((some .int)) 1 21 0 0 [.ref h, .int (nI f)] M := by
  refine c_of ([some (.ref h), some (.int (nI f))] : Lo) RX11 "many" (by decide) rfl rfl (Nat.le_of_ble_eq_true rfl) rfl (fun p e s m below meth c hC nw => ?_)
  have u1 := hA.1.1
  have u2 := hA.1.2.1
  have u3 := hA.1.2.2.1
  have u4 := hA.1.2.2.2.1
  refine v_aload_n hC dX11_many_0 rfl rfl ?_
  refine v_aload_n hC dX11_many_1 rfl rfl ?_
  refine v_iload_n hC dX11_many_2 rfl rfl ?_
  refine cVi1 hC (c_X11_fileBy ht) yv_X11_fileBy rfl ht mw_4_222 ⟨Nat.le_of_ble_eq_true rfl, Nat.le_of_ble_eq_true rfl⟩ ⟨Nat.le_of_ble_eq_true rfl, Nat.le_of_ble_eq_true rfl⟩ (Nat.le_of_ble_eq_true rfl) dX11_many_3 (fun r3 M5 hq => ?_)
  obtain ⟨rfl, hm⟩ := hq
  have hm2 := hm.symm
  clear hm
  subst hm2
  refine v_iconst (v := 0) hC dX11_many_6 (by decide) ?_
  refine v_iadd hC dX11_many_7 ?_
  rw [show nI (18 + 7 * f) + 0 = nI (18 + 7 * f) from nI_add _ 0]
  refine cVi1 hC (c_X11_number hW ht (by omega)) yv_X11_number rfl ht mw_4_165 ⟨Nat.le_of_ble_eq_true rfl, Nat.le_of_ble_eq_true rfl⟩ ⟨Nat.le_of_ble_eq_true rfl, Nat.le_of_ble_eq_true rfl⟩ (Nat.le_of_ble_eq_true rfl) dX11_many_8 (fun r8 M10 hq => ?_)
  obtain ⟨rfl, hm⟩ := hq
  have hm2 := hm.symm
  clear hm
  subst hm2
  rw [hA.f0 hf, lN_i]
  refine v_iret hC dX11_many_11 ?_
  exact ⟨rfl, rfl⟩

set_option maxHeartbeats 4000000 in
set_option maxRecDepth 100000 in
theorem c_X11_state {l : Launch} {G : Gd} {M : Me} {h f : Nat} {u : Si} (hW : Wt M) (ht : m_t M h = 12) (hA : LA (rwM M h) u) (hf : f < n_f u) : CQ (Qi G (fun r M2 => r = q_i u 4 f 0 ∧ M2 = M)) l G yX11_state cX11_state 2 ((some .int)) 1 21 0 0 [.ref h, .int (nI f)] M := by
  refine c_of ([some (.ref h), some (.int (nI f))] : Lo) RX11 "state" (by decide) rfl rfl (Nat.le_of_ble_eq_true rfl) rfl (fun p e s m below meth c hC nw => ?_)
  have u1 := hA.1.1
  have u2 := hA.1.2.1
  have u3 := hA.1.2.2.1
  have u4 := hA.1.2.2.2.1
  refine v_aload_n hC dX11_state_0 rfl rfl ?_
  refine v_aload_n hC dX11_state_1 rfl rfl ?_
  refine v_iload_n hC dX11_state_2 rfl rfl ?_
  refine cVi1 hC (c_X11_fileBy ht) yv_X11_fileBy rfl ht mw_4_222 ⟨Nat.le_of_ble_eq_true rfl, Nat.le_of_ble_eq_true rfl⟩ ⟨Nat.le_of_ble_eq_true rfl, Nat.le_of_ble_eq_true rfl⟩ (Nat.le_of_ble_eq_true rfl) dX11_state_3 (fun r3 M5 hq => ?_)
  obtain ⟨rfl, hm⟩ := hq
  have hm2 := hm.symm
  clear hm
  subst hm2
  refine v_iconst (v := 1) hC dX11_state_6 (by decide) ?_
  refine v_iadd hC dX11_state_7 ?_
  rw [show nI (18 + 7 * f) + 1 = nI (18 + 7 * f + 1) from nI_add _ 1]
  refine cVi1 hC (c_X11_number hW ht (by omega)) yv_X11_number rfl ht mw_4_165 ⟨Nat.le_of_ble_eq_true rfl, Nat.le_of_ble_eq_true rfl⟩ ⟨Nat.le_of_ble_eq_true rfl, Nat.le_of_ble_eq_true rfl⟩ (Nat.le_of_ble_eq_true rfl) dX11_state_8 (fun r8 M10 hq => ?_)
  obtain ⟨rfl, hm⟩ := hq
  have hm2 := hm.symm
  clear hm
  subst hm2
  rw [(hA.f4 hf).1, Int32.toInt32_toInt64]
  refine v_iret hC dX11_state_11 ?_
  exact ⟨rfl, rfl⟩

set_option maxHeartbeats 4000000 in
set_option maxRecDepth 100000 in
theorem c_X11_isInHand {l : Launch} {G : Gd} {M : Me} {h f : Nat} {u : Si} (hW : Wt M) (ht : m_t M h = 12) (hA : LA (rwM M h) u) (hS : WfS u) (hf : f < n_f u) : CQ (Qi G (fun r M2 => M2 = M ∧ (iH u f ∧ r = 1 ∨ ¬ iH u f ∧ r = 0))) l G yX11_isInHand cX11_isInHand 2 ((some .boolean)) 2 42 0 0 [.ref h, .int (nI f)] M := by
  refine c_of ([some (.ref h), some (.int (nI f))] : Lo) RX11 "isInHand" (by decide) rfl rfl (Nat.le_of_ble_eq_true rfl) rfl (fun p e s m below meth c hC nw => ?_)
  have u1 := hA.1.1
  have u2 := hA.1.2.1
  have u3 := hA.1.2.2.1
  have u4 := hA.1.2.2.2.1
  refine v_aload_n hC dX11_isInHand_0 rfl rfl ?_
  refine v_iload_n hC dX11_isInHand_1 rfl rfl ?_
  refine cVi1 hC (c_X11_state hW ht hA (by assumption)) yv_X11_state rfl ht mw_5_11 ⟨Nat.le_of_ble_eq_true rfl, Nat.le_of_ble_eq_true rfl⟩ ⟨Nat.le_of_ble_eq_true rfl, Nat.le_of_ble_eq_true rfl⟩ (Nat.le_of_ble_eq_true rfl) dX11_isInHand_2 (fun r2 M4 hq => ?_)
  obtain ⟨rfl, hm⟩ := hq
  have hm2 := hm.symm
  clear hm
  subst hm2
  refine v_iconst (v := 2) hC dX11_isInHand_5 (by decide) ?_
  refine v_icmp_gt hC dX11_isInHand_6 (tgt := 13) (by decide) (fun h6 => ?_) (fun h6 => ?_)
  · refine v_iconst (v := 0) hC dX11_isInHand_13 (by decide) ?_
    refine v_zret hC (Or.inl rfl) dX11_isInHand_14 ?_
    exact ⟨rfl, Or.inr ⟨fun q => (iH_le hS hf).mp q h6, rfl⟩⟩
  · refine v_iconst (v := 1) hC dX11_isInHand_9 (by decide) ?_
    refine v_goto hC dX11_isInHand_10 (tgt := 14) (by decide) ?_
    refine v_zret hC (Or.inr rfl) dX11_isInHand_14 ?_
    exact ⟨rfl, Or.inl ⟨(iH_le hS hf).mpr h6, rfl⟩⟩

theorem rg_m {x : Int32} {n : Nat} (h1 : ¬ x < 0) (h2 : ¬ nI n - 1 < x) (hn : n < 2 ^ 31) : rgI x n := by
  obtain ⟨j, hj, rfl⟩ := nI_of h1
  cases n with
  | zero => exact absurd (show nI 0 - 1 < nI j from by rw [Int32.lt_iff_toInt_lt, nI_toInt hj]; rw [show (nI 0 - 1).toInt = -1 from rfl]; omega) h2
  | succ k =>
    rw [nI_pred] at h2
    exact ⟨j, by have := lp_ng h2 hj; omega, rfl⟩
theorem rg_n {x : Int32} {n : Nat} (h : rgI x n) (hn : n < 2 ^ 31) : ¬ x < 0 ∧ ¬ nI n - 1 < x := by
  obtain ⟨j, hj, rfl⟩ := h
  refine ⟨fun q => i_ab q (nI_le (a := 0) (Nat.zero_le j) (by omega)), fun q => ?_⟩
  obtain ⟨k, rfl⟩ : ∃ k, n = k + 1 := ⟨n - 1, by omega⟩
  rw [nI_pred] at q
  have := lp_gt q
  omega
set_option maxHeartbeats 4000000 in
set_option maxRecDepth 100000 in
theorem c_X11_noFile {l : Launch} {G : Gd} {M : Me} {h : Nat} {u : Si} {x : Int32} (hW : Wt M) (ht : m_t M h = 12) (hA : LA (rwM M h) u) : CQ (Qi G (fun r M2 => M2 = M ∧ (rgI x (n_f u) ∧ r = 0 ∨ ¬ rgI x (n_f u) ∧ r = 1))) l G yX11_noFile cX11_noFile 2 ((some .boolean)) 1 22 0 0 [.ref h, .int x] M := by
  refine c_of ([some (.ref h), some (.int x)] : Lo) RX11 "noFile" (by decide) rfl rfl (Nat.le_of_ble_eq_true rfl) rfl (fun p e s m below meth c hC nw => ?_)
  have u1 := hA.1.1
  have u2 := hA.1.2.1
  have u3 := hA.1.2.2.1
  have u4 := hA.1.2.2.2.1
  refine v_iload_n hC dX11_noFile_0 rfl rfl ?_
  refine v_iconst (v := 0) hC dX11_noFile_1 (by decide) ?_
  refine v_aload_n hC dX11_noFile_2 rfl rfl ?_
  refine v_iconst (v := 0) hC dX11_noFile_3 (by decide) ?_
  refine cVi1 hC (c_X11_number hW ht (q := 0) (by decide)) yv_X11_number rfl ht mw_4_165 ⟨Nat.le_of_ble_eq_true rfl, Nat.le_of_ble_eq_true rfl⟩ ⟨Nat.le_of_ble_eq_true rfl, Nat.le_of_ble_eq_true rfl⟩ (Nat.le_of_ble_eq_true rfl) dX11_noFile_4 (fun r4 M6 hq => ?_)
  obtain ⟨rfl, hm⟩ := hq
  have hm2 := hm.symm
  clear hm
  subst hm2
  rw [hA.c0, lN_i]
  refine v_iconst (v := 1) hC dX11_noFile_7 (by decide) ?_
  refine v_isub hC dX11_noFile_8 ?_
  refine cSi3 hC (c_X11_in ) ys_X11_in mw_4_181 ⟨Nat.le_of_ble_eq_true rfl, Nat.le_of_ble_eq_true rfl⟩ ⟨Nat.le_of_ble_eq_true rfl, Nat.le_of_ble_eq_true rfl⟩ (Nat.le_of_ble_eq_true rfl) dX11_noFile_9 (fun r9 M11 hq => ?_)
  obtain ⟨hm, hq2⟩ := hq
  have hm2 := hm.symm
  clear hm
  subst hm2
  obtain ⟨g9, rfl⟩ | ⟨g9, rfl⟩ := hq2
  · refine v_if_ne hC dX11_noFile_12 (tgt := 19) (by decide) (fun _ => ?_) (fun hx => absurd hx (by decide))
    refine v_iconst (v := 0) hC dX11_noFile_19 (by decide) ?_
    refine v_zret hC (Or.inl rfl) dX11_noFile_20 ?_
    exact ⟨rfl, Or.inl ⟨rg_m g9.1 g9.2 (by omega), rfl⟩⟩
  · refine v_if_ne hC dX11_noFile_12 (tgt := 19) (by decide) (fun hx => absurd hx (by decide)) (fun _ => ?_)
    refine v_iconst (v := 1) hC dX11_noFile_15 (by decide) ?_
    refine v_goto hC dX11_noFile_16 (tgt := 20) (by decide) ?_
    refine v_zret hC (Or.inr rfl) dX11_noFile_20 ?_
    exact ⟨rfl, Or.inr ⟨fun q => g9 (rg_n q (by omega)), rfl⟩⟩

set_option maxHeartbeats 4000000 in
set_option maxRecDepth 100000 in
theorem c_X11_noPerson {l : Launch} {G : Gd} {M : Me} {h : Nat} {u : Si} {x : Int32} (hW : Wt M) (ht : m_t M h = 12) (hA : LA (rwM M h) u) : CQ (Qi G (fun r M2 => M2 = M ∧ (rgI x (n_p u) ∧ r = 0 ∨ ¬ rgI x (n_p u) ∧ r = 1))) l G yX11_noPerson cX11_noPerson 2 ((some .boolean)) 1 22 0 0 [.ref h, .int x] M := by
  refine c_of ([some (.ref h), some (.int x)] : Lo) RX11 "noPerson" (by decide) rfl rfl (Nat.le_of_ble_eq_true rfl) rfl (fun p e s m below meth c hC nw => ?_)
  have u1 := hA.1.1
  have u2 := hA.1.2.1
  have u3 := hA.1.2.2.1
  have u4 := hA.1.2.2.2.1
  refine v_iload_n hC dX11_noPerson_0 rfl rfl ?_
  refine v_iconst (v := 0) hC dX11_noPerson_1 (by decide) ?_
  refine v_aload_n hC dX11_noPerson_2 rfl rfl ?_
  refine v_iconst (v := 1) hC dX11_noPerson_3 (by decide) ?_
  refine cVi1 hC (c_X11_number hW ht (q := 1) (by decide)) yv_X11_number rfl ht mw_4_165 ⟨Nat.le_of_ble_eq_true rfl, Nat.le_of_ble_eq_true rfl⟩ ⟨Nat.le_of_ble_eq_true rfl, Nat.le_of_ble_eq_true rfl⟩ (Nat.le_of_ble_eq_true rfl) dX11_noPerson_4 (fun r4 M6 hq => ?_)
  obtain ⟨rfl, hm⟩ := hq
  have hm2 := hm.symm
  clear hm
  subst hm2
  rw [hA.c1, lN_i]
  refine v_iconst (v := 1) hC dX11_noPerson_7 (by decide) ?_
  refine v_isub hC dX11_noPerson_8 ?_
  refine cSi3 hC (c_X11_in ) ys_X11_in mw_4_181 ⟨Nat.le_of_ble_eq_true rfl, Nat.le_of_ble_eq_true rfl⟩ ⟨Nat.le_of_ble_eq_true rfl, Nat.le_of_ble_eq_true rfl⟩ (Nat.le_of_ble_eq_true rfl) dX11_noPerson_9 (fun r9 M11 hq => ?_)
  obtain ⟨hm, hq2⟩ := hq
  have hm2 := hm.symm
  clear hm
  subst hm2
  obtain ⟨g9, rfl⟩ | ⟨g9, rfl⟩ := hq2
  · refine v_if_ne hC dX11_noPerson_12 (tgt := 19) (by decide) (fun _ => ?_) (fun hx => absurd hx (by decide))
    refine v_iconst (v := 0) hC dX11_noPerson_19 (by decide) ?_
    refine v_zret hC (Or.inl rfl) dX11_noPerson_20 ?_
    exact ⟨rfl, Or.inl ⟨rg_m g9.1 g9.2 (by omega), rfl⟩⟩
  · refine v_if_ne hC dX11_noPerson_12 (tgt := 19) (by decide) (fun hx => absurd hx (by decide)) (fun _ => ?_)
    refine v_iconst (v := 1) hC dX11_noPerson_15 (by decide) ?_
    refine v_goto hC dX11_noPerson_16 (tgt := 20) (by decide) ?_
    refine v_zret hC (Or.inr rfl) dX11_noPerson_20 ?_
    exact ⟨rfl, Or.inr ⟨fun q => g9 (rg_n q (by omega)), rfl⟩⟩

set_option maxHeartbeats 4000000 in
set_option maxRecDepth 100000 in
theorem c_X11_noEntry {l : Launch} {G : Gd} {M : Me} {h : Nat} {u : Si} {x : Int32} (hW : Wt M) (ht : m_t M h = 12) (hA : LA (rwM M h) u) : CQ (Qi G (fun r M2 => M2 = M ∧ (rgI x (n_e u) ∧ r = 0 ∨ ¬ rgI x (n_e u) ∧ r = 1))) l G yX11_noEntry cX11_noEntry 2 ((some .boolean)) 1 22 0 0 [.ref h, .int x] M := by
  refine c_of ([some (.ref h), some (.int x)] : Lo) RX11 "noEntry" (by decide) rfl rfl (Nat.le_of_ble_eq_true rfl) rfl (fun p e s m below meth c hC nw => ?_)
  have u1 := hA.1.1
  have u2 := hA.1.2.1
  have u3 := hA.1.2.2.1
  have u4 := hA.1.2.2.2.1
  refine v_iload_n hC dX11_noEntry_0 rfl rfl ?_
  refine v_iconst (v := 0) hC dX11_noEntry_1 (by decide) ?_
  refine v_aload_n hC dX11_noEntry_2 rfl rfl ?_
  refine v_iconst (v := 2) hC dX11_noEntry_3 (by decide) ?_
  refine cVi1 hC (c_X11_number hW ht (q := 2) (by decide)) yv_X11_number rfl ht mw_4_165 ⟨Nat.le_of_ble_eq_true rfl, Nat.le_of_ble_eq_true rfl⟩ ⟨Nat.le_of_ble_eq_true rfl, Nat.le_of_ble_eq_true rfl⟩ (Nat.le_of_ble_eq_true rfl) dX11_noEntry_4 (fun r4 M6 hq => ?_)
  obtain ⟨rfl, hm⟩ := hq
  have hm2 := hm.symm
  clear hm
  subst hm2
  rw [hA.c2, lN_i]
  refine v_iconst (v := 1) hC dX11_noEntry_7 (by decide) ?_
  refine v_isub hC dX11_noEntry_8 ?_
  refine cSi3 hC (c_X11_in ) ys_X11_in mw_4_181 ⟨Nat.le_of_ble_eq_true rfl, Nat.le_of_ble_eq_true rfl⟩ ⟨Nat.le_of_ble_eq_true rfl, Nat.le_of_ble_eq_true rfl⟩ (Nat.le_of_ble_eq_true rfl) dX11_noEntry_9 (fun r9 M11 hq => ?_)
  obtain ⟨hm, hq2⟩ := hq
  have hm2 := hm.symm
  clear hm
  subst hm2
  obtain ⟨g9, rfl⟩ | ⟨g9, rfl⟩ := hq2
  · refine v_if_ne hC dX11_noEntry_12 (tgt := 19) (by decide) (fun _ => ?_) (fun hx => absurd hx (by decide))
    refine v_iconst (v := 0) hC dX11_noEntry_19 (by decide) ?_
    refine v_zret hC (Or.inl rfl) dX11_noEntry_20 ?_
    exact ⟨rfl, Or.inl ⟨rg_m g9.1 g9.2 (by omega), rfl⟩⟩
  · refine v_if_ne hC dX11_noEntry_12 (tgt := 19) (by decide) (fun hx => absurd hx (by decide)) (fun _ => ?_)
    refine v_iconst (v := 1) hC dX11_noEntry_15 (by decide) ?_
    refine v_goto hC dX11_noEntry_16 (tgt := 20) (by decide) ?_
    refine v_zret hC (Or.inr rfl) dX11_noEntry_20 ?_
    exact ⟨rfl, Or.inr ⟨fun q => g9 (rg_n q (by omega)), rfl⟩⟩

set_option maxHeartbeats 4000000 in
set_option maxRecDepth 100000 in
theorem c_X11_noDispute {l : Launch} {G : Gd} {M : Me} {h : Nat} {u : Si} {x : Int32} (hW : Wt M) (ht : m_t M h = 12) (hA : LA (rwM M h) u) : CQ (Qi G (fun r M2 => M2 = M ∧ (rgI x (n_d u) ∧ r = 0 ∨ ¬ rgI x (n_d u) ∧ r = 1))) l G yX11_noDispute cX11_noDispute 2 ((some .boolean)) 1 22 0 0 [.ref h, .int x] M := by
  refine c_of ([some (.ref h), some (.int x)] : Lo) RX11 "noDispute" (by decide) rfl rfl (Nat.le_of_ble_eq_true rfl) rfl (fun p e s m below meth c hC nw => ?_)
  have u1 := hA.1.1
  have u2 := hA.1.2.1
  have u3 := hA.1.2.2.1
  have u4 := hA.1.2.2.2.1
  refine v_iload_n hC dX11_noDispute_0 rfl rfl ?_
  refine v_iconst (v := 0) hC dX11_noDispute_1 (by decide) ?_
  refine v_aload_n hC dX11_noDispute_2 rfl rfl ?_
  refine v_iconst (v := 3) hC dX11_noDispute_3 (by decide) ?_
  refine cVi1 hC (c_X11_number hW ht (q := 3) (by decide)) yv_X11_number rfl ht mw_4_165 ⟨Nat.le_of_ble_eq_true rfl, Nat.le_of_ble_eq_true rfl⟩ ⟨Nat.le_of_ble_eq_true rfl, Nat.le_of_ble_eq_true rfl⟩ (Nat.le_of_ble_eq_true rfl) dX11_noDispute_4 (fun r4 M6 hq => ?_)
  obtain ⟨rfl, hm⟩ := hq
  have hm2 := hm.symm
  clear hm
  subst hm2
  rw [hA.c3, lN_i]
  refine v_iconst (v := 1) hC dX11_noDispute_7 (by decide) ?_
  refine v_isub hC dX11_noDispute_8 ?_
  refine cSi3 hC (c_X11_in ) ys_X11_in mw_4_181 ⟨Nat.le_of_ble_eq_true rfl, Nat.le_of_ble_eq_true rfl⟩ ⟨Nat.le_of_ble_eq_true rfl, Nat.le_of_ble_eq_true rfl⟩ (Nat.le_of_ble_eq_true rfl) dX11_noDispute_9 (fun r9 M11 hq => ?_)
  obtain ⟨hm, hq2⟩ := hq
  have hm2 := hm.symm
  clear hm
  subst hm2
  obtain ⟨g9, rfl⟩ | ⟨g9, rfl⟩ := hq2
  · refine v_if_ne hC dX11_noDispute_12 (tgt := 19) (by decide) (fun _ => ?_) (fun hx => absurd hx (by decide))
    refine v_iconst (v := 0) hC dX11_noDispute_19 (by decide) ?_
    refine v_zret hC (Or.inl rfl) dX11_noDispute_20 ?_
    exact ⟨rfl, Or.inl ⟨rg_m g9.1 g9.2 (by omega), rfl⟩⟩
  · refine v_if_ne hC dX11_noDispute_12 (tgt := 19) (by decide) (fun hx => absurd hx (by decide)) (fun _ => ?_)
    refine v_iconst (v := 1) hC dX11_noDispute_15 (by decide) ?_
    refine v_goto hC dX11_noDispute_16 (tgt := 20) (by decide) ?_
    refine v_zret hC (Or.inr rfl) dX11_noDispute_20 ?_
    exact ⟨rfl, Or.inr ⟨fun q => g9 (rg_n q (by omega)), rfl⟩⟩

set_option maxHeartbeats 4000000 in
set_option maxRecDepth 100000 in
theorem c_X11_fileIn {l : Launch} {G : Gd} {M : Me} {h j : Nat} {u : Si} (hW : Wt M) (ht : m_t M h = 12) (hA : LA (rwM M h) u) (hj : j < n_f u) : CQ (Qi G (fun r M2 => r = q_i u 17 0 j ∧ M2 = M)) l G yX11_fileIn cX11_fileIn 2 ((some .int)) 1 21 0 0 [.ref h, .int (nI j)] M := by
  refine c_of ([some (.ref h), some (.int (nI j))] : Lo) RX11 "fileIn" (by decide) rfl rfl (Nat.le_of_ble_eq_true rfl) rfl (fun p e s m below meth c hC nw => ?_)
  have u1 := hA.1.1
  have u2 := hA.1.2.1
  have u3 := hA.1.2.2.1
  have u4 := hA.1.2.2.2.1
  refine v_aload_n hC dX11_fileIn_0 rfl rfl ?_
  refine v_bipush (v := 10) hC dX11_fileIn_1 (by decide) ?_
  refine v_iload_n hC dX11_fileIn_3 rfl rfl ?_
  refine v_iadd hC dX11_fileIn_4 ?_
  rw [show 10 + nI j = nI (10 + j) from nI_add 10 j]
  refine cVi1 hC (c_X11_number hW ht (by omega)) yv_X11_number rfl ht mw_4_165 ⟨Nat.le_of_ble_eq_true rfl, Nat.le_of_ble_eq_true rfl⟩ ⟨Nat.le_of_ble_eq_true rfl, Nat.le_of_ble_eq_true rfl⟩ (Nat.le_of_ble_eq_true rfl) dX11_fileIn_5 (fun r5 M7 hq => ?_)
  obtain ⟨rfl, hm⟩ := hq
  have hm2 := hm.symm
  clear hm
  subst hm2
  rw [hA.o0 hj, Int32.toInt32_toInt64]
  refine v_iret hC dX11_fileIn_8 ?_
  exact ⟨rfl, rfl⟩
