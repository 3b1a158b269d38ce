/-- who has a file in review, and who translated it: two persons -/
def WfV (u : Si) : Prop := ∀ f, f < n_f u → q_i u 4 f 0 = 2 → ∃ a b, a < n_p u ∧ b < n_p u ∧ a ≠ b ∧ q_i u 5 f 0 = nI a ∧ q_i u 6 f 0 = nI b
theorem sm_at {T T2 : Nat → Int32} {n f : Nat} (hf : f < n) (h : ∀ g, g < n → g ≠ f → T2 g = T g) (h0 : T f = 0) : sm T2 n = sm T n + T2 f := by
  have k : ∀ m, m ≤ n → sm T2 m = sm T m + if f < m then T2 f else 0 := by
    intro m
    induction m with
    | zero => intro _; rw [if_neg (Nat.not_lt_zero f)]; rfl
    | succ m ih =>
      intro hm
      rw [sm_s, sm_s, ih (by omega)]
      by_cases q : m = f
      · rw [q, if_neg (Nat.lt_irrefl f), if_pos (Nat.lt_succ_self f), h0, Int32.add_zero]
      · rw [h m (by omega) q]
        by_cases q2 : f < m
        · rw [if_pos q2, if_pos (by omega), Int32.add_assoc, Int32.add_comm (T2 f), ← Int32.add_assoc]
        · rw [if_neg q2, if_neg (by omega), Int32.add_zero, Int32.add_zero]
  rw [k n (Nat.le_refl n), if_pos hf]
theorem del_w {u : Si} {f : Nat} (hf : f < n_f u) (h4 : q_i u 4 f 0 = 2) (y : Int32) : sm (T_wr (delU u f) y) (n_f u) = sm (T_wr u y) (n_f u) + (if q_i u 6 f 0 = y then w_f u f else 0) ∧ sm (T_pt (delU u f) y) (n_f u) = sm (T_pt u y) (n_f u) + (if q_i u 5 f 0 = y then q_i u 7 f 0 else 0) ∧ sm (T_wt (delU u f) y) (n_f u) = sm (T_wt u y) (n_f u) + (if q_i u 5 f 0 = y then w_f u f else 0) := by
  have n3 : ¬ q_i u 4 f 0 = 3 := fun q => by rw [h4] at q; exact absurd q (by decide)
  have e4 : q_i (delU u f) 4 f 0 = 3 := q_ie
  have eo : ∀ g, g ≠ f → q_i (delU u f) 4 g 0 = q_i u 4 g 0 := fun g hg => q_ia hg
  refine ⟨?_, ?_, ?_⟩
  · rw [sm_at (T := T_wr u y) hf (fun g _ hg => by unfold T_wr; rw [eo g hg]; rfl) (if_neg (fun z => n3 z.1))]
    congr 1
    unfold T_wr
    rw [e4]
    by_cases q : q_i u 6 f 0 = y
    · rw [if_pos q]; exact if_pos ⟨rfl, q⟩
    · rw [if_neg q]; exact if_neg (fun z => q z.2)
  · rw [sm_at (T := T_pt u y) hf (fun g _ hg => by unfold T_pt; rw [eo g hg]; rfl) (if_neg (fun z => n3 z.1))]
    congr 1
    unfold T_pt
    rw [e4]
    by_cases q : q_i u 5 f 0 = y
    · rw [if_pos q]; exact if_pos ⟨rfl, q⟩
    · rw [if_neg q]; exact if_neg (fun z => q z.2)
  · rw [sm_at (T := T_wt u y) hf (fun g _ hg => by unfold T_wt; rw [eo g hg]; rfl) (if_neg (fun z => n3 z.1))]
    congr 1
    unfold T_wt
    rw [e4]
    by_cases q : q_i u 5 f 0 = y
    · rw [if_pos q]; exact if_pos ⟨rfl, q⟩
    · rw [if_neg q]; exact if_neg (fun z => q z.2)
theorem LPd.del {r r2 : Nat → Int64} {u : Si} {f a b : Nat} (h : LPd r u) (hn : n_p u ≤ 6) (hf : f < n_f u) (h4 : q_i u 4 f 0 = 2) (ha : a < n_p u) (hb : b < n_p u) (ea : q_i u 5 f 0 = nI a) (eb : q_i u 6 f 0 = nI b)
    (e : ∀ p, p < n_p u → (r2 (pl 20 p 0)).toInt32 = (r (pl 20 p 0)).toInt32 + ((if p = a then q_i u 7 f 0 else 0) + (if p = b then 2 * w_f u f else 0)) ∧ (r2 (pl 21 p 0)).toInt32 = (r (pl 21 p 0)).toInt32 + (if p = a then w_f u f else 0) ∧ (r2 (pl 22 p 0)).toInt32 = (r (pl 22 p 0)).toInt32 + (if p = b then w_f u f else 0)) : LPd r2 (delU u f) := fun p hp => by
  have hp' : p < n_p u := hp
  obtain ⟨e1, e2, e3⟩ := e p hp'
  obtain ⟨b1, b2, b3⟩ := h p hp'
  obtain ⟨d1, d2, d3⟩ := del_w hf h4 (nI p)
  have ia : (nI a = nI p) = (p = a) := propext ⟨fun q => ((nI_eq (by omega) (by omega)).mp q).symm, fun q => by rw [q]⟩
  have ib : (nI b = nI p) = (p = b) := propext ⟨fun q => ((nI_eq (by omega) (by omega)).mp q).symm, fun q => by rw [q]⟩
  rw [ea] at d2 d3
  rw [eb] at d1
  simp only [ia, ib] at d1 d2 d3
  refine ⟨?_, ?_, ?_⟩
  · rw [e1, b1]
    show _ = 2 * sm (T_wr (delU u f) (nI p)) (n_f u) + sm (T_pt (delU u f) (nI p)) (n_f u)
    rw [d1, d2, Int32.mul_add]
    show 2 * sm (T_wr u (nI p)) (n_f u) + sm (T_pt u (nI p)) (n_f u) + _ = _
    rw [show (2 : Int32) * (if p = b then w_f u f else 0) = (if p = b then 2 * w_f u f else 0) from by split <;> rfl, Int32.add_comm (if p = a then q_i u 7 f 0 else 0) (if p = b then 2 * w_f u f else 0)]
    exact i_ac4 _ _ _ _
  · rw [e2, b2]; exact d3.symm
  · rw [e3, b3]; exact d1.symm