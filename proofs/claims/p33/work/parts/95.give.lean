theorem LA.give {r : Nat → Int64} {u : Si} {f t : Nat} {x y : Int32} (h : LA r u) (hf : f < 8) (ht : t < 12) (hx : ¬ x = 0) : LA (updR (updR r (606 + 11 * (12 * f + t) + 9) x.toInt64) (606 + 11 * (12 * f + t) + 10) y.toInt64) (u_i (u_i u 9 f t x) 10 f t y) := by
  have c9 : ∀ k, 9 ≤ k → k ≤ 10 → cpR k f t := fun k q1 q2 => Or.inr (Or.inr (Or.inr (Or.inl ⟨q1, q2, hf, ht⟩)))
  have a2 := (h.w (v := x) 9 f t (c9 9 (by decide) (by decide)) (by decide) (by decide)).w (v := y) 10 f t (c9 10 (by decide) (by decide)) (by decide) (by decide)
  rw [show eb 9 x = x.toInt64 from if_neg (fun q => hx q.2), show eb 10 y = y.toInt64 from eb_o (by decide) (by decide)] at a2
  rw [show 606 + 11 * (12 * f + t) + 9 = pl 9 f t by simp [pl, pB_, pA_, pJ_]; omega, show 606 + 11 * (12 * f + t) + 10 = pl 10 f t by simp [pl, pB_, pA_, pJ_]; omega]
  exact a2
theorem LPd.give {r : Nat → Int64} {u : Si} {f t : Nat} {x y : Int64} (h : LPd r u) (hn : n_p u ≤ 6) (hf : f < 8) (ht : t < 12) : LPd (updR (updR r (606 + 11 * (12 * f + t) + 9) x) (606 + 11 * (12 * f + t) + 10) y) u := by
  have c9 : ∀ k, 9 ≤ k → k ≤ 10 → cpR k f t := fun k q1 q2 => Or.inr (Or.inr (Or.inr (Or.inl ⟨q1, q2, hf, ht⟩)))
  rw [show 606 + 11 * (12 * f + t) + 9 = pl 9 f t by simp [pl, pB_, pA_, pJ_]; omega, show 606 + 11 * (12 * f + t) + 10 = pl 10 f t by simp [pl, pB_, pA_, pJ_]; omega]
  exact (h.off 9 f t hn (Or.inl (c9 9 (by decide) (by decide))) (by decide)).off 10 f t hn (Or.inl (c9 10 (by decide) (by decide))) (by decide)
theorem PdF.give {u : Si} {f t : Nat} {x y : Int32} : PdF u (u_i (u_i u 9 f t x) 10 f t y) := (PdF.i (v := x) 9 f t (by decide)).tr (PdF.i (v := y) 10 f t (by decide))
