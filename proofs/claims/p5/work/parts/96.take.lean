theorem WfT.give {u : Si} {f t : Nat} {x y : Int32} (w : WfT u) (hx : 0 < x) (hy : ¬ y = 0) : WfT (u_i (u_i u 9 f t x) 10 f t y) := fun g s hg hs => by
  by_cases q : g = f ∧ s = t
  · obtain ⟨rfl, rfl⟩ := q
    refine Or.inr ⟨?_, ?_⟩
    · rw [q_ik (by decide), q_ie]; exact hx
    · rw [q_ie]; exact hy
  · have e9 : q_i (u_i (u_i u 9 f t x) 10 f t y) 9 g s = q_i u 9 g s := by
      rw [q_ik (by decide), q_iu, if_neg (fun z => q ⟨z.2.1, z.2.2⟩)]
    have e10 : q_i (u_i (u_i u 9 f t x) 10 f t y) 10 g s = q_i u 10 g s := by
      rw [q_iu, if_neg (fun z => q ⟨z.2.1, z.2.2⟩)]; rfl
    rw [e9, e10]
    exact w g s hg hs
theorem WfT.stM1 {v : Si} {f i : Nat} (w : WfT v) (hE : ∀ x, x < n_e v → 0 < q_i v 11 x 0) : WfT (stM f i v) := by
  unfold stM
  split
  · split
    · rename_i x hx
      exact w.give (hE x (alN_i hx)) (by decide)
    · exact w
  · exact w
theorem WfT.stMn {u : Si} {f : Nat} (w : WfT u) (hE : ∀ x, x < n_e u → 0 < q_i u 11 x 0) : ∀ i, WfT (fU (stM f) u i)
  | 0 => w
  | i + 1 => by
    have ih := WfT.stMn (f := f) w hE i
    have k : Kp u (fU (stM f) u i) := Kp.fU (fun j v => stM_kp f j v) i
    have en : n_e (fU (stM f) u i) = n_e u := by show (fU (stM f) u i).1 2 0 = u.1 2 0; rw [k.1]
    exact WfT.stM1 ih (fun x hx => by
      rw [k.2.2 11 x 0 (by omega)]
      exact hE x (by rw [← en]; exact hx))