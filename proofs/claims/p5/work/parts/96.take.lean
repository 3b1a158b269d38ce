theorem WfT.give {u : Si} {f t : Nat} {x y : Int32} (w : WfT u) (hx : 0 < x) (hy : ¬ y = 0) : WfT (u_i (u_i u 9 f t x) 10 f t y) := fun g s hg hs => by
  by_cases q : g = f ∧ s = t
  · obtain ⟨rfl, rfl⟩ := q
    refine Or.inr ⟨?_, ?_⟩
    · rw [q_ik (by decide), q_ie]; exact hx
    · rw [q_ie]; exact hy
  · have e9 : q_i (u_i (u_i u 9 f t x) 10 f t y) 9 g s = q_i u 9 g s := by
      rw [q_ik (by decide), q_iu, if_neg (fun z => q ⟨z.2.1, z.2.2⟩)]
    have e10 : q_i (u_i (u_i u 9 f t x) 10 f t y) 10 g s = q_i u 10 g s := by
      rw [q_iu, if_neg (fun z => q ⟨z.2.1, z.2.2⟩)]; rfl
    rw [e9, e10]
    exact w g s hg hs
theorem WfT.stM1 {v : Si} {f i : Nat} (w : WfT v) (hE : ∀ x, x < n_e v → 0 < q_i v 11 x 0) : WfT (stM f i v) := by
  unfold stM
  split
  · split
    · rename_i x hx
      exact w.give (hE x (alN_i hx)) (by decide)
    · exact w
  · exact w
theorem WfT.stMn {u : Si} {f : Nat} (w : WfT u) (hE : ∀ x, x < n_e u → 0 < q_i u 11 x 0) : ∀ i, WfT (fU (stM f) u i)
  | 0 => w
  | i + 1 => by
    have ih := WfT.stMn (f := f) w hE i
    have k : Kp u (fU (stM f) u i) := Kp.fU (fun j v => stM_kp f j v) i
    have en : n_e (fU (stM f) u i) = n_e u := by show (fU (stM f) u i).1 2 0 = u.1 2 0; rw [k.1]
    exact WfT.stM1 ih (fun x hx => by
      rw [k.2.2 11 x 0 (by omega)]
      exact hE x (by rw [← en]; exact hx))
theorem u_ic2 {v : Si} {k a j k2 a2 j2 : Nat} {x y : Int32} (h : k ≠ k2) : u_i (u_i v k a j x) k2 a2 j2 y = u_i (u_i v k2 a2 j2 y) k a j x := by
  have : (fun q b c => if q = k2 ∧ b = a2 ∧ c = j2 then y else if q = k ∧ b = a ∧ c = j then x else v.2.1 q b c) = (fun q b c => if q = k ∧ b = a ∧ c = j then x else if q = k2 ∧ b = a2 ∧ c = j2 then y else v.2.1 q b c) := funext fun q => funext fun b => funext fun c => by
    by_cases w : q = k ∧ b = a ∧ c = j
    · rw [if_pos w, if_neg (fun z => h (w.1.symm.trans z.1)), if_pos w]
    · rw [if_neg w, if_neg w]
  show (v.1, (fun q b c => if q = k2 ∧ b = a2 ∧ c = j2 then y else if q = k ∧ b = a ∧ c = j then x else v.2.1 q b c), v.2.2) = _
  rw [this]; rfl
theorem stM_c {v : Si} {f i k a j : Nat} {x : Int32} (h : k < 9) : stM f i (u_i v k a j x) = u_i (stM f i v) k a j x := by
  have e9 : q_i (u_i v k a j x) 9 f i = q_i v 9 f i := q_ik (by omega)
  have ea : alN (u_i v k a j x) (q_g (u_i v k a j x) 0 f i) = alN v (q_g v 0 f i) := rfl
  unfold stM
  rw [e9, ea]
  by_cases q : q_i v 9 f i = 0
  · rw [if_pos q, if_pos q]
    cases alN v (q_g v 0 f i) with
    | none => rfl
    | some b =>
      show u_i (u_i (u_i v k a j x) 9 f i (q_i (u_i v k a j x) 11 b 0)) 10 f i 3 = u_i (u_i (u_i v 9 f i (q_i v 11 b 0)) 10 f i 3) k a j x
      rw [show q_i (u_i v k a j x) 11 b 0 = q_i v 11 b 0 from q_ik (by omega), u_ic2 (show k ≠ 9 by omega), u_ic2 (show k ≠ 10 by omega)]
  · rw [if_neg q, if_neg q]
theorem fM_c {v : Si} {f k a j : Nat} {x : Int32} (h : k < 9) : ∀ i, fU (stM f) (u_i v k a j x) i = u_i (fU (stM f) v i) k a j x
  | 0 => rfl
  | i + 1 => by
    show stM f i (fU (stM f) (u_i v k a j x) i) = u_i (stM f i (fU (stM f) v i)) k a j x
    rw [fM_c h i, stM_c h]