/-! what holds of every state that is reached -/
def GM (u : Si) : Prop := (∀ x, x < n_e u → (q_i u 12 x 0 = 0 ∨ q_i u 12 x 0 = 1) ∧ 0 < q_i u 11 x 0) ∧ ∀ d, d < n_d u → (∃ e, e < n_e u ∧ q_i u 13 d 0 = nI e) ∧ 0 < q_i u 14 d 0 ∧ 0 < q_i u 15 d 0
def GO (u : Si) : Prop := WfO u ∧ WfI u
def GB (u : Si) : Prop := WfB u ∧ WfY u ∧ ∀ a k, a < n_p u → k < 6 → brd (q_i u 2 a 0) (nI k) → k < n_p u
def Fl (u : Si) (f : Nat) : Prop := q_i u 4 f 0 = 0 ∨ (q_i u 4 f 0 = 1 ∧ ∃ a, a < n_p u ∧ q_i u 5 f 0 = nI a) ∨ (q_i u 4 f 0 = 2 ∧ ∃ a b, a < n_p u ∧ b < n_p u ∧ a ≠ b ∧ q_i u 5 f 0 = nI a ∧ q_i u 6 f 0 = nI b) ∨ (q_i u 4 f 0 = 3 ∧ ∃ a b, a < n_p u ∧ b < n_p u ∧ q_i u 5 f 0 = nI a ∧ q_i u 6 f 0 = nI b) ∨ q_i u 4 f 0 = 4
def GF (u : Si) : Prop := ∀ f, f < n_f u → Fl u f
def GJ (K : Nat) (u : Si) : Prop := ∀ f, f < n_f u → ∃ k, k ≤ K ∧ q_i u 8 f 0 = nI k
def Wf (K : Nat) (u : Si) : Prop := GM u ∧ GO u ∧ GB u ∧ GF u ∧ WfT u ∧ GJ K u
theorem Wf.mk {K : Nat} {u : Si} (a : GM u) (b : GO u) (d : GB u) (e : GF u) (f : WfT u) (g : GJ K u) : Wf K u := ⟨a, b, d, e, f, g⟩
theorem Wf.m {K : Nat} {u : Si} (w : Wf K u) : GM u := w.1
theorem Wf.o {K : Nat} {u : Si} (w : Wf K u) : GO u := w.2.1
theorem Wf.b {K : Nat} {u : Si} (w : Wf K u) : GB u := w.2.2.1
theorem Wf.f {K : Nat} {u : Si} (w : Wf K u) : GF u := w.2.2.2.1
theorem Wf.t {K : Nat} {u : Si} (w : Wf K u) : WfT u := w.2.2.2.2.1
theorem Wf.j {K : Nat} {u : Si} (w : Wf K u) : GJ K u := w.2.2.2.2.2
theorem Wf.z {K : Nat} {u : Si} (w : Wf K u) : hzU u := fun x hx => (w.m.1 x hx).1
theorem Wf.e {K : Nat} {u : Si} (w : Wf K u) : ∀ x, x < n_e u → 0 < q_i u 11 x 0 := fun x hx => (w.m.1 x hx).2
theorem Wf.d {K : Nat} {u : Si} (w : Wf K u) : WfD u := fun d hd => (w.m.2 d hd).1
theorem Wf.q {K : Nat} {u : Si} (w : Wf K u) : WfQ u := fun d hd => (w.m.2 d hd).2
theorem GF.s {u : Si} (w : GF u) : WfS u := fun f hf => by
  rcases w f hf with q | ⟨q, -⟩ | ⟨q, -⟩ | ⟨q, -⟩ | q
  · exact ⟨0, by decide, q⟩
  · exact ⟨1, by decide, q⟩
  · exact ⟨2, by decide, q⟩
  · exact ⟨3, by decide, q⟩
  · exact ⟨4, by decide, q⟩
theorem GF.a {u : Si} (w : GF u) : WfA u := fun f hf h => by
  rcases w f hf with q | ⟨q, z⟩ | ⟨q, -⟩ | ⟨q, -⟩ | q
  · rw [q] at h; exact absurd h (by decide)
  · exact z
  · rw [q] at h; exact absurd h (by decide)
  · rw [q] at h; exact absurd h (by decide)
  · rw [q] at h; exact absurd h (by decide)
theorem GF.v {u : Si} (w : GF u) : WfV u := fun f hf h => by
  rcases w f hf with q | ⟨q, z⟩ | ⟨q, z⟩ | ⟨q, -⟩ | q
  · rw [q] at h; exact absurd h (by decide)
  · rw [q] at h; exact absurd h (by decide)
  · exact z
  · rw [q] at h; exact absurd h (by decide)
  · rw [q] at h; exact absurd h (by decide)
theorem GF.k {u : Si} (w : GF u) : WfK u := fun f hf h => by
  rcases w f hf with q | ⟨q, z⟩ | ⟨q, z⟩ | ⟨q, a, b, z1, z2, z3, z4⟩ | q
  · rw [q] at h; exact absurd h (by decide)
  · rw [q] at h; exact absurd h (by decide)
  · rw [q] at h; exact absurd h (by decide)
  · exact ⟨⟨a, z1, z3⟩, b, z2, z4⟩
  · rw [q] at h; exact absurd h (by decide)
theorem Wf.jj {K : Nat} {u : Si} (w : Wf K u) (hK : K < 2 ^ 30) : ∀ f, f < n_f u → ∃ k, k < 2 ^ 30 ∧ q_i u 8 f 0 = nI k := fun f hf => by
  obtain ⟨k, h1, h2⟩ := w.j f hf
  exact ⟨k, by omega, h2⟩
/-! what one change leaves -/
theorem GM.ui {u : Si} {k a j : Nat} {x : Int32} (w : GM u) (hk : k < 11 ∨ 15 < k) : GM (u_i u k a j x) := by
  refine ⟨fun b hb => ?_, fun d hd => ?_⟩
  · rw [q_ik (show 12 ≠ k by omega), q_ik (show 11 ≠ k by omega)]; exact w.1 b hb
  · rw [q_ik (show 13 ≠ k by omega), q_ik (show 14 ≠ k by omega), q_ik (show 15 ≠ k by omega)]; exact w.2 d hd
theorem GM.un {u : Si} {k a n : Nat} (w : GM u) (hk : k ≠ 2 ∧ k ≠ 3) : GM (u_n u k a n) := by
  have e2 : n_e (u_n u k a n) = n_e u := q_nk (fun q => hk.1 q.symm)
  have e3 : n_d (u_n u k a n) = n_d u := q_nk (fun q => hk.2 q.symm)
  refine ⟨fun b hb => w.1 b (by rw [← e2]; exact hb), fun d hd => ?_⟩
  obtain ⟨⟨e, h1, h2⟩, h3⟩ := w.2 d (by rw [← e3]; exact hd)
  exact ⟨⟨e, by rw [e2]; exact h1, h2⟩, h3⟩
theorem GM.ug {u : Si} {k a j : Nat} {g : Sg} (w : GM u) : GM (u_g u k a j g) := w
theorem GM.kp {u v : Si} (w : GM u) (k : Kp u v) : GM v := by
  have e2 : n_e v = n_e u := k.n 2 0
  have e3 : n_d v = n_d u := k.n 3 0
  refine ⟨fun b hb => ?_, fun d hd => ?_⟩
  · rw [k.2.2 12 b 0 (by omega), k.2.2 11 b 0 (by omega)]; exact w.1 b (by rw [← e2]; exact hb)
  · rw [k.2.2 13 d 0 (by omega), k.2.2 14 d 0 (by omega), k.2.2 15 d 0 (by omega), e2]; exact w.2 d (by rw [← e3]; exact hd)
theorem GO.cg {u v : Si} (w : GO u) (en : n_f v = n_f u) (e : ∀ j, q_i v 17 0 j = q_i u 17 0 j) : GO v := by
  refine ⟨⟨fun j hj => ?_, fun f hf => ?_⟩, fun j j2 h1 h2 h => ?_⟩
  · rw [e j, en]; exact w.1.1 j (by rw [← en]; exact hj)
  · obtain ⟨j, h1, h2⟩ := w.1.2 f (by rw [← en]; exact hf)
    exact ⟨j, by rw [en]; exact h1, (e j).trans h2⟩
  · rw [e, e] at h
    exact w.2 j j2 (by rw [← en]; exact h1) (by rw [← en]; exact h2) h
theorem GO.ui {u : Si} {k a j : Nat} {x : Int32} (w : GO u) (hk : k ≠ 17) : GO (u_i u k a j x) := w.cg rfl (fun _ => q_ik (fun q => hk q.symm))
theorem GO.un {u : Si} {k a n : Nat} (w : GO u) (hk : k ≠ 0) : GO (u_n u k a n) := w.cg (q_nk (fun q => hk q.symm)) (fun _ => rfl)
theorem GO.ug {u : Si} {k a j : Nat} {g : Sg} (w : GO u) : GO (u_g u k a j g) := w
theorem GO.kp {u v : Si} (w : GO u) (k : Kp u v) : GO v := w.cg (k.n 0 0) (fun j => k.2.2 17 0 j (by omega))
theorem GB.cg {u v : Si} (w : GB u) (en : n_p v = n_p u) (e : ∀ a, q_i v 2 a 0 = q_i u 2 a 0) : GB v := by
  refine ⟨fun p hp => ?_, fun a b ha hb => ?_, fun a k ha hk h => ?_⟩
  · rw [e]; exact w.1 p (by rw [← en]; exact hp)
  · rw [e, e]; exact w.2.1 a b (by rw [← en]; exact ha) (by rw [← en]; exact hb)
  · rw [e] at h; rw [en]; exact w.2.2 a k (by rw [← en]; exact ha) hk h
theorem GB.ui {u : Si} {k a j : Nat} {x : Int32} (w : GB u) (hk : k ≠ 2) : GB (u_i u k a j x) := w.cg rfl (fun _ => q_ik (fun q => hk q.symm))
theorem GB.un {u : Si} {k a n : Nat} (w : GB u) (hk : k ≠ 1) : GB (u_n u k a n) := w.cg (q_nk (fun q => hk q.symm)) (fun _ => rfl)
theorem GB.ug {u : Si} {k a j : Nat} {g : Sg} (w : GB u) : GB (u_g u k a j g) := w
theorem GB.kp {u v : Si} (w : GB u) (k : Kp u v) : GB v := w.cg (k.n 1 0) (fun j => k.2.2 2 j 0 (by omega))
theorem Fl.cg {u v : Si} {f : Nat} (w : Fl u f) (ep : n_p u ≤ n_p v) (e : ∀ k, 4 ≤ k → k ≤ 6 → q_i v k f 0 = q_i u k f 0) : Fl v f := by
  unfold Fl
  rw [e 4 (by decide) (by decide), e 5 (by decide) (by decide), e 6 (by decide) (by decide)]
  rcases w with q | ⟨q, a, z1, z2⟩ | ⟨q, a, b, z1, z2, z3, z4, z5⟩ | ⟨q, a, b, z1, z2, z3, z4⟩ | q
  · exact Or.inl q
  · exact Or.inr (Or.inl ⟨q, a, by omega, z2⟩)
  · exact Or.inr (Or.inr (Or.inl ⟨q, a, b, by omega, by omega, z3, z4, z5⟩))
  · exact Or.inr (Or.inr (Or.inr (Or.inl ⟨q, a, b, by omega, by omega, z3, z4⟩)))
  · exact Or.inr (Or.inr (Or.inr (Or.inr q)))
theorem GF.cg {u v : Si} (w : GF u) (en : n_f v = n_f u) (ep : n_p u ≤ n_p v) (e : ∀ k f, 4 ≤ k → k ≤ 6 → q_i v k f 0 = q_i u k f 0) : GF v := fun f hf => (w f (by rw [← en]; exact hf)).cg ep (fun k h1 h2 => e k f h1 h2)
theorem GF.at {u v : Si} {f : Nat} (w : GF u) (en : n_f v = n_f u) (ep : n_p u ≤ n_p v) (e : ∀ k g, 4 ≤ k → k ≤ 6 → g ≠ f → q_i v k g 0 = q_i u k g 0) (h : Fl v f) : GF v := fun g hg => by
  by_cases q : g = f
  · rw [q]; exact h
  · exact (w g (by rw [← en]; exact hg)).cg ep (fun k h1 h2 => e k g h1 h2 q)
theorem GF.ui {u : Si} {k a j : Nat} {x : Int32} (w : GF u) (hk : k < 4 ∨ 6 < k) : GF (u_i u k a j x) := w.cg rfl (Nat.le_refl _) (fun k2 f h1 h2 => q_ik (by omega))
theorem GF.un {u : Si} {k a n : Nat} (w : GF u) (hk : k ≠ 0 ∧ k ≠ 1) : GF (u_n u k a n) := w.cg (q_nk (fun q => hk.1 q.symm)) (Nat.le_of_eq (q_nk (fun q => hk.2 q.symm)).symm) (fun _ _ _ _ => rfl)
theorem GF.ug {u : Si} {k a j : Nat} {g : Sg} (w : GF u) : GF (u_g u k a j g) := w
theorem GF.kp {u v : Si} (w : GF u) (k : Kp u v) : GF v := w.cg (k.n 0 0) (Nat.le_of_eq (k.n 1 0).symm) (fun k2 f h1 h2 => k.2.2 k2 f 0 (by omega))
theorem WfT.ui {u : Si} {k a j : Nat} {x : Int32} (w : WfT u) (hk : k < 9 ∨ 10 < k) : WfT (u_i u k a j x) := fun f t hf ht => by
  rw [q_ik (show 9 ≠ k by omega), q_ik (show 10 ≠ k by omega)]; exact w f t hf ht
theorem WfT.un {u : Si} {k a n : Nat} (w : WfT u) (hk : k ≠ 0 ∧ k ≠ 4) : WfT (u_n u k a n) := fun f t hf ht => by
  refine w f t ?_ ?_
  · exact Nat.lt_of_lt_of_eq hf (q_nk (fun q => hk.1 q.symm))
  · exact Nat.lt_of_lt_of_eq ht (q_nk (fun q => hk.2 q.symm))
theorem WfT.ug {u : Si} {k a j : Nat} {g : Sg} (w : WfT u) : WfT (u_g u k a j g) := w
theorem GJ.cg {K : Nat} {u v : Si} (w : GJ K u) (en : n_f v = n_f u) (e : ∀ f, q_i v 8 f 0 = q_i u 8 f 0) : GJ K v := fun f hf => by
  rw [e]; exact w f (by rw [← en]; exact hf)
theorem GJ.ui {K : Nat} {u : Si} {k a j : Nat} {x : Int32} (w : GJ K u) (hk : k ≠ 8) : GJ K (u_i u k a j x) := w.cg rfl (fun _ => q_ik (fun q => hk q.symm))
theorem GJ.un {K : Nat} {u : Si} {k a n : Nat} (w : GJ K u) (hk : k ≠ 0) : GJ K (u_n u k a n) := w.cg (q_nk (fun q => hk q.symm)) (fun _ => rfl)
theorem GJ.ug {K : Nat} {u : Si} {k a j : Nat} {g : Sg} (w : GJ K u) : GJ K (u_g u k a j g) := w
theorem GJ.kp {K : Nat} {u v : Si} (w : GJ K u) (k : Kp u v) : GJ K v := w.cg (k.n 0 0) (fun f => k.2.2 8 f 0 (by omega))
theorem GJ.up {K K2 : Nat} {u : Si} (w : GJ K u) (h : K ≤ K2) : GJ K2 u := fun f hf => by
  obtain ⟨k, h1, h2⟩ := w f hf
  exact ⟨k, by omega, h2⟩
theorem Wf.up {K K2 : Nat} {u : Si} (w : Wf K u) (h : K ≤ K2) : Wf K2 u := .mk w.m w.o w.b w.f w.t (w.j.up h)
/-! act by act -/
theorem brd0 : ∀ k : Fin 6, ¬ brd 0 (nI k.1) := by unfold brd; decide
theorem Wf.hire {K : Nat} {u : Si} {x : Int32} (w : Wf K u) (hn : n_p u < 6) : Wf K (hireU u x) := by
  have e2 : ∀ a, a ≠ n_p u → q_i (hireU u x) 2 a 0 = q_i u 2 a 0 := fun a ha => (q_ik (by decide)).trans ((q_ia ha).trans (q_ik (by decide)))
  have e20 : q_i (hireU u x) 2 (n_p u) 0 = 0 := (q_ik (by decide)).trans q_ie
  have en : n_p (hireU u x) = n_p u + 1 := rfl
  refine .mk ((((w.m.ui (by decide)).ui (by decide)).ui (by decide)).un (by decide)) ((((w.o.ui (by decide)).ui (by decide)).ui (by decide)).un (by decide)) ⟨fun p hp => ?_, fun a b ha hb => ?_, fun a k ha hk h => ?_⟩ ?_ ((((w.t.ui (by decide)).ui (by decide)).ui (by decide)).un (by decide)) (GJ.up ((((w.j.ui (by decide)).ui (by decide)).ui (by decide)).un (by decide)) (by omega))
  · by_cases q : p = n_p u
    · rw [q, e20]; exact ⟨0, by decide, rfl⟩
    · rw [e2 p q]; exact w.b.1 p (by omega)
  · by_cases q : a = n_p u
    · by_cases q2 : b = n_p u
      · rw [q, q2]
      · rw [q, e20, e2 b q2]
        refine ⟨fun z => absurd z (brd0 ⟨b, by omega⟩), fun z => ?_⟩
        have := w.b.2.2 b (n_p u) (by omega) hn z
        omega
    · by_cases q2 : b = n_p u
      · rw [q2, e20, e2 a q]
        refine ⟨fun z => ?_, fun z => absurd z (brd0 ⟨a, by omega⟩)⟩
        have := w.b.2.2 a (n_p u) (by omega) hn z
        omega
      · rw [e2 a q, e2 b q2]; exact w.b.2.1 a b (by omega) (by omega)
  · by_cases q : a = n_p u
    · rw [q, e20] at h; exact absurd h (brd0 ⟨k, hk⟩)
    · rw [e2 a q] at h
      have := w.b.2.2 a k (by omega) hk h
      omega
  · exact GF.cg w.f rfl (by rw [en]; omega) (fun k f h1 h2 => (q_ik (show k ≠ 3 by omega)).trans ((q_ik (show k ≠ 2 by omega)).trans (q_ik (show k ≠ 1 by omega))))
theorem Wf.share {K : Nat} {u : Si} {b : Nat} {y : Int32} (w : Wf K u) : Wf K (u_i u 0 0 b y) := .mk (w.m.ui (by decide)) (w.o.ui (by decide)) (w.b.ui (by decide)) (w.f.ui (by decide)) (w.t.ui (by decide)) (GJ.up (w.j.ui (by decide)) (by omega))
theorem Wf.file {K : Nat} {u : Si} (w : Wf K u) (hn : n_f u < 8) : Wf K (fileU u) := by
  have e17 : ∀ j, j ≠ n_f u → q_i (fileU u) 17 0 j = q_i u 17 0 j := fun j hj => (if_neg (fun z => hj z.2.2) : (if 17 = 17 ∧ (0 : Nat) = 0 ∧ j = n_f u then nI (n_f u) else _) = _)
  have e17n : q_i (fileU u) 17 0 (n_f u) = nI (n_f u) := if_pos ⟨rfl, rfl, rfl⟩
  have en : n_f (fileU u) = n_f u + 1 := rfl
  have eo : ∀ k f, k ≤ 10 → f ≠ n_f u → q_i (fileU u) k f 0 = q_i u k f 0 := fun k f hk hf => (q_ik (show k ≠ 17 by omega)).trans ((q_ia hf).trans ((q_ia hf).trans ((q_ia hf).trans ((q_ia hf).trans (q_ia hf)))))
  have e4 : q_i (fileU u) 4 (n_f u) 0 = 0 := (q_ik (by decide)).trans ((q_ik (by decide)).trans ((q_ik (by decide)).trans ((q_ik (by decide)).trans ((q_ik (by decide)).trans q_ie))))
  have e8 : q_i (fileU u) 8 (n_f u) 0 = 0 := (q_ik (by decide)).trans q_ie
  refine .mk ((((((((w.m.ui (by decide)).ui (by decide)).ui (by decide)).ui (by decide)).ui (by decide)).un (by decide)).ui (by decide)).un (by decide)) ⟨⟨fun j hj => ?_, fun f hf => ?_⟩, fun j j2 h1 h2 h => ?_⟩ ((((((((w.b.ui (by decide)).ui (by decide)).ui (by decide)).ui (by decide)).ui (by decide)).un (by decide)).ui (by decide)).un (by decide)) (fun f hf => ?_) (fun f t hf ht => ?_) (fun f hf => ?_)
  · by_cases q : j = n_f u
    · rw [q, e17n]; exact ⟨n_f u, by omega, rfl⟩
    · rw [e17 j q]
      obtain ⟨g, h1, h2⟩ := w.o.1.1 j (by omega)
      exact ⟨g, by omega, h2⟩
  · by_cases q : f = n_f u
    · rw [q]; exact ⟨n_f u, by omega, e17n⟩
    · obtain ⟨j, h1, h2⟩ := w.o.1.2 f (by omega)
      exact ⟨j, by omega, (e17 j (by omega)).trans h2⟩
  · by_cases q : j = n_f u
    · by_cases q2 : j2 = n_f u
      · rw [q, q2]
      · rw [q, e17n, e17 j2 q2] at h
        obtain ⟨g, h3, h4⟩ := w.o.1.1 j2 (by omega)
        have := (nI_eq (by omega) (by omega)).mp (h.trans h4)
        omega
    · by_cases q2 : j2 = n_f u
      · rw [q2, e17n, e17 j q] at h
        obtain ⟨g, h3, h4⟩ := w.o.1.1 j (by omega)
        have := (nI_eq (by omega) (by omega)).mp (h.symm.trans h4)
        omega
      · rw [e17 j q, e17 j2 q2] at h
        exact w.o.2 j j2 (by omega) (by omega) h
  · by_cases q : f = n_f u
    · rw [q]; exact Or.inl e4
    · exact (w.f f (by omega)).cg (Nat.le_refl _) (fun k h1 h2 => eo k f (by omega) q)
  · by_cases q : f = n_f u
    · have e0 : n_s (fileU u) f = 0 := by rw [q]; exact (if_neg (fun z => absurd z.1 (by decide)) : (if 4 = 0 ∧ n_f u = 0 then n_f u + 1 else if 4 = 4 ∧ n_f u = n_f u then 0 else _) = _).trans (if_pos ⟨rfl, rfl⟩)
      omega
    · have e0 : n_s (fileU u) f = n_s u f := (if_neg (fun z => absurd z.1 (by decide)) : (if 4 = 0 ∧ f = 0 then n_f u + 1 else if 4 = 4 ∧ f = n_f u then 0 else n_s u f) = _).trans (if_neg (fun z => q z.2))
      have e9 : ∀ k, 9 ≤ k → k ≤ 10 → q_i (fileU u) k f t = q_i u k f t := fun k h1 h2 => (q_ik (show k ≠ 17 by omega)).trans ((q_ia q).trans ((q_ia q).trans ((q_ia q).trans ((q_ia q).trans (q_ia q)))))
      rw [e9 9 (by decide) (by decide), e9 10 (by decide) (by decide)]
      exact w.t f t (by omega) (by omega)
  · by_cases q : f = n_f u
    · rw [q, e8]; exact ⟨0, Nat.zero_le _, rfl⟩
    · rw [eo 8 f (by decide) q]; exact w.j f (by omega)
theorem sbr_b : ∀ b : Fin 64, ∀ q : Fin 6, ∀ z : Fin 2, ∀ d : Fin 6, (brd (sbr (nI b.1) (nI q.1) (nI z.1)) (nI d.1) ↔ if d.1 = q.1 then z.1 = 1 else brd (nI b.1) (nI d.1)) := by unfold brd; decide +kernel
theorem Wf.bar {K : Nat} {u : Si} {a b : Nat} {z : Int32} (w : Wf K u) (hn6 : n_p u ≤ 6) (ha : a < n_p u) (hb : b < n_p u) (hab : a ≠ b) (hz : z = 0 ∨ z = 1) (hne : ¬ brB (q_i u 2 a 0) (nI b) = z) : Wf K (barU u a b z) := by
  have hne2 : ¬ brB (q_i u 2 b 0) (nI a) = z := by rw [← brB_s w.b.2.1 ha hb]; exact hne
  have ea : q_i (barU u a b z) 2 a 0 = sbr (q_i u 2 a 0) (nI b) z := (q_ia hab).trans q_ie
  have eb : q_i (barU u a b z) 2 b 0 = sbr (q_i u 2 b 0) (nI a) z := q_ie
  have eo : ∀ d, d ≠ a → d ≠ b → q_i (barU u a b z) 2 d 0 = q_i u 2 d 0 := fun d h1 h2 => (q_ia h2).trans (q_ia h1)
  have hs : ∀ p, p < n_p u → ∀ q, q < 6 → ∀ d, d < 6 → (brd (sbr (q_i u 2 p 0) (nI q) z) (nI d) ↔ if d = q then z = 1 else brd (q_i u 2 p 0) (nI d)) := fun p hp q hq d hd => by
    obtain ⟨B, hB, eB⟩ := w.b.1 p hp
    rw [eB]
    rcases hz with rfl | rfl
    · have h0 := sbr_b ⟨B, hB⟩ ⟨q, hq⟩ 0 ⟨d, hd⟩
      by_cases y : d = q
      · rw [if_pos y]
        rw [if_pos (show (⟨d, hd⟩ : Fin 6).1 = (⟨q, hq⟩ : Fin 6).1 from y)] at h0
        exact h0.trans ⟨fun z => absurd z (by decide), fun z => absurd z (by decide)⟩
      · rw [if_neg y]
        rw [if_neg (show ¬ (⟨d, hd⟩ : Fin 6).1 = (⟨q, hq⟩ : Fin 6).1 from y)] at h0
        exact h0
    · have h0 := sbr_b ⟨B, hB⟩ ⟨q, hq⟩ 1 ⟨d, hd⟩
      by_cases y : d = q
      · rw [if_pos y]
        rw [if_pos (show (⟨d, hd⟩ : Fin 6).1 = (⟨q, hq⟩ : Fin 6).1 from y)] at h0
        exact h0.trans ⟨fun _ => rfl, fun _ => rfl⟩
      · rw [if_neg y]
        rw [if_neg (show ¬ (⟨d, hd⟩ : Fin 6).1 = (⟨q, hq⟩ : Fin 6).1 from y)] at h0
        exact h0
  -- the bits of each person then
  have hv : ∀ p, p < n_p u → ∀ d, d < 6 → (brd (q_i (barU u a b z) 2 p 0) (nI d) ↔ if (p = a ∧ d = b) ∨ (p = b ∧ d = a) then z = 1 else brd (q_i u 2 p 0) (nI d)) := fun p hp d hd => by
    by_cases qa : p = a
    · subst qa
      rw [ea, hs p hp b (by omega) d hd]
      by_cases y : d = b
      · rw [if_pos y, if_pos (Or.inl ⟨rfl, y⟩)]
      · rw [if_neg y, if_neg (fun k => k.elim (fun k => y k.2) (fun k => hab k.1))]
    · by_cases qb : p = b
      · subst qb
        rw [eb, hs p hp a (by omega) d hd]
        by_cases y : d = a
        · rw [if_pos y, if_pos (Or.inr ⟨rfl, y⟩)]
        · rw [if_neg y, if_neg (fun k => k.elim (fun k => qa k.1) (fun k => y k.2))]
      · rw [eo p qa qb, if_neg (fun k => k.elim (fun k => qa k.1) (fun k => qb k.1))]
  refine .mk ((w.m.ui (by decide)).ui (by decide)) ((w.o.ui (by decide)).ui (by decide)) ⟨fun p hp => ?_, fun p d hp hd => ?_, fun p k hp hk h => ?_⟩ ((w.f.ui (by decide)).ui (by decide)) ((w.t.ui (by decide)).ui (by decide)) (GJ.up ((w.j.ui (by decide)).ui (by decide)) (by omega))
  · by_cases qa : p = a
    · rw [qa, ea]; exact (bx_u w.b.1 ha (by omega) hz hne).2
    · by_cases qb : p = b
      · rw [qb, eb]; exact (bx_u w.b.1 hb (by omega) hz hne2).2
      · rw [eo p qa qb]; exact w.b.1 p hp
  · have hp2 : p < n_p u := hp
    have hd2 : d < n_p u := hd
    rw [hv p hp2 d (by omega), hv d hd2 p (by omega)]
    by_cases y : (p = a ∧ d = b) ∨ (p = b ∧ d = a)
    · rw [if_pos y, if_pos (y.elim (fun k => Or.inr ⟨k.2, k.1⟩) (fun k => Or.inl ⟨k.2, k.1⟩))]
    · rw [if_neg y, if_neg (fun k => y (k.elim (fun k => Or.inr ⟨k.2, k.1⟩) (fun k => Or.inl ⟨k.2, k.1⟩)))]
      exact w.b.2.1 p d hp2 hd2
  · have hp2 : p < n_p u := hp
    rw [hv p hp2 k hk] at h
    show k < n_p u
    by_cases y : (p = a ∧ k = b) ∨ (p = b ∧ k = a)
    · omega
    · rw [if_neg y] at h; exact w.b.2.2 p k hp2 hk h
theorem Wf.app1 {K : Nat} {u : Si} {f : Nat} {g : Sg} (w : Wf K u) : Wf K (appU u f g) := by
  refine .mk ((((w.m.ug).ui (by decide)).ui (by decide)).un (by decide)) ((((w.o.ug).ui (by decide)).ui (by decide)).un (by decide)) ((((w.b.ug).ui (by decide)).ui (by decide)).un (by decide)) ((((w.f.ug).ui (by decide)).ui (by decide)).un (by decide)) (fun a t ha ht => ?_) (GJ.up ((((w.j.ug).ui (by decide)).ui (by decide)).un (by decide)) (by omega))
  have ha2 : a < n_f u := ha
  by_cases q : a = f ∧ t = n_s u f
  · obtain ⟨rfl, rfl⟩ := q
    exact Or.inl ⟨(q_ik (by decide)).trans q_ie, q_ie⟩
  · have e9 : q_i (appU u f g) 9 a t = q_i u 9 a t := (q_ik (by decide)).trans (if_neg (fun z => q ⟨z.2.1, z.2.2⟩))
    have e10 : q_i (appU u f g) 10 a t = q_i u 10 a t := (if_neg (fun z => q ⟨z.2.1, z.2.2⟩) : (if 10 = 10 ∧ a = f ∧ t = n_s u f then (0 : Int32) else _) = _).trans (q_ik (by decide))
    rw [e9, e10]
    refine w.t a t ha2 ?_
    by_cases q2 : a = f
    · have : n_s (appU u f g) a = n_s u f + 1 := if_pos ⟨rfl, q2⟩
      rw [q2] at q ⊢
      rw [q2] at this ht
      omega
    · have : n_s (appU u f g) a = n_s u a := q_na q2
      omega
theorem Wf.app {K : Nat} {f : Nat} : ∀ (gs : List Sg) {u : Si}, Wf K u → Wf K (apU u f gs)
  | [], _, w => w
  | _ :: gs, _, w => Wf.app gs w.app1
theorem GM.ent {u : Si} {g : Sg} {t : Int32} (w : GM u) (ht : 0 < t) : GM (entU u g t) := by
  refine ⟨fun b hb => ?_, fun d hd => ?_⟩
  · have hb2 : b < n_e u + 1 := hb
    by_cases q : b = n_e u
    · rw [q]
      refine ⟨Or.inl q_ie, ?_⟩
      rw [show q_i (entU u g t) 11 (n_e u) 0 = t from (q_ik (by decide)).trans q_ie]; exact ht
    · rw [show q_i (entU u g t) 12 b 0 = q_i u 12 b 0 from (q_ia q).trans (q_ia q), show q_i (entU u g t) 11 b 0 = q_i u 11 b 0 from (q_ia q).trans (q_ia q)]
      exact w.1 b (by omega)
  · obtain ⟨⟨e, h1, h2⟩, h3⟩ := w.2 d hd
    exact ⟨⟨e, by show e < n_e u + 1; omega, ((q_ik (by decide)).trans (q_ik (by decide))).trans h2⟩, by
      rw [show q_i (entU u g t) 14 d 0 = q_i u 14 d 0 from (q_ik (by decide)).trans (q_ik (by decide)), show q_i (entU u g t) 15 d 0 = q_i u 15 d 0 from (q_ik (by decide)).trans (q_ik (by decide))]
      exact h3⟩
theorem Wf.ent {K : Nat} {u : Si} {g : Sg} {t : Int32} (w : Wf K u) (ht : 0 < t) : Wf K (entU u g t) := .mk (w.m.ent ht) ((((w.o.ug).ui (by decide)).ui (by decide)).un (by decide)) ((((w.b.ug).ui (by decide)).ui (by decide)).un (by decide)) ((((w.f.ug).ui (by decide)).ui (by decide)).un (by decide)) ((((w.t.ug).ui (by decide)).ui (by decide)).un (by decide)) (GJ.up ((((w.j.ug).ui (by decide)).ui (by decide)).un (by decide)) (by omega))
theorem GM.dsp {u : Si} {x : Nat} {t : Int32} (w : GM u) (hx : x < n_e u) (ht : 0 < t) : GM (dspU u x t) := by
  refine ⟨fun b hb => ?_, fun d hd => ?_⟩
  · rw [show q_i (dspU u x t) 12 b 0 = q_i u 12 b 0 from (q_ik (by decide)).trans ((q_ik (by decide)).trans ((q_ik (by decide)).trans (q_ik (by decide)))), show q_i (dspU u x t) 11 b 0 = q_i u 11 b 0 from (q_ik (by decide)).trans ((q_ik (by decide)).trans ((q_ik (by decide)).trans (q_ik (by decide))))]
    exact w.1 b hb
  · have hd2 : d < n_d u + 1 := hd
    by_cases q : d = n_d u
    · rw [q]
      refine ⟨⟨x, hx, (q_ik (by decide)).trans ((q_ik (by decide)).trans ((q_ik (by decide)).trans q_ie))⟩, ?_⟩
      rw [show q_i (dspU u x t) 14 (n_d u) 0 = q_i u 11 x 0 from (q_ik (by decide)).trans ((q_ik (by decide)).trans q_ie), show q_i (dspU u x t) 15 (n_d u) 0 = t from (q_ik (by decide)).trans q_ie]
      exact ⟨(w.1 x hx).2, ht⟩
    · have e : ∀ k, q_i (dspU u x t) k d 0 = q_i u k d 0 := fun k => (q_ia q).trans ((q_ia q).trans ((q_ia q).trans (q_ia q)))
      rw [e, e, e]; exact w.2 d (by omega)
theorem GM.lrn {u : Si} {g : Sg} {t : Int32} (w : GM u) (ht : 0 < t) : GM (lrnU u g t) := by
  unfold lrnU
  split
  · exact w.ent ht
  · rename_i x hx
    split
    · exact w.dsp (alN_i hx) ht
    · exact w
theorem Wf.trn {K : Nat} {u : Si} {f s0 : Nat} {t : Int32} (w : Wf K u) (ht : 0 < t) : Wf K (trnU u f s0 t) := by
  have k : Kp (trV u f s0 t) (trnU u f s0 t) := Kp.fU (stS_kp _ _) _
  have en : n_f (trV u f s0 t) = n_f u := trV_n 0 0 (by decide) (by decide)
  have ep : n_p (trV u f s0 t) = n_p u := trV_n 1 0 (by decide) (by decide)
  have m1 : GM (trV u f s0 t) := GM.lrn ((w.m.ui (by decide)).ui (by decide)) ht
  exact .mk (m1.kp k) ((w.o.cg en (fun j => trV_i 17 0 j (by omega))).kp k) ((w.b.cg ep (fun a => trV_i 2 a 0 (by omega))).kp k) ((w.f.cg en (Nat.le_of_eq ep.symm) (fun k2 g h1 h2 => trV_i k2 g 0 (by omega))).kp k) ((trV_T w.t ht).fS ht _) ((w.j.cg en (fun g => trV_i 8 g 0 (by omega))).kp k)
theorem Wf.take {K : Nat} {u : Si} {f p : Nat} (w : Wf K u) (hp : p < n_p u) : Wf K (takeU u f p) := by
  have k : Kp (u_i (u_i (u_i u 7 f 0 (prc u f (q_i u 1 p 0))) 4 f 0 1) 5 f 0 (nI p)) (takeU u f p) := Kp.fU (fun j v => stM_kp f j v) _
  refine .mk (GM.kp (((w.m.ui (by decide)).ui (by decide)).ui (by decide)) k) (GO.kp (((w.o.ui (by decide)).ui (by decide)).ui (by decide)) k) (GB.kp (((w.b.ui (by decide)).ui (by decide)).ui (by decide)) k) (GF.kp (u := u_i (u_i (u_i u 7 f 0 (prc u f (q_i u 1 p 0))) 4 f 0 1) 5 f 0 (nI p)) (w.f.at (f := f) rfl (Nat.le_refl _) (fun k g h1 h2 h3 => (q_ia h3).trans ((q_ia h3).trans (q_ia h3))) (Or.inr (Or.inl ⟨(q_ik (by decide)).trans q_ie, p, hp, q_ie⟩))) k) (WfT.stMn (((w.t.ui (by decide)).ui (by decide)).ui (by decide)) (fun x hx => ?_) _) (GJ.kp (GJ.up (((w.j.ui (by decide)).ui (by decide)).ui (by decide)) (by omega)) k)
  rw [q_ik (by decide), q_ik (by decide), q_ik (by decide)]
  exact (w.m.1 x hx).2
theorem Wf.with {K : Nat} {u : Si} {f : Nat} (w : Wf K u) : Wf K (withU u f) := .mk ((w.m.ui (by decide)).ui (by decide)) ((w.o.ui (by decide)).ui (by decide)) ((w.b.ui (by decide)).ui (by decide)) (w.f.at (f := f) rfl (Nat.le_refl _) (fun k g h1 h2 h3 => (q_ia h3).trans (q_ia h3)) (Or.inr (Or.inr (Or.inr (Or.inr ((q_ik (by decide)).trans q_ie)))))) ((w.t.ui (by decide)).ui (by decide)) (GJ.up ((w.j.ui (by decide)).ui (by decide)) (by omega))
theorem Wf.del {K : Nat} {u : Si} {f : Nat} (w : Wf K u) (hf : f < n_f u) (h2 : q_i u 4 f 0 = 2) : Wf K (delU u f) := by
  obtain ⟨a, b, h3, h4, h5, h6, h7⟩ := w.f.v f hf h2
  exact .mk (w.m.ui (by decide)) (w.o.ui (by decide)) (w.b.ui (by decide)) (w.f.at (f := f) rfl (Nat.le_refl _) (fun k g h1 h2 h3 => q_ia h3) (Or.inr (Or.inr (Or.inr (Or.inl ⟨q_ie, a, b, h3, h4, (q_ik (by decide)).trans h6, (q_ik (by decide)).trans h7⟩))))) (w.t.ui (by decide)) (GJ.up (w.j.ui (by decide)) (by omega))
theorem Wf.rej {K : Nat} {u : Si} {f s0 : Nat} (w : Wf K u) (hf : f < n_f u) (h2 : q_i u 4 f 0 = 2) (hK : K < 2 ^ 30) : Wf (K + 1) (rejU u f s0) := by
  obtain ⟨a, b, h3, h4, h5, h6, h7⟩ := w.f.v f hf h2
  refine .mk (((((w.m.ui (by decide)).ui (by decide)).ui (by decide)).ui (by decide)).ui (by decide)) (((((w.o.ui (by decide)).ui (by decide)).ui (by decide)).ui (by decide)).ui (by decide)) (((((w.b.ui (by decide)).ui (by decide)).ui (by decide)).ui (by decide)).ui (by decide)) (w.f.at (f := f) rfl (Nat.le_refl _) (fun k g h1 h2 h3 => (q_ia h3).trans ((q_ia h3).trans ((q_ia h3).trans ((q_ia h3).trans (q_ia h3))))) (Or.inr (Or.inl ⟨(q_ik (by decide)).trans ((q_ik (by decide)).trans q_ie), a, h3, ((q_ik (by decide)).trans ((q_ik (by decide)).trans ((q_ik (by decide)).trans ((q_ik (by decide)).trans (q_ik (by decide)))))).trans h6⟩))) (fun g t hg ht => ?_) (fun g hg => ?_)
  · have e9 : q_i (rejU u f s0) 9 g t = q_i (u_i (u_i u 9 f s0 0) 10 f s0 0) 9 g t := (q_ik (by decide)).trans ((q_ik (by decide)).trans (q_ik (by decide)))
    have e10 : q_i (rejU u f s0) 10 g t = q_i (u_i (u_i u 9 f s0 0) 10 f s0 0) 10 g t := (q_ik (by decide)).trans ((q_ik (by decide)).trans (q_ik (by decide)))
    rw [e9, e10]
    by_cases q : g = f ∧ t = s0
    · obtain ⟨rfl, rfl⟩ := q
      exact Or.inl ⟨(q_ik (by decide)).trans q_ie, q_ie⟩
    · rw [show q_i (u_i (u_i u 9 f s0 0) 10 f s0 0) 9 g t = q_i u 9 g t from (q_ik (by decide)).trans (if_neg (fun z => q ⟨z.2.1, z.2.2⟩)), show q_i (u_i (u_i u 9 f s0 0) 10 f s0 0) 10 g t = q_i u 10 g t from (if_neg (fun z => q ⟨z.2.1, z.2.2⟩) : (if 10 = 10 ∧ g = f ∧ t = s0 then (0 : Int32) else _) = _).trans (q_ik (by decide))]
      exact w.t g t hg ht
  · by_cases q : g = f
    · subst q
      obtain ⟨k, h8, h9⟩ := w.j g hf
      exact ⟨k + 1, by omega, by rw [show q_i (rejU u g s0) 8 g 0 = q_i u 8 g 0 + 1 from q_ie, h9, ← nI_succ]⟩
    · obtain ⟨k, h8, h9⟩ := w.j g hg
      exact ⟨k, by omega, ((q_ia q).trans ((q_ia q).trans ((q_ia q).trans ((q_ia q).trans (q_ia q))))).trans h9⟩
theorem Wf.rev {K : Nat} {u : Si} {f a b p : Nat} (w : Wf K u) (ha : a < n_p u) (hb : b < n_p u) (hab : a ≠ b) (ea : q_i u 5 f 0 = nI a) : Wf K (revU u f p (nI b)) := .mk (((w.m.ui (by decide)).ui (by decide)).ui (by decide)) (((w.o.ui (by decide)).ui (by decide)).ui (by decide)) (((w.b.ui (by decide)).ui (by decide)).ui (by decide)) (w.f.at (f := f) rfl (Nat.le_refl _) (fun k g h1 h2 h3 => (q_ik (show k ≠ 3 by omega)).trans ((q_ia h3).trans (q_ia h3))) (Or.inr (Or.inr (Or.inl ⟨(q_ik (by decide)).trans ((q_ik (by decide)).trans q_ie), a, b, ha, hb, hab, ((q_ik (by decide)).trans ((q_ik (by decide)).trans (q_ik (by decide)))).trans ea, (q_ik (by decide)).trans q_ie⟩)))) (((w.t.ui (by decide)).ui (by decide)).ui (by decide)) (GJ.up (((w.j.ui (by decide)).ui (by decide)).ui (by decide)) (by omega))
theorem GM.mk {u : Si} {d x : Nat} {t : Int32} (w : GM u) (ht : 0 < t) : GM (mkB u d x t) := by
  refine ⟨fun b hb => ?_, fun b hb => ?_⟩
  · by_cases q : b = x
    · rw [q, show q_i (mkB u d x t) 12 x 0 = 1 from q_ie, show q_i (mkB u d x t) 11 x 0 = t from (q_ik (by decide)).trans q_ie]
      exact ⟨Or.inr rfl, ht⟩
    · rw [show q_i (mkB u d x t) 12 b 0 = q_i u 12 b 0 from (q_ia q).trans ((q_ia q).trans (q_ik (by decide))), show q_i (mkB u d x t) 11 b 0 = q_i u 11 b 0 from (q_ia q).trans ((q_ia q).trans (q_ik (by decide)))]
      exact w.1 b hb
  · rw [show q_i (mkB u d x t) 13 b 0 = q_i u 13 b 0 from (q_ik (by decide)).trans ((q_ik (by decide)).trans (q_ik (by decide))), show q_i (mkB u d x t) 14 b 0 = q_i u 14 b 0 from (q_ik (by decide)).trans ((q_ik (by decide)).trans (q_ik (by decide))), show q_i (mkB u d x t) 15 b 0 = q_i u 15 b 0 from (q_ik (by decide)).trans ((q_ik (by decide)).trans (q_ik (by decide)))]
    exact w.2 b hb
theorem Wf.dec {K : Nat} {u : Si} {d x : Nat} {y : Int32} (w : Wf K u) (hd : d < n_d u) : Wf K (decU u d x y) := by
  have ht := chD_0 (z := y) (w.q d hd)
  have k : Kp (mkB u d x (chD u d y)) (decU u d x y) := Kp.fU (stT_kp _ _) _
  exact .mk (GM.kp (w.m.mk ht) k) (GO.kp (((w.o.ui (by decide)).ui (by decide)).ui (by decide)) k) (GB.kp (((w.b.ui (by decide)).ui (by decide)).ui (by decide)) k) (GF.kp (((w.f.ui (by decide)).ui (by decide)).ui (by decide)) k) (WfT.fT (((w.t.ui (by decide)).ui (by decide)).ui (by decide)) ht _) (GJ.kp (GJ.up (((w.j.ui (by decide)).ui (by decide)).ui (by decide)) (by omega)) k)
theorem Wf.swap {K : Nat} {u : Si} {f o1 : Nat} (w : Wf K u) (h8 : n_f u ≤ 8) (hf : f < n_f u) (ho : o1 < n_f u) (hne : f ≠ o1) : Wf K (swpU u (plN u f) (plN u o1) f o1) := by
  obtain ⟨-, a1, a2, -⟩ := plN_p w.o.1 hf
  obtain ⟨-, b1, b2, -⟩ := plN_p w.o.1 ho
  generalize plN u f = a at a1 a2 ⊢
  generalize plN u o1 = b at b1 b2 ⊢
  have hab : a ≠ b := fun q => by
    rw [q, b2] at a2
    exact hne ((nI_eq (by omega) (by omega)).mp a2).symm
  have ea : q_i (swpU u a b f o1) 17 0 a = nI o1 := (if_neg (fun z => hab z.2.2) : (if 17 = 17 ∧ (0 : Nat) = 0 ∧ a = b then nI f else _) = _).trans (if_pos ⟨rfl, rfl, rfl⟩)
  have eb : q_i (swpU u a b f o1) 17 0 b = nI f := if_pos ⟨rfl, rfl, rfl⟩
  have eo : ∀ j, j ≠ a → j ≠ b → q_i (swpU u a b f o1) 17 0 j = q_i u 17 0 j := fun j h1 h2 => (if_neg (fun z => h2 z.2.2) : (if 17 = 17 ∧ (0 : Nat) = 0 ∧ j = b then nI f else _) = _).trans (if_neg (fun z => h1 z.2.2))
  refine .mk ((w.m.ui (by decide)).ui (by decide)) ⟨⟨fun j hj => ?_, fun g hg => ?_⟩, fun j j2 h1 h2 h => ?_⟩ ((w.b.ui (by decide)).ui (by decide)) ((w.f.ui (by decide)).ui (by decide)) ((w.t.ui (by decide)).ui (by decide)) (GJ.up ((w.j.ui (by decide)).ui (by decide)) (by omega))
  · by_cases q : j = a
    · rw [q, ea]; exact ⟨o1, ho, rfl⟩
    · by_cases q2 : j = b
      · rw [q2, eb]; exact ⟨f, hf, rfl⟩
      · rw [eo j q q2]; exact w.o.1.1 j hj
  · by_cases q : g = f
    · exact ⟨b, b1, by rw [eb, q]⟩
    · by_cases q2 : g = o1
      · exact ⟨a, a1, by rw [ea, q2]⟩
      · obtain ⟨j, h1, h2⟩ := w.o.1.2 g hg
        refine ⟨j, h1, (eo j (fun z => ?_) (fun z => ?_)).trans h2⟩
        · rw [z, a2] at h2; exact q ((nI_eq (by omega) (by have : g < n_f u := hg; omega)).mp h2).symm
        · rw [z, b2] at h2; exact q2 ((nI_eq (by omega) (by have : g < n_f u := hg; omega)).mp h2).symm
  · -- both orders are one to one
    have hva : ∀ j, j < n_f u → q_i (swpU u a b f o1) 17 0 j = q_i u 17 0 (if j = a then b else if j = b then a else j) := fun j hj => by
      by_cases q : j = a
      · rw [if_pos q, q, ea, b2]
      · rw [if_neg q]
        by_cases q2 : j = b
        · rw [if_pos q2, q2, eb, a2]
        · rw [if_neg q2, eo j q q2]
    have h1' : j < n_f u := h1
    have h2' : j2 < n_f u := h2
    rw [hva j h1', hva j2 h2'] at h
    have hlt : ∀ j, j < n_f u → (if j = a then b else if j = b then a else j) < n_f u := fun j hj => by
      by_cases q : j = a
      · rw [if_pos q]; exact b1
      · rw [if_neg q]
        by_cases q2 : j = b
        · rw [if_pos q2]; exact a1
        · rw [if_neg q2]; exact hj
    have := w.o.2 _ _ (hlt j h1') (hlt j2 h2') h
    by_cases q : j = a
    · by_cases q2 : j2 = a
      · rw [q, q2]
      · rw [if_pos q, if_neg q2] at this
        by_cases q3 : j2 = b
        · rw [if_pos q3] at this; omega
        · rw [if_neg q3] at this; omega
    · rw [if_neg q] at this
      by_cases q2 : j2 = a
      · rw [if_pos q2] at this
        by_cases q3 : j = b
        · rw [if_pos q3] at this; omega
        · rw [if_neg q3] at this; omega
      · rw [if_neg q2] at this
        by_cases q3 : j = b
        · rw [if_pos q3] at this
          by_cases q4 : j2 = b
          · omega
          · rw [if_neg q4] at this; omega
        · rw [if_neg q3] at this
          by_cases q4 : j2 = b
          · rw [if_pos q4] at this; omega
          · rw [if_neg q4] at this; exact this
