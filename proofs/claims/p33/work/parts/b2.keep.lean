theorem wf_addPerson {K : Nat} {u v : Si} {x : Int32} (w : Wf K u) (e : (d_addPerson u x).2 = some v) : Wf (K + 1) v := by
  unfold d_addPerson at e
  split at e
  · cases e
  · split at e
    · rename_i hn; cases e; exact w.up (by omega) |>.hire hn
    · cases e
theorem wf_bar {K : Nat} {u v : Si} {x y z : Int32} (w : Wf K u) (c : capU u) (hz : z = 0 ∨ z = 1) (e : (d_bar u x y z).2 = some v) : Wf (K + 1) v := by
  unfold d_bar at e
  split at e
  · rename_i a b ha hb
    have c2 := c.2.1
    obtain ⟨a1, -⟩ := inN_i ha
    obtain ⟨b1, -⟩ := inN_i hb
    split at e
    · cases e
    · rename_i hab
      split at e
      · cases e
      · rename_i hne; cases e; exact (w.up (by omega)).bar c2 a1 b1 hab hz hne
  · cases e
theorem wf_setShare {K : Nat} {u v : Si} {x y : Int32} (w : Wf K u) (e : (d_setShare u x y).2 = some v) : Wf (K + 1) v := by
  unfold d_setShare at e
  split at e
  · cases e
  · split at e
    · cases e
    · split at e
      · cases e
      · cases e; exact (w.up (by omega)).share
theorem wf_newFile {K : Nat} {u v : Si} (w : Wf K u) (e : (d_newFile u).2 = some v) : Wf (K + 1) v := by
  unfold d_newFile at e
  split at e
  · rename_i hn; cases e; exact (w.up (by omega)).file hn
  · cases e
theorem wf_readSegments {K t : Nat} {tc : Nat → Int32} {u v : Si} {x : Int32} (w : Wf K u) (e : (d_readSegments u t tc x).2 = some v) : Wf (K + 1) v := by
  unfold d_readSegments at e
  split at e
  · cases e
  · split at e
    · cases e
    · split at e
      · cases e
      · split at e
        · cases e
        · cases e; exact (w.up (by omega)).app _
theorem wf_remember {K t : Nat} {tc : Nat → Int32} {u v : Si} {x : Int32} (w : Wf K u) (e : (d_remember u t tc x).2 = some v) : Wf (K + 1) v := by
  unfold d_remember at e
  split at e
  · cases e
  · split at e
    · cases e
    · rename_i h1
      split at e
      · cases e
      · split at e
        · cases e; exact (w.up (by omega)).ent (tg_pos (Decidable.byContradiction fun q => h1 (Or.inl q)))
        · cases e
theorem wf_swapFiles {K : Nat} {u v : Si} {x y : Int32} (w : Wf K u) (c : capU u) (e : (d_swapFiles u x y).2 = some v) : Wf (K + 1) v := by
  unfold d_swapFiles at e
  split at e
  · rename_i a b ha hb
    have c1 := c.1
    obtain ⟨a1, -⟩ := inN_i ha
    obtain ⟨b1, -⟩ := inN_i hb
    split at e
    · cases e
    · rename_i hab; cases e; exact (w.up (by omega)).swap c1 a1 b1 hab
  · cases e
theorem wf_withdraw {K : Nat} {u v : Si} {x : Int32} (w : Wf K u) (e : (d_withdraw u x).2 = some v) : Wf (K + 1) v := by
  unfold d_withdraw at e
  split at e
  · cases e
  · split at e
    · cases e
    · cases e; exact (w.up (by omega)).with
theorem wf_take {K : Nat} {u v : Si} {x y : Int32} (w : Wf K u) (c : capU u) (e : (d_take u x y).2 = some v) : Wf (K + 1) v := by
  unfold d_take at e
  split at e
  · rename_i a b ha hb
    have c2 := c.2.1
    obtain ⟨b1, -⟩ := inN_i hb
    split at e
    · cases e
    · cases e; exact (w.up (by omega)).take b1
  · cases e
theorem wf_translate {K : Nat} {u v : Si} {x y t : Int32} (w : Wf K u) (e : (d_translate u x y t).2 = some v) : Wf (K + 1) v := by
  unfold d_translate at e
  split at e
  · cases e
  · split at e
    · cases e
    · split at e
      · cases e
      · rename_i h1
        split at e
        · cases e
        · split at e
          · cases e
          · split at e
            · cases e
            · cases e; exact (w.up (by omega)).trn (tg_pos (Decidable.not_not.mp h1))
theorem wf_review {K : Nat} {u v : Si} {x y : Int32} (w : Wf K u) (c : capU u) (e : (d_review u x y).2 = some v) : Wf (K + 1) v := by
  unfold d_review at e
  split at e
  · rename_i a b ha hb
    have c1 := c.1
    have c2 := c.2.1
    obtain ⟨a1, -⟩ := inN_i ha
    obtain ⟨b1, -⟩ := inN_i hb
    split at e
    · rename_i h1
      cases e
      obtain ⟨p, p1, p2⟩ := w.f.a a a1 (myB_1 h1.1)
      have q := (myB_i (myB_1 h1.1) p1 p2).mp h1.1
      exact (w.up (by omega)).rev p1 b1 (fun z => q.1 (by rw [z])) p2
    · cases e
  · cases e
theorem wf_reject {K : Nat} {u v : Si} {x y : Int32} (w : Wf K u) (c : capU u) (hK : K < 2 ^ 30) (e : (d_reject u x y).2 = some v) : Wf (K + 1) v := by
  unfold d_reject at e
  split at e
  · cases e
  · rename_i f hf
    have c1 := c.1
    obtain ⟨f1, -⟩ := inN_i hf
    split at e
    · cases e
    · split at e
      · cases e
      · rename_i h1; cases e; exact w.rej f1 (Decidable.not_not.mp h1) hK
theorem wf_deliver {K : Nat} {u v : Si} {x : Int32} (w : Wf K u) (c : capU u) (e : (d_deliver u x).2 = some v) : Wf (K + 1) v := by
  unfold d_deliver at e
  split at e
  · cases e
  · rename_i f hf
    have c1 := c.1
    obtain ⟨f1, -⟩ := inN_i hf
    split at e
    · cases e
    · rename_i h1; cases e; exact (w.up (by omega)).del f1 (Decidable.not_not.mp h1)
theorem wf_settle {K : Nat} {u v : Si} {x y : Int32} (w : Wf K u) (c : capU u) (e : (d_settle u x y).2 = some v) : Wf (K + 1) v := by
  unfold d_settle at e
  split at e
  · cases e
  · rename_i d hd
    have c1 := c.2.2.2.1
    obtain ⟨d1, -⟩ := inN_i hd
    split at e
    · cases e
    · split at e
      · cases e
      · cases e; exact (w.up (by omega)).dec d1
/-! with history and snapshot -/
def WfX (K : Nat) (x : Xs) : Prop := Wf K (x_u x) ∧ (∀ j, j < x_n x → Wf K (x_h x j)) ∧ (x_f x = 1 → Wf K (x_s x))
theorem WfX.up {K K2 : Nat} {x : Xs} (w : WfX K x) (h : K ≤ K2) : WfX K2 x := ⟨w.1.up h, fun j hj => (w.2.1 j hj).up h, fun q => (w.2.2 q).up h⟩
theorem WfX.push {K : Nat} {x : Xs} (w : WfX K x) : ∀ j, j < x_n (pushX x) → Wf K (x_h (pushX x) j) := fun j hj => by
  unfold pushX at hj ⊢
  by_cases q : x_n x < 4
  · rw [if_pos q] at hj ⊢
    have hj2 : j < x_n x + 1 := hj
    show Wf K (if j = x_n x then x_u x else x_h x j)
    by_cases q2 : j = x_n x
    · rw [if_pos q2]; exact w.1
    · rw [if_neg q2]; exact w.2.1 j (by omega)
  · rw [if_neg q] at hj ⊢
    have hj2 : j < 3 + 1 := hj
    show Wf K (if j = 3 then x_u x else x_h x (j + 1))
    by_cases q2 : j = 3
    · rw [if_pos q2]; exact w.1
    · rw [if_neg q2]; exact w.2.1 (j + 1) (by omega)
theorem WfX.act {K : Nat} {x : Xs} {o : Option Si} (w : WfX K x) (h : ∀ v, o = some v → Wf (K + 1) v) : WfX (K + 1) (acX x o) := by
  cases o with
  | none => exact w.up (by omega)
  | some v =>
    refine ⟨h v rfl, fun j hj => (w.push j hj).up (by omega), fun q => ?_⟩
    have e : (pushX x).2.2 = x.2.2 := pushX_f x
    show Wf (K + 1) (pushX x).2.2.2
    rw [e]
    have q2 : (pushX x).2.2.1 = 1 := q
    rw [e] at q2
    exact (w.2.2 q2).up (by omega)
theorem WfX.pop {K : Nat} {x : Xs} (w : WfX K x) : WfX (K + 1) (if x_n x = 0 then x else popX x) := by
  by_cases q : x_n x = 0
  · rw [if_pos q]; exact w.up (by omega)
  · rw [if_neg q]
    exact ⟨(w.2.1 (x_n x - 1) (by omega)).up (by omega), fun j hj => (w.2.1 j (by have : j < x_n x - 1 := hj; omega)).up (by omega), fun z => (w.2.2 z).up (by omega)⟩
theorem WfX.keep {K : Nat} {x : Xs} (w : WfX K x) : WfX (K + 1) (x.1, x.2.1, 1, x_u x) := ⟨w.1.up (by omega), fun j hj => (w.2.1 j hj).up (by omega), fun _ => w.1.up (by omega)⟩
theorem WfX.rest {K : Nat} {x : Xs} (w : WfX K x) (hf : x_f x = 0 ∨ x_f x = 1) : WfX (K + 1) (if x_f x = 0 then x else acX x (some (x_s x))) := by
  by_cases q : x_f x = 0
  · rw [if_pos q]; exact w.up (by omega)
  · rw [if_neg q]
    exact w.act (fun v hv => by cases hv; exact (w.2.2 (hf.resolve_left q)).up (by omega))
