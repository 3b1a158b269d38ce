/-! the class's state, text and typing stay while the reference acts -/
theorem cK_m {k : Nat} (h : k ≤ 17) : mkey (cK k) = false := by
  have : ∀ k : Fin 18, mkey (cK k.1) = false := by decide
  exact this ⟨k, by omega⟩
theorem Fx.eq {M M2 : Me} (f : Fx M M2) : M2 = (M.1, M.2.1, M.2.2.1, M2.2.2.2.1, M2.2.2.2.2.1, M.2.2.2.2.2) := by
  obtain ⟨n, t, z, i, l, r⟩ := M
  obtain ⟨n2, t2, z2, i2, l2, r2⟩ := M2
  obtain ⟨f1, f2, f3, f4⟩ := f
  have e1 : n2 = n := f1
  have e2 : t2 = t := funext f2
  have e3 : z2 = z := funext f3
  have e4 : r2 = r := funext fun k => funext fun a => funext fun j => f4 k a j
  subst e1 e2 e3 e4
  rfl
def s_o (M : Me) (i : Nat → Nat → Nat → Int32) (l : Nat → Nat → Nat → Int64) : Me := (M.1, M.2.1, M.2.2.1, i, l, M.2.2.2.2.2)
theorem On.eq {M M2 : Me} (o : On M M2) : ∃ i l, M2 = s_o M i l ∧ (∀ k a j, mkey k = false → i k a j = m_i M k a j) ∧ ∀ k a j, mkey k = false → l k a j = m_l M k a j := ⟨M2.2.2.2.1, M2.2.2.2.2.1, o.1.eq, o.2.1, o.2.2⟩
theorem SgR.so {M : Me} {i : Nat → Nat → Nat → Int32} {l : Nat → Nat → Nat → Int64} (hi : ∀ k a j, mkey k = false → i k a j = m_i M k a j) (hl : ∀ k a j, mkey k = false → l k a j = m_l M k a j) {a : Nat} {g : Sg} (q : SgR M a g) : SgR (s_o M i l) a g := by
  obtain ⟨q1, q2, q3, q4, q5, q6⟩ := q
  exact ⟨q1, q2, (hi _ _ _ (by decide)).trans q3, fun t ht => (hl _ _ _ (by decide)).trans (q4 t ht), q5, fun t ht => (hi _ _ _ (by decide)).trans (q6 t ht)⟩
theorem CR.so {M : Me} {i : Nat → Nat → Nat → Int32} {l : Nat → Nat → Nat → Int64} (hi : ∀ k a j, mkey k = false → i k a j = m_i M k a j) (hl : ∀ k a j, mkey k = false → l k a j = m_l M k a j) {S : Nat} {u : Si} (q : CR M S u) : CR (s_o M i l) S u := by
  obtain ⟨q1, q2, q3, ⟨c1, c2, c3, c4⟩, q5, q6, q7⟩ := q
  exact ⟨q1, q2, fun k a j w => (hi _ _ _ (cK_m (w.cp q2).le)).trans (q3 k a j w), ⟨(hi _ _ _ (by decide)).trans c1, (hi _ _ _ (by decide)).trans c2, (hi _ _ _ (by decide)).trans c3, (hi _ _ _ (by decide)).trans c4⟩, fun f hf => (hi _ _ _ (by decide)).trans (q5 f hf), fun f t hf ht => SgR.so hi hl (q6 f t hf ht), fun x hx => SgR.so hi hl (q7 x hx)⟩
theorem BR.so {M : Me} {i : Nat → Nat → Nat → Int32} {l : Nat → Nat → Nat → Int64} (hi : ∀ k a j, mkey k = false → i k a j = m_i M k a j) (hl : ∀ k a j, mkey k = false → l k a j = m_l M k a j) {h n : Nat} {x : Xs} (q : BR M h n x) : BR (s_o M i l) h n x := by
  obtain ⟨q1, q2, ⟨q3, q4, q5⟩, q6, q7, q8⟩ := q
  exact ⟨q1, CR.so hi hl q2, ⟨q3, (hi _ _ _ (by decide)).trans q4, fun j hj => CR.so hi hl (q5 j hj)⟩, (hi _ _ _ (by decide)).trans q6, q7, fun w => CR.so hi hl (q8 w)⟩
theorem TX.so {M : Me} {i : Nat → Nat → Nat → Int32} {l : Nat → Nat → Nat → Int64} (hi : ∀ k a j, mkey k = false → i k a j = m_i M k a j) (hl : ∀ k a j, mkey k = false → l k a j = m_l M k a j) {n t : Nat} {c : Nat → Int32} (q : TX M n t c) : TX (s_o M i l) n t c := ⟨q.1, (hi _ _ _ (by decide)).trans q.2.1, fun j hj => (hi _ _ _ (by decide)).trans (q.2.2 j hj)⟩
theorem BR.on {M M2 : Me} {h n : Nat} {x : Xs} (q : BR M h n x) (o : On M M2) : BR M2 h n x := by
  obtain ⟨i, l, rfl, hi, hl⟩ := o.eq
  exact BR.so hi hl q
theorem TX.on {M M2 : Me} {n t : Nat} {c : Nat → Int32} (q : TX M n t c) (o : On M M2) : TX M2 n t c := by
  obtain ⟨i, l, rfl, hi, hl⟩ := o.eq
  exact TX.so hi hl q
/-! the reference's state and text stay while the class acts: its cells lie apart -/
def RC (M : Me) (h n h2 : Nat) : Prop := h2 ≠ h ∧ (∀ a, a = h2 ∨ a = m_r M 276 h2 0 ∨ a = m_r M 277 h2 0 ∨ a = m_r M 278 h2 0 ∨ a = m_r M 281 h2 0 → a < m_n M ∧ a ≠ h ∧ (a < n ∨ n + 591 ≤ a))
theorem AR.cf {M M2 : Me} {h n h2 : Nat} {x : Xs} (q : AR M h2 x) (r : RC M h n h2) (w : Cf M M2 h n) : AR M2 h2 x := by
  obtain ⟨q1, q2, ⟨q3, q4, q5⟩, q6, q7, q8⟩ := q
  have b0 := r.2 h2 (Or.inl rfl)
  obtain ⟨t1, t2, t3, t4⟩ := w.2 h2 b0.1
  obtain ⟨t5, t6⟩ := t4 b0.2.1 b0.2.2
  have eL : ∀ k a j, a < m_n M → m_l M2 k a j = m_l M k a j := fun k a j ha => (w.2 a ha).2.2.1 k j
  refine ⟨t1.trans q1, ?_, ⟨q3, (t6 279 0 (by decide) (by decide)).trans q4, fun j hj => ?_⟩, (t6 280 0 (by decide) (by decide)).trans q6, q7, fun y => ?_⟩
  · refine q2.congr (fun p _ => ?_)
    show m_l M2 31 (m_r M2 276 h2 0) p = m_l M 31 (m_r M 276 h2 0) p
    rw [t5, eL _ _ _ (r.2 _ (Or.inr (Or.inl rfl))).1]
  · refine (q5 j hj).congr (fun p _ => ?_)
    show m_l M2 32 (m_r M2 277 h2 0) _ = m_l M 32 (m_r M 277 h2 0) _
    rw [t5, eL _ _ _ (r.2 _ (Or.inr (Or.inr (Or.inl rfl)))).1]
  · refine (q8 y).congr (fun p _ => ?_)
    show m_l M2 33 (m_r M2 278 h2 0) _ = m_l M 33 (m_r M 278 h2 0) _
    rw [t5, eL _ _ _ (r.2 _ (Or.inr (Or.inr (Or.inr (Or.inl rfl))))).1]
theorem TA.cf {M M2 : Me} {h n h2 t : Nat} {c : Nat → Int32} (q : TA M h2 t c) (r : RC M h n h2) (w : Cf M M2 h n) : TA M2 h2 t c := by
  have b0 := r.2 h2 (Or.inl rfl)
  obtain ⟨t1, t2, t3, t4⟩ := w.2 h2 b0.1
  obtain ⟨t5, t6⟩ := t4 b0.2.1 b0.2.2
  have b1 := r.2 _ (Or.inr (Or.inr (Or.inr (Or.inr rfl))))
  refine ⟨q.1, (t6 282 0 (by decide) (by decide)).trans q.2.1, fun j hj => ?_⟩
  rw [t5]
  exact (((w.2 _ b1.1).2.2.2 b1.2.1 b1.2.2).2 42 j (by decide) (by decide)).trans (q.2.2 j hj)
theorem RC.cf {M M2 : Me} {h n h2 : Nat} (r : RC M h n h2) (w : Cf M M2 h n) : RC M2 h n h2 := by
  have b0 := r.2 h2 (Or.inl rfl)
  have t5 := ((w.2 h2 b0.1).2.2.2 b0.2.1 b0.2.2).1
  refine ⟨r.1, fun a ha => ?_⟩
  rw [t5, t5, t5, t5] at ha
  obtain ⟨c1, c2⟩ := r.2 a ha
  exact ⟨Nat.lt_of_lt_of_le c1 w.1, c2⟩
theorem RC.on {M M2 : Me} {h n h2 : Nat} (r : RC M h n h2) (o : On M M2) : RC M2 h n h2 := by
  obtain ⟨i, l, rfl, hi, hl⟩ := o.eq
  exact r
