/-! the bureau's state as both sides hold it: counts q_n (0 files, 1 persons, 2 entries, 3 disputes, 4 size of a file), numbers q_i (0 share; 1 rate 2 barred 3 last; 4 stage 5 translator 6 reviewer 7 price 8 rejections; 9 target 10 way; 11 target 12 settled of an entry; 13 entry 14 first 15 second 16 chosen of a dispute; 17 order), segments q_g (0 of a file, 1 of an entry) -/
abbrev Sg := List (List Nat)
abbrev Si := (Nat → Nat → Nat) × (Nat → Nat → Nat → Int32) × (Nat → Nat → Nat → Sg)
def q_n (u : Si) (k a : Nat) : Nat := u.1 k a
def q_i (u : Si) (k a j : Nat) : Int32 := u.2.1 k a j
def q_g (u : Si) (k a j : Nat) : Sg := u.2.2 k a j
def u_n (u : Si) (k a n : Nat) : Si := (fun k2 a2 => if k2 = k ∧ a2 = a then n else u.1 k2 a2, u.2.1, u.2.2)
def u_i (u : Si) (k a j : Nat) (v : Int32) : Si := (u.1, fun k2 a2 j2 => if k2 = k ∧ a2 = a ∧ j2 = j then v else u.2.1 k2 a2 j2, u.2.2)
def u_g (u : Si) (k a j : Nat) (v : Sg) : Si := (u.1, u.2.1, fun k2 a2 j2 => if k2 = k ∧ a2 = a ∧ j2 = j then v else u.2.2 k2 a2 j2)
abbrev n_f (u : Si) : Nat := q_n u 0 0
abbrev n_p (u : Si) : Nat := q_n u 1 0
abbrev n_e (u : Si) : Nat := q_n u 2 0
abbrev n_d (u : Si) : Nat := q_n u 3 0
abbrev n_s (u : Si) (f : Nat) : Nat := q_n u 4 f
/-- the places that a state speaks of -/
def inR (u : Si) (k a j : Nat) : Prop := (k = 0 ∧ a = 0 ∧ j < 6) ∨ (1 ≤ k ∧ k ≤ 3 ∧ a < n_p u ∧ j = 0) ∨ (4 ≤ k ∧ k ≤ 8 ∧ a < n_f u ∧ j = 0) ∨ (9 ≤ k ∧ k ≤ 10 ∧ a < n_f u ∧ j < n_s u a) ∨ (11 ≤ k ∧ k ≤ 12 ∧ a < n_e u ∧ j = 0) ∨ (13 ≤ k ∧ k ≤ 16 ∧ a < n_d u ∧ j = 0) ∨ (k = 17 ∧ a = 0 ∧ j < n_f u)
def inG (u : Si) (k a j : Nat) : Prop := (k = 0 ∧ a < n_f u ∧ j < n_s u a) ∨ (k = 1 ∧ a < n_e u ∧ j = 0)
/-- the places that there are -/
def cpR (k a j : Nat) : Prop := (k = 0 ∧ a = 0 ∧ j < 6) ∨ (1 ≤ k ∧ k ≤ 3 ∧ a < 6 ∧ j = 0) ∨ (4 ≤ k ∧ k ≤ 8 ∧ a < 8 ∧ j = 0) ∨ (9 ≤ k ∧ k ≤ 10 ∧ a < 8 ∧ j < 12) ∨ (11 ≤ k ∧ k ≤ 12 ∧ a < 40 ∧ j = 0) ∨ (13 ≤ k ∧ k ≤ 16 ∧ a < 10 ∧ j = 0) ∨ (k = 17 ∧ a = 0 ∧ j < 8)
def cpG (k a j : Nat) : Prop := (k = 0 ∧ a < 8 ∧ j < 12) ∨ (k = 1 ∧ a < 40 ∧ j = 0)
/-- the counts are within their bounds -/
def capU (u : Si) : Prop := n_f u ≤ 8 ∧ n_p u ≤ 6 ∧ n_e u ≤ 40 ∧ n_d u ≤ 10 ∧ ∀ f, f < n_f u → n_s u f ≤ 12
theorem inR.cp {u : Si} {k a j : Nat} (c : capU u) (h : inR u k a j) : cpR k a j := by
  obtain ⟨c1, c2, c3, c4, c5⟩ := c
  unfold inR at h
  unfold cpR
  rcases h with h | h | h | h | h | h | h
  · exact Or.inl h
  · exact Or.inr (Or.inl ⟨h.1, h.2.1, by omega, h.2.2.2⟩)
  · exact Or.inr (Or.inr (Or.inl ⟨h.1, h.2.1, by omega, h.2.2.2⟩))
  · have := c5 a h.2.2.1
    exact Or.inr (Or.inr (Or.inr (Or.inl ⟨h.1, h.2.1, by omega, by omega⟩)))
  · exact Or.inr (Or.inr (Or.inr (Or.inr (Or.inl ⟨h.1, h.2.1, by omega, h.2.2.2⟩))))
  · exact Or.inr (Or.inr (Or.inr (Or.inr (Or.inr (Or.inl ⟨h.1, h.2.1, by omega, h.2.2.2⟩)))))
  · exact Or.inr (Or.inr (Or.inr (Or.inr (Or.inr (Or.inr ⟨h.1, h.2.1, by omega⟩)))))
theorem inG.cp {u : Si} {k a j : Nat} (c : capU u) (h : inG u k a j) : cpG k a j := by
  obtain ⟨c1, c2, c3, c4, c5⟩ := c
  unfold inG at h
  unfold cpG
  rcases h with h | h
  · have := c5 a h.2.1
    exact Or.inl ⟨h.1, by omega, by omega⟩
  · exact Or.inr ⟨h.1, by omega, h.2.2⟩
/-! a word of letters 1 .. 26, in base 32 and in base 27; the characters of a segment -/
def vB (B : Nat) (w : List Nat) : Nat := w.foldl (fun a c => a * B + c) 0
abbrev v32 (w : List Nat) : Nat := vB 32 w
abbrev v27 (w : List Nat) : Nat := vB 27 w
def gWord (w : List Nat) : Prop := 1 ≤ w.length ∧ w.length ≤ 8 ∧ ∀ c ∈ w, 1 ≤ c ∧ c ≤ 26
def gSeg (g : Sg) : Prop := 1 ≤ g.length ∧ g.length ≤ 8 ∧ ∀ w ∈ g, gWord w
def txS : Sg → List Nat
  | [] => []
  | [w] => w.map (96 + ·)
  | w :: g => w.map (96 + ·) ++ 32 :: txS g
/-! where the class holds them: key and address -/
def cK (k : Nat) : Nat := [20, 180, 181, 182, 244, 245, 246, 247, 248, 24, 25, 117, 118, 100, 101, 102, 103, 21].getD k 0
def cB (k : Nat) : Nat := [1, 3, 3, 3, 10, 10, 10, 10, 10, 12, 13, 45, 45, 86, 86, 86, 86, 42].getD k 0
def cS (k : Nat) : Nat := [0, 1, 1, 1, 4, 4, 4, 4, 4, 4, 4, 1, 1, 1, 1, 1, 1, 0].getD k 0
def cA (S k a : Nat) : Nat := S + (cB k + cS k * a)
theorem cK_inj {k k2 : Nat} (h : k ≤ 17) (h2 : k2 ≤ 17) (e : cK k = cK k2) : k = k2 := by
  have : ∀ k : Fin 18, ∀ k2 : Fin 18, cK k.1 = cK k2.1 → k = k2 := by decide
  exact congrArg Fin.val (this ⟨k, by omega⟩ ⟨k2, by omega⟩ e)
theorem cpR.le {k a j : Nat} (h : cpR k a j) : k ≤ 17 := by unfold cpR at h; omega
/-- every place of a state lies within its 97 cells -/
theorem cA_lt {S k a j : Nat} (h : cpR k a j) : S < cA S k a ∧ cA S k a < S + 97 := by
  have hk := h.le
  unfold cpR at h
  have : k = 0 ∨ k = 1 ∨ k = 2 ∨ k = 3 ∨ k = 4 ∨ k = 5 ∨ k = 6 ∨ k = 7 ∨ k = 8 ∨ k = 9 ∨ k = 10 ∨ k = 11 ∨ k = 12 ∨ k = 13 ∨ k = 14 ∨ k = 15 ∨ k = 16 ∨ k = 17 := by omega
  rcases this with rfl | rfl | rfl | rfl | rfl | rfl | rfl | rfl | rfl | rfl | rfl | rfl | rfl | rfl | rfl | rfl | rfl | rfl <;> simp [cA, cB, cS] <;> omega
theorem cA_inj {S k a j a2 j2 : Nat} (h : cpR k a j) (h2 : cpR k a2 j2) (e : cA S k a = cA S k a2) : a = a2 := by
  have hk := h.le
  unfold cpR at h h2
  have : k = 0 ∨ k = 1 ∨ k = 2 ∨ k = 3 ∨ k = 4 ∨ k = 5 ∨ k = 6 ∨ k = 7 ∨ k = 8 ∨ k = 9 ∨ k = 10 ∨ k = 11 ∨ k = 12 ∨ k = 13 ∨ k = 14 ∨ k = 15 ∨ k = 16 ∨ k = 17 := by omega
  rcases this with rfl | rfl | rfl | rfl | rfl | rfl | rfl | rfl | rfl | rfl | rfl | rfl | rfl | rfl | rfl | rfl | rfl | rfl <;> simp [cA, cB, cS] at e <;> omega
/-- two places of two states are the same only where state, kind and number are -/
theorem cA_ne {S k a j k2 a2 j2 : Nat} (h : cpR k a j) (h2 : cpR k2 a2 j2) (e : ¬ (k2 = k ∧ a2 = a ∧ j2 = j)) : ¬ (cK k2 = cK k ∧ cA S k2 a2 = cA S k a ∧ j2 = j) := fun ⟨q1, q2, q3⟩ => by
  have := cK_inj h2.le h.le q1
  subst this
  exact e ⟨rfl, cA_inj h2 h q2, q3⟩
