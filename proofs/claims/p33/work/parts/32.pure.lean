theorem vB_snoc {B : Nat} {w : List Nat} {c : Nat} : vB B (w ++ [c]) = vB B w * B + c := by simp [vB, List.foldl_append]
theorem vB_inj {B : Nat} (hB : 27 ≤ B) : ∀ (n : Nat) (w w2 : List Nat), w.length = n → (∀ c ∈ w, 1 ≤ c ∧ c ≤ 26) → (∀ c ∈ w2, 1 ≤ c ∧ c ≤ 26) → vB B w = vB B w2 → w = w2 := by
  intro n
  induction n with
  | zero =>
    intro w w2 hl h1 h2 e
    have hw : w = [] := List.length_eq_zero_iff.mp hl
    subst hw
    rcases List.eq_nil_or_concat w2 with q | ⟨y, d, q⟩
    · exact q.symm
    · rw [List.concat_eq_append] at q
      subst q
      have hd := h2 d (by simp)
      rw [vB_snoc] at e
      have e0 : vB B [] = 0 := rfl
      rw [e0] at e
      omega
  | succ n ih =>
    intro w w2 hl h1 h2 e
    rcases List.eq_nil_or_concat w with q | ⟨x, c, q⟩
    · subst q; simp at hl
    · rw [List.concat_eq_append] at q
      subst q
      have hc := h1 c (by simp)
      rcases List.eq_nil_or_concat w2 with q2 | ⟨y, d, q2⟩
      · subst q2
        rw [vB_snoc] at e
        have e0 : vB B [] = 0 := rfl
        rw [e0] at e
        omega
      · rw [List.concat_eq_append] at q2
        subst q2
        have hd := h2 d (by simp)
        rw [vB_snoc, vB_snoc] at e
        have m1 : (vB B x * B + c) % B = c := by rw [Nat.mul_comm, Nat.mul_add_mod]; exact Nat.mod_eq_of_lt (by omega)
        have m2 : (vB B y * B + d) % B = d := by rw [Nat.mul_comm, Nat.mul_add_mod]; exact Nat.mod_eq_of_lt (by omega)
        have ecd : c = d := by rw [← m1, ← m2, e]
        subst ecd
        have exy : vB B x = vB B y := Nat.eq_of_mul_eq_mul_right (show 0 < B by omega) (Nat.add_right_cancel e)
        rw [ih x y (by simp at hl; exact hl) (fun k hk => h1 k (by simp [hk])) (fun k hk => h2 k (by simp [hk])) exy]
theorem vB_lt {B : Nat} (hB : 27 ≤ B) : ∀ (n : Nat) (w : List Nat), w.length = n → (∀ c ∈ w, 1 ≤ c ∧ c ≤ 26) → vB B w < B ^ n := by
  intro n
  induction n with
  | zero => intro w hl _; have hw : w = [] := List.length_eq_zero_iff.mp hl; subst hw; exact Nat.one_pos
  | succ n ih =>
    intro w hl h1
    rcases List.eq_nil_or_concat w with q | ⟨x, c, q⟩
    · subst q; simp at hl
    · rw [List.concat_eq_append] at q
      subst q
      have hc := h1 c (by simp)
      have hx := ih x (by simp at hl; exact hl) (fun k hk => h1 k (by simp [hk]))
      rw [vB_snoc, Nat.pow_succ]
      have : (vB B x + 1) * B ≤ B ^ n * B := Nat.mul_le_mul_right B hx
      rw [Nat.add_mul] at this
      omega
/-- the sum of the first n numbers -/
def sm (f : Nat → Int32) : Nat → Int32
  | 0 => 0
  | n + 1 => sm f n + f n
theorem sm_congr {f g : Nat → Int32} : ∀ {n : Nat}, (∀ i, i < n → f i = g i) → sm f n = sm g n
  | 0, _ => rfl
  | n + 1, h => by
    show sm f n + f n = sm g n + g n
    rw [sm_congr (fun i hi => h i (Nat.lt_succ_of_lt hi)), h n (Nat.lt_succ_self n)]
theorem sm_s {f : Nat → Int32} {n : Nat} : sm f (n + 1) = sm f n + f n := rfl
