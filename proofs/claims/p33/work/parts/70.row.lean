/-! the reference's row: places by kind, number and index -/
def pB_ (k : Nat) : Nat := [4, 74, 75, 76, 19, 20, 21, 22, 23, 615, 616, 175, 176, 116, 117, 118, 120, 10, 0, 18, 77, 78, 79, 119, 606, 166].getD k 0
def pA_ (k : Nat) : Nat := [0, 7, 7, 7, 7, 7, 7, 7, 7, 132, 132, 11, 11, 5, 5, 5, 5, 0, 0, 7, 7, 7, 7, 5, 132, 11].getD k 0
def pJ_ (k j : Nat) : Nat := if k = 24 then 11 * (j / 9) + j % 9 else if k = 9 ∨ k = 10 then 11 * j else j
def pl (k a j : Nat) : Nat := pB_ k + pA_ k * a + pJ_ k j
def cpX (k a j : Nat) : Prop := cpR k a j ∨ (k = 18 ∧ a = 0 ∧ j < 4) ∨ (k = 19 ∧ a < 8 ∧ j = 0) ∨ (20 ≤ k ∧ k ≤ 22 ∧ a < 6 ∧ j = 0) ∨ (k = 23 ∧ a < 10 ∧ j = 0) ∨ (k = 24 ∧ a < 8 ∧ j < 108) ∨ (k = 25 ∧ a < 40 ∧ j < 9)
def cdX (k a j : Nat) : Nat := k * 100000 + a * 1000 + j
/-- the place tells kind, number and index -/
def pdc (p : Nat) : Nat := if p < 4 then cdX 18 0 p else if p < 10 then cdX 0 0 (p - 4) else if p < 18 then cdX 17 0 (p - 10) else if p < 74 then (if (p - 18) % 7 = 0 then cdX 19 ((p - 18) / 7) 0 else cdX (3 + (p - 18) % 7) ((p - 18) / 7) 0) else if p < 116 then (if (p - 74) % 7 < 3 then cdX (1 + (p - 74) % 7) ((p - 74) / 7) 0 else cdX (17 + (p - 74) % 7) ((p - 74) / 7) 0) else if p < 166 then (if (p - 116) % 5 < 3 then cdX (13 + (p - 116) % 5) ((p - 116) / 5) 0 else if (p - 116) % 5 = 3 then cdX 23 ((p - 116) / 5) 0 else cdX 16 ((p - 116) / 5) 0) else if p < 606 then (if (p - 166) % 11 < 9 then cdX 25 ((p - 166) / 11) ((p - 166) % 11) else cdX (2 + (p - 166) % 11) ((p - 166) / 11) 0) else (if (p - 606) % 11 < 9 then cdX 24 ((p - 606) / 132) (9 * ((p - 606) / 11 % 12) + (p - 606) % 11) else cdX ((p - 606) % 11) ((p - 606) / 132) ((p - 606) / 11 % 12))
theorem pdc_pl {k a j : Nat} (h : cpX k a j) : pdc (pl k a j) = cdX k a j := by
  unfold cpX cpR at h
  have hk : k ≤ 25 := by omega
  have : k = 0 ∨ k = 1 ∨ k = 2 ∨ k = 3 ∨ k = 4 ∨ k = 5 ∨ k = 6 ∨ k = 7 ∨ k = 8 ∨ k = 9 ∨ k = 10 ∨ k = 11 ∨ k = 12 ∨ k = 13 ∨ k = 14 ∨ k = 15 ∨ k = 16 ∨ k = 17 ∨ k = 18 ∨ k = 19 ∨ k = 20 ∨ k = 21 ∨ k = 22 ∨ k = 23 ∨ k = 24 ∨ k = 25 := by omega
  rcases this with rfl | rfl | rfl | rfl | rfl | rfl | rfl | rfl | rfl | rfl | rfl | rfl | rfl | rfl | rfl | rfl | rfl | rfl | rfl | rfl | rfl | rfl | rfl | rfl | rfl | rfl
  · have e : pl 0 a j = 4 + j := by simp [pl, pB_, pA_, pJ_]
    rw [e, pdc, if_neg (by omega), if_pos (by omega)]; unfold cdX; omega
  · have e : pl 1 a j = 74 + 7 * a + j := by simp [pl, pB_, pA_, pJ_]
    rw [e, pdc, if_neg (by omega), if_neg (by omega), if_neg (by omega), if_neg (by omega), if_pos (by omega), if_pos (by omega)]; unfold cdX; omega
  · have e : pl 2 a j = 75 + 7 * a + j := by simp [pl, pB_, pA_, pJ_]
    rw [e, pdc, if_neg (by omega), if_neg (by omega), if_neg (by omega), if_neg (by omega), if_pos (by omega), if_pos (by omega)]; unfold cdX; omega
  · have e : pl 3 a j = 76 + 7 * a + j := by simp [pl, pB_, pA_, pJ_]
    rw [e, pdc, if_neg (by omega), if_neg (by omega), if_neg (by omega), if_neg (by omega), if_pos (by omega), if_pos (by omega)]; unfold cdX; omega
  · have e : pl 4 a j = 19 + 7 * a + j := by simp [pl, pB_, pA_, pJ_]
    rw [e, pdc, if_neg (by omega), if_neg (by omega), if_neg (by omega), if_pos (by omega), if_neg (by omega)]; unfold cdX; omega
  · have e : pl 5 a j = 20 + 7 * a + j := by simp [pl, pB_, pA_, pJ_]
    rw [e, pdc, if_neg (by omega), if_neg (by omega), if_neg (by omega), if_pos (by omega), if_neg (by omega)]; unfold cdX; omega
  · have e : pl 6 a j = 21 + 7 * a + j := by simp [pl, pB_, pA_, pJ_]
    rw [e, pdc, if_neg (by omega), if_neg (by omega), if_neg (by omega), if_pos (by omega), if_neg (by omega)]; unfold cdX; omega
  · have e : pl 7 a j = 22 + 7 * a + j := by simp [pl, pB_, pA_, pJ_]
    rw [e, pdc, if_neg (by omega), if_neg (by omega), if_neg (by omega), if_pos (by omega), if_neg (by omega)]; unfold cdX; omega
  · have e : pl 8 a j = 23 + 7 * a + j := by simp [pl, pB_, pA_, pJ_]
    rw [e, pdc, if_neg (by omega), if_neg (by omega), if_neg (by omega), if_pos (by omega), if_neg (by omega)]; unfold cdX; omega
  · have e : pl 9 a j = 615 + 132 * a + 11 * j := by simp [pl, pB_, pA_, pJ_]
    rw [e, pdc, if_neg (by omega), if_neg (by omega), if_neg (by omega), if_neg (by omega), if_neg (by omega), if_neg (by omega), if_neg (by omega), if_neg (by omega)]; unfold cdX; omega
  · have e : pl 10 a j = 616 + 132 * a + 11 * j := by simp [pl, pB_, pA_, pJ_]
    rw [e, pdc, if_neg (by omega), if_neg (by omega), if_neg (by omega), if_neg (by omega), if_neg (by omega), if_neg (by omega), if_neg (by omega), if_neg (by omega)]; unfold cdX; omega
  · have e : pl 11 a j = 175 + 11 * a + j := by simp [pl, pB_, pA_, pJ_]
    rw [e, pdc, if_neg (by omega), if_neg (by omega), if_neg (by omega), if_neg (by omega), if_neg (by omega), if_neg (by omega), if_pos (by omega), if_neg (by omega)]; unfold cdX; omega
  · have e : pl 12 a j = 176 + 11 * a + j := by simp [pl, pB_, pA_, pJ_]
    rw [e, pdc, if_neg (by omega), if_neg (by omega), if_neg (by omega), if_neg (by omega), if_neg (by omega), if_neg (by omega), if_pos (by omega), if_neg (by omega)]; unfold cdX; omega
  · have e : pl 13 a j = 116 + 5 * a + j := by simp [pl, pB_, pA_, pJ_]
    rw [e, pdc, if_neg (by omega), if_neg (by omega), if_neg (by omega), if_neg (by omega), if_neg (by omega), if_pos (by omega), if_pos (by omega)]; unfold cdX; omega
  · have e : pl 14 a j = 117 + 5 * a + j := by simp [pl, pB_, pA_, pJ_]
    rw [e, pdc, if_neg (by omega), if_neg (by omega), if_neg (by omega), if_neg (by omega), if_neg (by omega), if_pos (by omega), if_pos (by omega)]; unfold cdX; omega
  · have e : pl 15 a j = 118 + 5 * a + j := by simp [pl, pB_, pA_, pJ_]
    rw [e, pdc, if_neg (by omega), if_neg (by omega), if_neg (by omega), if_neg (by omega), if_neg (by omega), if_pos (by omega), if_pos (by omega)]; unfold cdX; omega
  · have e : pl 16 a j = 120 + 5 * a + j := by simp [pl, pB_, pA_, pJ_]
    rw [e, pdc, if_neg (by omega), if_neg (by omega), if_neg (by omega), if_neg (by omega), if_neg (by omega), if_pos (by omega), if_neg (by omega), if_neg (by omega)]; unfold cdX; omega
  · have e : pl 17 a j = 10 + j := by simp [pl, pB_, pA_, pJ_]
    rw [e, pdc, if_neg (by omega), if_neg (by omega), if_pos (by omega)]; unfold cdX; omega
  · have e : pl 18 a j = j := by simp [pl, pB_, pA_, pJ_]
    rw [e, pdc, if_pos (by omega)]; unfold cdX; omega
  · have e : pl 19 a j = 18 + 7 * a + j := by simp [pl, pB_, pA_, pJ_]
    rw [e, pdc, if_neg (by omega), if_neg (by omega), if_neg (by omega), if_pos (by omega), if_pos (by omega)]; unfold cdX; omega
  · have e : pl 20 a j = 77 + 7 * a + j := by simp [pl, pB_, pA_, pJ_]
    rw [e, pdc, if_neg (by omega), if_neg (by omega), if_neg (by omega), if_neg (by omega), if_pos (by omega), if_neg (by omega)]; unfold cdX; omega
  · have e : pl 21 a j = 78 + 7 * a + j := by simp [pl, pB_, pA_, pJ_]
    rw [e, pdc, if_neg (by omega), if_neg (by omega), if_neg (by omega), if_neg (by omega), if_pos (by omega), if_neg (by omega)]; unfold cdX; omega
  · have e : pl 22 a j = 79 + 7 * a + j := by simp [pl, pB_, pA_, pJ_]
    rw [e, pdc, if_neg (by omega), if_neg (by omega), if_neg (by omega), if_neg (by omega), if_pos (by omega), if_neg (by omega)]; unfold cdX; omega
  · have e : pl 23 a j = 119 + 5 * a + j := by simp [pl, pB_, pA_, pJ_]
    rw [e, pdc, if_neg (by omega), if_neg (by omega), if_neg (by omega), if_neg (by omega), if_neg (by omega), if_pos (by omega), if_neg (by omega), if_pos (by omega)]; unfold cdX; omega
  · have e : pl 24 a j = 606 + 132 * a + (11 * (j / 9) + j % 9) := by simp [pl, pB_, pA_, pJ_]
    rw [e, pdc, if_neg (by omega), if_neg (by omega), if_neg (by omega), if_neg (by omega), if_neg (by omega), if_neg (by omega), if_neg (by omega), if_pos (by omega)]; unfold cdX; omega
  · have e : pl 25 a j = 166 + 11 * a + j := by simp [pl, pB_, pA_, pJ_]
    rw [e, pdc, if_neg (by omega), if_neg (by omega), if_neg (by omega), if_neg (by omega), if_neg (by omega), if_neg (by omega), if_pos (by omega), if_pos (by omega)]; unfold cdX; omega
theorem cpX.bd {k a j : Nat} (h : cpX k a j) : k ≤ 25 ∧ a < 100 ∧ j < 1000 := by unfold cpX cpR at h; omega
theorem pl_ne {k a j k2 a2 j2 : Nat} (h : cpX k a j) (h2 : cpX k2 a2 j2) (e : ¬ (k2 = k ∧ a2 = a ∧ j2 = j)) : pl k2 a2 j2 ≠ pl k a j := fun q => by
  have w := pdc_pl h
  rw [← q, pdc_pl h2] at w
  have b := h.bd
  have b2 := h2.bd
  unfold cdX at w
  omega
/-- every place lies in the row -/
theorem pl_lt {k a j : Nat} (h : cpX k a j) : pl k a j < 1662 := by
  unfold cpX cpR at h
  have : k = 0 ∨ k = 1 ∨ k = 2 ∨ k = 3 ∨ k = 4 ∨ k = 5 ∨ k = 6 ∨ k = 7 ∨ k = 8 ∨ k = 9 ∨ k = 10 ∨ k = 11 ∨ k = 12 ∨ k = 13 ∨ k = 14 ∨ k = 15 ∨ k = 16 ∨ k = 17 ∨ k = 18 ∨ k = 19 ∨ k = 20 ∨ k = 21 ∨ k = 22 ∨ k = 23 ∨ k = 24 ∨ k = 25 := by omega
  rcases this with rfl | rfl | rfl | rfl | rfl | rfl | rfl | rfl | rfl | rfl | rfl | rfl | rfl | rfl | rfl | rfl | rfl | rfl | rfl | rfl | rfl | rfl | rfl | rfl | rfl | rfl <;> simp [pl, pB_, pA_, pJ_] <;> omega
theorem pl24 {f t i : Nat} (hi : i < 9) : pl 24 f (9 * t + i) = 606 + 11 * (12 * f + t) + i := by
  have e : pl 24 f (9 * t + i) = 606 + 132 * f + (11 * ((9 * t + i) / 9) + (9 * t + i) % 9) := by simp [pl, pB_, pA_, pJ_]
  rw [e]; omega
theorem pl25 {e i : Nat} : pl 25 e i = 166 + 11 * e + i := by simp [pl, pB_, pA_, pJ_]
theorem cX_24 {f t i : Nat} (hf : f < 8) (ht : t < 12) (hi : i < 9) : cpX 24 f (9 * t + i) := Or.inr (Or.inr (Or.inr (Or.inr (Or.inr (Or.inl ⟨rfl, hf, by omega⟩)))))
theorem cX_25 {e i : Nat} (he : e < 40) (hi : i < 9) : cpX 25 e i := Or.inr (Or.inr (Or.inr (Or.inr (Or.inr (Or.inr ⟨rfl, he, hi⟩)))))
theorem cX_19 {f : Nat} (hf : f < 8) : cpX 19 f 0 := Or.inr (Or.inr (Or.inl ⟨rfl, hf, rfl⟩))
theorem cX_23 {d : Nat} (hd : d < 10) : cpX 23 d 0 := Or.inr (Or.inr (Or.inr (Or.inr (Or.inl ⟨rfl, hd, rfl⟩))))
theorem cX_2x {k p : Nat} (h1 : 20 ≤ k) (h2 : k ≤ 22) (hp : p < 6) : cpX k p 0 := Or.inr (Or.inr (Or.inr (Or.inl ⟨h1, h2, hp, rfl⟩)))
theorem cX_18 {i : Nat} (h : i < 4) : cpX 18 0 i := Or.inr (Or.inl ⟨rfl, rfl, h⟩)
/-- a segment's words in the row -/
def SgN (w : Nat → Int64) (g : Sg) : Prop := gSeg g ∧ w 0 = lN g.length ∧ ∀ i, i < 8 → w (1 + i) = Int64.ofNat (v27 (g.getD i []))
def eb (k : Nat) (x : Int32) : Int64 := if (k = 9 ∨ k = 16) ∧ x = 0 then -5 else x.toInt64
def updR (r : Nat → Int64) (p : Nat) (v : Int64) : Nat → Int64 := fun q => if q = p then v else r q
theorem updR_e {r : Nat → Int64} {p : Nat} {v : Int64} : updR r p v p = v := if_pos rfl
theorem updR_n {r : Nat → Int64} {p q : Nat} {v : Int64} (h : q ≠ p) : updR r p v q = r q := if_neg h
/-- the row holds a state; what was paid stands apart -/
def LA (r : Nat → Int64) (u : Si) : Prop := capU u ∧ (r (pl 18 0 0) = lN (n_f u) ∧ r (pl 18 0 1) = lN (n_p u) ∧ r (pl 18 0 2) = lN (n_e u) ∧ r (pl 18 0 3) = lN (n_d u)) ∧ (∀ k a j, inR u k a j → (k = 5 ∨ k = 6 → ¬ q_i u 4 a 0 = 4) → r (pl k a j) = eb k (q_i u k a j)) ∧ (∀ f, f < n_f u → r (pl 19 f 0) = lN (n_s u f)) ∧ (∀ d, d < n_d u → r (pl 23 d 0) = if q_i u 16 d 0 = 0 then 0 else 1) ∧ (∀ f t, f < n_f u → t < n_s u f → SgN (fun i => r (pl 24 f (9 * t + i))) (q_g u 0 f t)) ∧ ∀ e, e < n_e u → SgN (fun i => r (pl 25 e i)) (q_g u 1 e 0)
def paid (u : Si) (p : Nat) : Int32 := 2 * sm (T_wr u (nI p)) (n_f u) + sm (T_pt u (nI p)) (n_f u)
def LPd (r : Nat → Int64) (u : Si) : Prop := ∀ p, p < n_p u → (r (pl 20 p 0)).toInt32 = paid u p ∧ (r (pl 21 p 0)).toInt32 = sm (T_wt u (nI p)) (n_f u) ∧ (r (pl 22 p 0)).toInt32 = sm (T_wr u (nI p)) (n_f u)
def LRw (r : Nat → Int64) (u : Si) : Prop := LA r u ∧ LPd r u
theorem SgN.congr {w w2 : Nat → Int64} {g : Sg} (h : SgN w g) (e : ∀ i, i < 9 → w2 i = w i) : SgN w2 g := ⟨h.1, (e 0 (by decide)).trans h.2.1, fun i hi => (e (1 + i) (by omega)).trans (h.2.2 i hi)⟩
theorem LRw.congr {r r2 : Nat → Int64} {u : Si} (h : LRw r u) (e : ∀ p, p < 1662 → r2 p = r p) : LRw r2 u := by
  obtain ⟨⟨c, ⟨h1, h2, h3, h4⟩, h5, h6, h7, h8, h9⟩, hp⟩ := h
  have c0 := c
  obtain ⟨c1, c2, c3, c4, c5⟩ := c0
  refine ⟨⟨c, ⟨(e _ (pl_lt (cX_18 (by decide)))).trans h1, (e _ (pl_lt (cX_18 (by decide)))).trans h2, (e _ (pl_lt (cX_18 (by decide)))).trans h3, (e _ (pl_lt (cX_18 (by decide)))).trans h4⟩, fun k a j q1 q2 => (e _ (pl_lt (Or.inl (q1.cp c)))).trans (h5 k a j q1 q2), fun f hf => (e _ (pl_lt (cX_19 (by omega)))).trans (h6 f hf), fun d hd => (e _ (pl_lt (cX_23 (by omega)))).trans (h7 d hd), fun f t hf ht => (h8 f t hf ht).congr (fun i hi => e _ (pl_lt (cX_24 (by omega) (by have := c5 f hf; omega) hi))), fun x hx => (h9 x hx).congr (fun i hi => e _ (pl_lt (cX_25 (by omega) hi)))⟩, fun p hp2 => ?_⟩
  obtain ⟨a1, a2, a3⟩ := hp p hp2
  rw [e _ (pl_lt (cX_2x (by decide) (by decide) (by omega))), e _ (pl_lt (cX_2x (by decide) (by decide) (by omega))), e _ (pl_lt (cX_2x (by decide) (by decide) (by omega)))]
  exact ⟨a1, a2, a3⟩
