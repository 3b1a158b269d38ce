/-! what the small methods write -/
def f_pR (M : Me) (h : Nat) (r : Int32) : Me := s_i (s_i (s_i M 180 h 0 r) 181 h 0 0) 182 h 0 (-5)
def f_wR (M : Me) (h : Nat) : Me := s_i (s_i (s_i (s_i (s_i (s_i M 244 h 0 0) 245 h 0 (-5)) 246 h 0 (-5)) 247 h 0 (-5)) 248 h 0 0) 249 h 0 0
def f_dR (M : Me) (h : Nat) (a b c : Int32) : Me := s_i (s_i (s_i (s_i M 100 h 0 a) 101 h 0 b) 102 h 0 c) 103 h 0 0
def f_eR (M : Me) (h g : Nat) (t : Int32) : Me := s_i (s_i (s_r M 116 h 0 g) 117 h 0 t) 118 h 0 0
/-! numbers that no unfolding computes -/
theorem ex_4 : ∃ n : Nat, n = 4 := ⟨4, rfl⟩
noncomputable def k_4 : Nat := Classical.choose ex_4
theorem k4 : k_4 = 4 := Classical.choose_spec ex_4
theorem ex_6 : ∃ n : Nat, n = 6 := ⟨6, rfl⟩
noncomputable def k_6 : Nat := Classical.choose ex_6
theorem k6 : k_6 = 6 := Classical.choose_spec ex_6
theorem ex_8 : ∃ n : Nat, n = 8 := ⟨8, rfl⟩
noncomputable def k_8 : Nat := Classical.choose ex_8
theorem k8 : k_8 = 8 := Classical.choose_spec ex_8
theorem ex_10 : ∃ n : Nat, n = 10 := ⟨10, rfl⟩
noncomputable def k_10 : Nat := Classical.choose ex_10
theorem k10 : k_10 = 10 := Classical.choose_spec ex_10
theorem ex_12 : ∃ n : Nat, n = 12 := ⟨12, rfl⟩
noncomputable def k_12 : Nat := Classical.choose ex_12
theorem k12 : k_12 = 12 := Classical.choose_spec ex_12
theorem ex_40 : ∃ n : Nat, n = 40 := ⟨40, rfl⟩
noncomputable def k_40 : Nat := Classical.choose ex_40
theorem k40 : k_40 = 40 := Classical.choose_spec ex_40
def f_fl (M : Me) (t a x : Nat) : Nat → Me
  | 0 => M
  | k + 1 => s_r (f_fl M t a x k) t a k x
theorem r_fl {M : Me} {t a x k k2 b j : Nat} (h : k2 ≠ t) : m_r (f_fl M t a x k) k2 b j = m_r M k2 b j := by
  induction k with
  | zero => rfl
  | succ k ih => rw [f_fl, r_sr, if_neg (fun q => h q.1), ih]
theorem r_fl2 {M : Me} {t a x k k2 b j : Nat} (h : b ≠ a) : m_r (f_fl M t a x k) k2 b j = m_r M k2 b j := by
  induction k with
  | zero => rfl
  | succ k ih => rw [f_fl, r_sr, if_neg (fun q => h q.2.1), ih]
theorem r_fl3 {M : Me} {t a x : Nat} : ∀ {k j : Nat}, j < k → m_r (f_fl M t a x k) t a j = x
  | 0, j, h => by omega
  | k + 1, j, h => by
    rw [f_fl, r_sr]
    by_cases hj : j = k
    · rw [if_pos ⟨rfl, rfl, hj⟩]
    · rw [if_neg (fun q => hj q.2.2), r_fl3 (by omega)]
theorem t_fl {M : Me} {t a x k b : Nat} : m_t (f_fl M t a x k) b = m_t M b := by
  induction k with
  | zero => rfl
  | succ k ih => rw [f_fl, t_sr, ih]
theorem z_fl {M : Me} {t a x k b : Nat} : m_z (f_fl M t a x k) b = m_z M b := by
  induction k with
  | zero => rfl
  | succ k ih => rw [f_fl, z_sr, ih]
theorem n_fl {M : Me} {t a x k : Nat} : m_n (f_fl M t a x k) = m_n M := by
  induction k with
  | zero => rfl
  | succ k ih => rw [f_fl, n_sr, ih]
theorem i_fl {M : Me} {t a x k k2 b j : Nat} : m_i (f_fl M t a x k) k2 b j = m_i M k2 b j := by
  induction k with
  | zero => rfl
  | succ k ih => rw [f_fl, i_sr, ih]
theorem l_fl {M : Me} {t a x k k2 b j : Nat} : m_l (f_fl M t a x k) k2 b j = m_l M k2 b j := by
  induction k with
  | zero => rfl
  | succ k ih => rw [f_fl, l_sr, ih]
/-! typing at one cell -/
def Wta (M : Me) (a : Nat) : Prop := (∀ q ∈ tgF, m_t M a = q.1 → m_t M (m_r M q.2.1 a 0) = q.2.2) ∧ (∀ q ∈ tgL, m_t M a = q.1 → m_z M a = q.2) ∧ (∀ q ∈ tgE, m_t M a = q.1 → ∀ j : Nat, j < m_z M a → m_t M (m_r M q.1 a j) = q.2) ∧ (m_t M a = 40 → m_z M a ≤ 60)
theorem Wt.of {M : Me} (h : ∀ a, Wta M a) : Wt M := ⟨fun q hq a => (h a).1 q hq, fun q hq a => (h a).2.1 q hq, fun q hq a => (h a).2.2.1 q hq, fun a => (h a).2.2.2⟩
theorem tgF_pos : ∀ q ∈ tgF, q.2.2 ≠ 0 := by decide
theorem tgE_pos : ∀ q ∈ tgE, q.2 ≠ 0 := by decide
theorem tg_no0 : (∀ q ∈ tgF, q.1 ≠ 0) ∧ (∀ q ∈ tgL, q.1 ≠ 0) ∧ (∀ q ∈ tgE, q.1 ≠ 0) := by decide
theorem Wta.zero {M : Me} {a : Nat} (h : m_t M a = 0) : Wta M a := ⟨fun q hq e => absurd (e.symm.trans h) (tg_no0.1 q hq), fun q hq e => absurd (e.symm.trans h) (tg_no0.2.1 q hq), fun q hq e => absurd (e.symm.trans h) (tg_no0.2.2 q hq), fun e => absurd (e.symm.trans h) (by decide)⟩
theorem Wta.keep {M M2 : Me} {a : Nat} (hk : Kt M M2) (hs : Sm M M2 a) (h : Wta M a) : Wta M2 a := by
  obtain ⟨e1, e2, -, -, e5⟩ := hs
  obtain ⟨h1, h2, h3, h4⟩ := h
  refine ⟨fun q hq e => ?_, fun q hq e => ?_, fun q hq e j hj => ?_, fun e => ?_⟩
  · rw [e1] at e
    have := h1 q hq e
    rw [e5, hk _ (by rw [this]; exact tgF_pos q hq), this]
  · rw [e1] at e
    rw [e2]; exact h2 q hq e
  · rw [e1] at e
    rw [e2] at hj
    have := h3 q hq e j hj
    rw [e5, hk _ (by rw [this]; exact tgE_pos q hq), this]
  · rw [e1] at e
    rw [e2]; exact h4 e
theorem Sm.rf {M : Me} {a : Nat} : Sm M M a := ⟨rfl, rfl, fun _ _ => rfl, fun _ _ => rfl, fun _ _ => rfl⟩
theorem Sm.tr {M M2 M3 : Me} {a : Nat} (h : Sm M M2 a) (h2 : Sm M2 M3 a) : Sm M M3 a := ⟨h2.1.trans h.1, h2.2.1.trans h.2.1, fun k j => (h2.2.2.1 k j).trans (h.2.2.1 k j), fun k j => (h2.2.2.2.1 k j).trans (h.2.2.2.1 k j), fun k j => (h2.2.2.2.2 k j).trans (h.2.2.2.2 k j)⟩
theorem Sm.sn {M : Me} {t z a : Nat} (h : a ≠ m_n M) : Sm M (s_new M t z) a := ⟨if_neg h, if_neg h, fun _ _ => if_neg h, fun _ _ => if_neg h, fun _ _ => if_neg h⟩
theorem Sm.fl {M : Me} {t a x k b : Nat} (h : b ≠ a) : Sm M (f_fl M t a x k) b := ⟨t_fl, z_fl, fun _ _ => i_fl, fun _ _ => l_fl, fun _ _ => r_fl2 h⟩
theorem Sm.pR {M : Me} {h : Nat} {r : Int32} {b : Nat} (hb : b ≠ h) : Sm M (f_pR M h r) b := ((Sm.si hb).tr (Sm.si hb)).tr (Sm.si hb)
theorem Sm.wR {M : Me} {h : Nat} {b : Nat} (hb : b ≠ h) : Sm M (f_wR M h) b := (((((Sm.si hb).tr (Sm.si hb)).tr (Sm.si hb)).tr (Sm.si hb)).tr (Sm.si hb)).tr (Sm.si hb)
theorem Sm.dR {M : Me} {h : Nat} {x y z : Int32} {b : Nat} (hb : b ≠ h) : Sm M (f_dR M h x y z) b := (((Sm.si hb).tr (Sm.si hb)).tr (Sm.si hb)).tr (Sm.si hb)
theorem Sm.eR {M : Me} {h g : Nat} {x : Int32} {b : Nat} (hb : b ≠ h) : Sm M (f_eR M h g x) b := ((Sm.sr hb).tr (Sm.si hb)).tr (Sm.si hb)
/-- an object without references: its constructor writes numbers alone -/
theorem Wta.num {M : Me} {a t : Nat} (ht : m_t M a = t) (h1 : ∀ q ∈ tgF, q.1 ≠ t) (h2 : ∀ q ∈ tgL, q.1 ≠ t) (h3 : ∀ q ∈ tgE, q.1 ≠ t) (h4 : t ≠ 40) : Wta M a := ⟨fun q hq e => absurd (e.symm.trans ht) (h1 q hq), fun q hq e => absurd (e.symm.trans ht) (h2 q hq), fun q hq e => absurd (e.symm.trans ht) (h3 q hq), fun e => absurd (ht.symm.trans e) h4⟩
/-- an array of numbers -/
theorem Wta.arr {M : Me} {a t z : Nat} (ht : m_t M a = t) (hz : m_z M a = z) (h1 : ∀ q ∈ tgF, q.1 ≠ t) (h2 : ∀ q ∈ tgL, q.1 = t → q.2 = z) (h3 : ∀ q ∈ tgE, q.1 ≠ t) (h4 : t = 40 → z ≤ 60) : Wta M a := ⟨fun q hq e => absurd (e.symm.trans ht) (h1 q hq), fun q hq e => by rw [hz, h2 q hq (e.symm.trans ht)], fun q hq e => absurd (e.symm.trans ht) (h3 q hq), fun e => by rw [hz]; exact h4 (ht.symm.trans e)⟩
/-- an array of references -/
theorem Wta.ref {M : Me} {a t z : Nat} (u : Nat) (ht : m_t M a = t) (hz : m_z M a = z) (he : ∀ j, j < z → m_t M (m_r M t a j) = u) (h1 : ∀ q ∈ tgF, q.1 ≠ t) (h2 : ∀ q ∈ tgL, q.1 = t → q.2 = z) (h3 : ∀ q ∈ tgE, q.1 = t → q.2 = u) (h4 : t ≠ 40) : Wta M a := ⟨fun q hq e => absurd (e.symm.trans ht) (h1 q hq), fun q hq e => by rw [hz, h2 q hq (e.symm.trans ht)], fun q hq e j hj => by
  have e2 := e.symm.trans ht
  rw [hz] at hj
  rw [h3 q hq e2, e2]
  exact he j hj, fun e => absurd (ht.symm.trans e) h4⟩
theorem i_nlt {a b : Int32} (h : ¬ a < b) : b ≤ a := by
  rw [Int32.le_iff_toInt_le]
  rw [Int32.lt_iff_toInt_lt] at h
  omega
theorem i_nle {a b : Int32} (h : ¬ a ≤ b) : b < a := by
  rw [Int32.lt_iff_toInt_lt]
  rw [Int32.le_iff_toInt_le] at h
  omega
theorem i_ab {a b : Int32} (h : a < b) (h2 : b ≤ a) : False := by
  rw [Int32.lt_iff_toInt_lt] at h
  rw [Int32.le_iff_toInt_le] at h2
  omega
theorem lp_lt {i N : Nat} (h : ¬ nI N ≤ nI i) (hi : i < 2 ^ 31 := by omega) : i < N := Nat.not_le.mp fun q => h (nI_le q hi)
theorem lp_ge {i N : Nat} (h : nI N ≤ nI i) (hN : N < 2 ^ 31 := by omega) (hi : i < 2 ^ 31 := by omega) : N ≤ i := (nI_leI hN hi).mp h
theorem Wta.obj {M : Me} {a t : Nat} (ht : m_t M a = t) (hf : ∀ q ∈ tgF, q.1 = t → m_t M (m_r M q.2.1 a 0) = q.2.2) (h2 : ∀ q ∈ tgL, q.1 ≠ t) (h3 : ∀ q ∈ tgE, q.1 ≠ t) (h4 : t ≠ 40) : Wta M a := ⟨fun q hq e => hf q hq (e.symm.trans ht), fun q hq e => absurd (e.symm.trans ht) (h2 q hq), fun q hq e => absurd (e.symm.trans ht) (h3 q hq), fun e => absurd (ht.symm.trans e) h4⟩
theorem tf_2 {M : Me} {a : Nat} (p116 : m_t M (m_r M 116 a 0) = 7) : ∀ q ∈ tgF, q.1 = 2 → m_t M (m_r M q.2.1 a 0) = q.2.2 := by
  intro q hq e
  have h1 : q ∈ tgF.filter (fun x => x.1 == 2) := List.mem_filter.mpr ⟨hq, by simp [e]⟩
  rw [show tgF.filter (fun x => x.1 == 2) = [(2, 116, 7)] by decide] at h1
  simp only [List.mem_cons, List.mem_nil_iff, or_false] at h1
  rcases h1 with rfl <;> assumption
theorem tf_3 {M : Me} {a : Nat} (p132 : m_t M (m_r M 132 a 0) = 55) : ∀ q ∈ tgF, q.1 = 3 → m_t M (m_r M q.2.1 a 0) = q.2.2 := by
  intro q hq e
  have h1 : q ∈ tgF.filter (fun x => x.1 == 3) := List.mem_filter.mpr ⟨hq, by simp [e]⟩
  rw [show tgF.filter (fun x => x.1 == 3) = [(3, 132, 55)] by decide] at h1
  simp only [List.mem_cons, List.mem_nil_iff, or_false] at h1
  rcases h1 with rfl <;> assumption
theorem tf_4 {M : Me} {a : Nat} (p148 : m_t M (m_r M 148 a 0) = 23) : ∀ q ∈ tgF, q.1 = 4 → m_t M (m_r M q.2.1 a 0) = q.2.2 := by
  intro q hq e
  have h1 : q ∈ tgF.filter (fun x => x.1 == 4) := List.mem_filter.mpr ⟨hq, by simp [e]⟩
  rw [show tgF.filter (fun x => x.1 == 4) = [(4, 148, 23)] by decide] at h1
  simp only [List.mem_cons, List.mem_nil_iff, or_false] at h1
  rcases h1 with rfl <;> assumption
theorem tf_5 {M : Me} {a : Nat} (p164 : m_t M (m_r M 164 a 0) = 4) (p165 : m_t M (m_r M 165 a 0) = 53) (p167 : m_t M (m_r M 167 a 0) = 54) : ∀ q ∈ tgF, q.1 = 5 → m_t M (m_r M q.2.1 a 0) = q.2.2 := by
  intro q hq e
  have h1 : q ∈ tgF.filter (fun x => x.1 == 5) := List.mem_filter.mpr ⟨hq, by simp [e]⟩
  rw [show tgF.filter (fun x => x.1 == 5) = [(5, 164, 4), (5, 165, 53), (5, 167, 54)] by decide] at h1
  simp only [List.mem_cons, List.mem_nil_iff, or_false] at h1
  rcases h1 with rfl | rfl | rfl <;> assumption
theorem tf_7 {M : Me} {a : Nat} (p196 : m_t M (m_r M 196 a 0) = 40) (p197 : m_t M (m_r M 197 a 0) = 30) : ∀ q ∈ tgF, q.1 = 7 → m_t M (m_r M q.2.1 a 0) = q.2.2 := by
  intro q hq e
  have h1 : q ∈ tgF.filter (fun x => x.1 == 7) := List.mem_filter.mpr ⟨hq, by simp [e]⟩
  rw [show tgF.filter (fun x => x.1 == 7) = [(7, 196, 40), (7, 197, 30)] by decide] at h1
  simp only [List.mem_cons, List.mem_nil_iff, or_false] at h1
  rcases h1 with rfl | rfl <;> assumption
theorem tf_8 {M : Me} {a : Nat} (p212 : m_t M (m_r M 212 a 0) = 20) (p213 : m_t M (m_r M 213 a 0) = 50) (p215 : m_t M (m_r M 215 a 0) = 51) (p217 : m_t M (m_r M 217 a 0) = 21) (p218 : m_t M (m_r M 218 a 0) = 5) (p219 : m_t M (m_r M 219 a 0) = 22) : ∀ q ∈ tgF, q.1 = 8 → m_t M (m_r M q.2.1 a 0) = q.2.2 := by
  intro q hq e
  have h1 : q ∈ tgF.filter (fun x => x.1 == 8) := List.mem_filter.mpr ⟨hq, by simp [e]⟩
  rw [show tgF.filter (fun x => x.1 == 8) = [(8, 212, 20), (8, 213, 50), (8, 215, 51), (8, 217, 21), (8, 218, 5), (8, 219, 22)] by decide] at h1
  simp only [List.mem_cons, List.mem_nil_iff, or_false] at h1
  rcases h1 with rfl | rfl | rfl | rfl | rfl | rfl <;> assumption
theorem tf_9 {M : Me} {a : Nat} (p228 : m_t M (m_r M 228 a 0) = 41) : ∀ q ∈ tgF, q.1 = 9 → m_t M (m_r M q.2.1 a 0) = q.2.2 := by
  intro q hq e
  have h1 : q ∈ tgF.filter (fun x => x.1 == 9) := List.mem_filter.mpr ⟨hq, by simp [e]⟩
  rw [show tgF.filter (fun x => x.1 == 9) = [(9, 228, 41)] by decide] at h1
  simp only [List.mem_cons, List.mem_nil_iff, or_false] at h1
  rcases h1 with rfl <;> assumption
theorem tf_10 {M : Me} {a : Nat} (p250 : m_t M (m_r M 250 a 0) = 52) (p251 : m_t M (m_r M 251 a 0) = 24) (p252 : m_t M (m_r M 252 a 0) = 25) : ∀ q ∈ tgF, q.1 = 10 → m_t M (m_r M q.2.1 a 0) = q.2.2 := by
  intro q hq e
  have h1 : q ∈ tgF.filter (fun x => x.1 == 10) := List.mem_filter.mpr ⟨hq, by simp [e]⟩
  rw [show tgF.filter (fun x => x.1 == 10) = [(10, 250, 52), (10, 251, 24), (10, 252, 25)] by decide] at h1
  simp only [List.mem_cons, List.mem_nil_iff, or_false] at h1
  rcases h1 with rfl | rfl | rfl <;> assumption
theorem tf_11 {M : Me} {a : Nat} (p260 : m_t M (m_r M 260 a 0) = 9) (p261 : m_t M (m_r M 261 a 0) = 8) (p262 : m_t M (m_r M 262 a 0) = 8) (p263 : m_t M (m_r M 263 a 0) = 3) : ∀ q ∈ tgF, q.1 = 11 → m_t M (m_r M q.2.1 a 0) = q.2.2 := by
  intro q hq e
  have h1 : q ∈ tgF.filter (fun x => x.1 == 11) := List.mem_filter.mpr ⟨hq, by simp [e]⟩
  rw [show tgF.filter (fun x => x.1 == 11) = [(11, 260, 9), (11, 261, 8), (11, 262, 8), (11, 263, 3)] by decide] at h1
  simp only [List.mem_cons, List.mem_nil_iff, or_false] at h1
  rcases h1 with rfl | rfl | rfl | rfl <;> assumption
theorem tf_12 {M : Me} {a : Nat} (p276 : m_t M (m_r M 276 a 0) = 31) (p277 : m_t M (m_r M 277 a 0) = 32) (p278 : m_t M (m_r M 278 a 0) = 33) (p281 : m_t M (m_r M 281 a 0) = 42) (p283 : m_t M (m_r M 283 a 0) = 34) (p286 : m_t M (m_r M 286 a 0) = 26) (p287 : m_t M (m_r M 287 a 0) = 27) : ∀ q ∈ tgF, q.1 = 12 → m_t M (m_r M q.2.1 a 0) = q.2.2 := by
  intro q hq e
  have h1 : q ∈ tgF.filter (fun x => x.1 == 12) := List.mem_filter.mpr ⟨hq, by simp [e]⟩
  rw [show tgF.filter (fun x => x.1 == 12) = [(12, 276, 31), (12, 277, 32), (12, 278, 33), (12, 281, 42), (12, 283, 34), (12, 286, 26), (12, 287, 27)] by decide] at h1
  simp only [List.mem_cons, List.mem_nil_iff, or_false] at h1
  rcases h1 with rfl | rfl | rfl | rfl | rfl | rfl | rfl <;> assumption
/-- WorkFile(blank) at h -/
noncomputable def f_wI (M : Me) (h b : Nat) : Me := f_wR (s_r (s_new (s_r (s_new (f_fl (s_r (s_new M 52 12) 250 h 0 (m_n M)) 52 (m_n M) b k_12) 24 12) 251 h 0 (m_n (f_fl (s_r (s_new M 52 12) 250 h 0 (m_n M)) 52 (m_n M) b k_12))) 25 12) 252 h 0 (m_n (s_r (s_new (f_fl (s_r (s_new M 52 12) 250 h 0 (m_n M)) 52 (m_n M) b k_12) 24 12) 251 h 0 (m_n (f_fl (s_r (s_new M 52 12) 250 h 0 (m_n M)) 52 (m_n M) b k_12))))) h
theorem wI_sm {M : Me} {h b a : Nat} (ha : a ≠ h) (hn : a < m_n M) : Sm M (f_wI M h b) a := by
  unfold f_wI
  refine Sm.tr ?_ (Sm.wR ha)
  refine Sm.tr ?_ (Sm.sr ha)
  refine Sm.tr ?_ (Sm.sn (by rw [n_sr, n_sn, n_fl, n_sr, n_sn]; omega))
  refine Sm.tr ?_ (Sm.sr ha)
  refine Sm.tr ?_ (Sm.sn (by rw [n_fl, n_sr, n_sn]; omega))
  refine Sm.tr ?_ (Sm.fl (by omega))
  refine Sm.tr ?_ (Sm.sr ha)
  exact Sm.sn (by omega)
theorem wI_n {M : Me} {h b : Nat} : m_n (f_wI M h b) = m_n M + 3 := by
  unfold f_wI f_wR
  simp only [n_si, n_sr, n_sn, n_fl]
theorem wI_t {M : Me} {h b a : Nat} : m_t (f_wI M h b) a = if a = m_n M + 2 then 25 else if a = m_n M + 1 then 24 else if a = m_n M then 52 else m_t M a := by
  unfold f_wI f_wR
  simp only [t_si, t_sr, t_sn, t_fl, n_si, n_sr, n_sn, n_fl]
theorem wI_z {M : Me} {h b a : Nat} : m_z (f_wI M h b) a = if a = m_n M + 2 then 12 else if a = m_n M + 1 then 12 else if a = m_n M then 12 else m_z M a := by
  unfold f_wI f_wR
  simp only [z_si, z_sr, z_sn, z_fl, n_si, n_sr, n_sn, n_fl]
theorem wI_r {M : Me} {h b : Nat} (hn : h < m_n M) : m_r (f_wI M h b) 250 h 0 = m_n M ∧ m_r (f_wI M h b) 251 h 0 = m_n M + 1 ∧ m_r (f_wI M h b) 252 h 0 = m_n M + 2 ∧ ∀ j, j < 12 → m_r (f_wI M h b) 52 (m_n M) j = b := by
  have h0 : h ≠ m_n M := by omega
  have h1 : h ≠ m_n M + 1 := by omega
  have h2 : h ≠ m_n M + 2 := by omega
  have e1 : ¬ m_n M = h := by omega
  unfold f_wI f_wR
  simp only [r_si, n_si, n_sr, n_sn, n_fl]
  refine ⟨?_, ?_, ?_, fun j hj => ?_⟩
  · simp [r_sr, r_sn, r_fl, n_sr, n_sn, n_fl, h0, h1, h2]
  · simp [r_sr, r_sn, r_fl, n_sr, n_sn, n_fl, h0, h1, h2]
  · simp [r_sr]
  · have e2 : ¬ m_n M = m_n M + 1 + 1 := by omega
    simp [r_sr, r_sn, r_fl3 (show j < k_12 by rw [k12]; exact hj), n_sr, n_sn, n_fl, e1, e2]
