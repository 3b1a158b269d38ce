/-! MEMORY: one tuple of functions; fields and arrays by keys (a field of class ci: 100 + 16 * ci + k; an array of role t: t) -/
abbrev Me : Type := Nat × (Nat → Nat) × (Nat → Nat) × (Nat → Nat → Nat → Int32) × (Nat → Nat → Nat → Int64) × (Nat → Nat → Nat → Nat)
def m_n (M : Me) : Nat := M.1
def m_t (M : Me) (a : Nat) : Nat := M.2.1 a
def m_z (M : Me) (a : Nat) : Nat := M.2.2.1 a
def m_i (M : Me) (k a j : Nat) : Int32 := M.2.2.2.1 k a j
def m_l (M : Me) (k a j : Nat) : Int64 := M.2.2.2.2.1 k a j
def m_r (M : Me) (k a j : Nat) : Nat := M.2.2.2.2.2 k a j
def s_i (M : Me) (k a j : Nat) (v : Int32) : Me := (M.1, M.2.1, M.2.2.1, fun k2 a2 j2 => if k2 = k ∧ a2 = a ∧ j2 = j then v else M.2.2.2.1 k2 a2 j2, M.2.2.2.2.1, M.2.2.2.2.2)
def s_l (M : Me) (k a j : Nat) (v : Int64) : Me := (M.1, M.2.1, M.2.2.1, M.2.2.2.1, fun k2 a2 j2 => if k2 = k ∧ a2 = a ∧ j2 = j then v else M.2.2.2.2.1 k2 a2 j2, M.2.2.2.2.2)
def s_r (M : Me) (k a j : Nat) (v : Nat) : Me := (M.1, M.2.1, M.2.2.1, M.2.2.2.1, M.2.2.2.2.1, fun k2 a2 j2 => if k2 = k ∧ a2 = a ∧ j2 = j then v else M.2.2.2.2.2 k2 a2 j2)
def s_new (M : Me) (t z : Nat) : Me := (M.1 + 1, fun a => if a = M.1 then t else M.2.1 a, fun a => if a = M.1 then z else M.2.2.1 a, fun k a j => if a = M.1 then 0 else M.2.2.2.1 k a j, fun k a j => if a = M.1 then 0 else M.2.2.2.2.1 k a j, fun k a j => if a = M.1 then 0 else M.2.2.2.2.2 k a j)
theorem n_si (M : Me) (k a j : Nat) (v : Int32) : m_n (s_i M k a j v) = m_n M := rfl
theorem n_sl (M : Me) (k a j : Nat) (v : Int64) : m_n (s_l M k a j v) = m_n M := rfl
theorem n_sr (M : Me) (k a j : Nat) (v : Nat) : m_n (s_r M k a j v) = m_n M := rfl
theorem n_sn (M : Me) (t z : Nat) : m_n (s_new M t z) = m_n M + 1 := rfl
theorem t_si (M : Me) (k a j : Nat) (v : Int32) (b : Nat) : m_t (s_i M k a j v) b = m_t M b := rfl
theorem t_sl (M : Me) (k a j : Nat) (v : Int64) (b : Nat) : m_t (s_l M k a j v) b = m_t M b := rfl
theorem t_sr (M : Me) (k a j : Nat) (v : Nat) (b : Nat) : m_t (s_r M k a j v) b = m_t M b := rfl
theorem t_sn (M : Me) (t z b : Nat) : m_t (s_new M t z) b = if b = m_n M then t else m_t M b := rfl
theorem z_si (M : Me) (k a j : Nat) (v : Int32) (b : Nat) : m_z (s_i M k a j v) b = m_z M b := rfl
theorem z_sl (M : Me) (k a j : Nat) (v : Int64) (b : Nat) : m_z (s_l M k a j v) b = m_z M b := rfl
theorem z_sr (M : Me) (k a j : Nat) (v : Nat) (b : Nat) : m_z (s_r M k a j v) b = m_z M b := rfl
theorem z_sn (M : Me) (t z b : Nat) : m_z (s_new M t z) b = if b = m_n M then z else m_z M b := rfl
theorem i_si (M : Me) (k a j : Nat) (v : Int32) (k2 a2 j2 : Nat) : m_i (s_i M k a j v) k2 a2 j2 = if k2 = k ∧ a2 = a ∧ j2 = j then v else m_i M k2 a2 j2 := rfl
theorem i_sl (M : Me) (k a j : Nat) (v : Int64) (k2 a2 j2 : Nat) : m_i (s_l M k a j v) k2 a2 j2 = m_i M k2 a2 j2 := rfl
theorem i_sr (M : Me) (k a j : Nat) (v : Nat) (k2 a2 j2 : Nat) : m_i (s_r M k a j v) k2 a2 j2 = m_i M k2 a2 j2 := rfl
theorem i_sn (M : Me) (t z k2 a2 j2 : Nat) : m_i (s_new M t z) k2 a2 j2 = if a2 = m_n M then 0 else m_i M k2 a2 j2 := rfl
theorem l_si (M : Me) (k a j : Nat) (v : Int32) (k2 a2 j2 : Nat) : m_l (s_i M k a j v) k2 a2 j2 = m_l M k2 a2 j2 := rfl
theorem l_sl (M : Me) (k a j : Nat) (v : Int64) (k2 a2 j2 : Nat) : m_l (s_l M k a j v) k2 a2 j2 = if k2 = k ∧ a2 = a ∧ j2 = j then v else m_l M k2 a2 j2 := rfl
theorem l_sr (M : Me) (k a j : Nat) (v : Nat) (k2 a2 j2 : Nat) : m_l (s_r M k a j v) k2 a2 j2 = m_l M k2 a2 j2 := rfl
theorem l_sn (M : Me) (t z k2 a2 j2 : Nat) : m_l (s_new M t z) k2 a2 j2 = if a2 = m_n M then 0 else m_l M k2 a2 j2 := rfl
theorem r_si (M : Me) (k a j : Nat) (v : Int32) (k2 a2 j2 : Nat) : m_r (s_i M k a j v) k2 a2 j2 = m_r M k2 a2 j2 := rfl
theorem r_sl (M : Me) (k a j : Nat) (v : Int64) (k2 a2 j2 : Nat) : m_r (s_l M k a j v) k2 a2 j2 = m_r M k2 a2 j2 := rfl
theorem r_sr (M : Me) (k a j : Nat) (v : Nat) (k2 a2 j2 : Nat) : m_r (s_r M k a j v) k2 a2 j2 = if k2 = k ∧ a2 = a ∧ j2 = j then v else m_r M k2 a2 j2 := rfl
theorem r_sn (M : Me) (t z k2 a2 j2 : Nat) : m_r (s_new M t z) k2 a2 j2 = if a2 = m_n M then 0 else m_r M k2 a2 j2 := rfl
def rv (a : Nat) : Value := if a = 0 then .null else .ref a
theorem rv_ne {a : Nat} (h : a ≠ 0) : rv a = .ref a := if_neg h
theorem rv_0 : rv 0 = .null := rfl
/-! G: numbers of classes, places of fields, numbers of array classes, where our cells begin, the heap at the start -/
abbrev Gd : Type := (Nat → ClassId) × (Nat → Nat → Nat) × (Nat → ClassId) × Nat × Heap
def g_lo (G : Gd) : Nat := G.2.2.2.1
def g_H (G : Gd) : Heap := G.2.2.2.2
def ty_ (G : Gd) : List (ClassId × FieldType) := [(G.2.2.1 0, .int), (G.2.2.1 1, .long), (G.2.2.1 2, .char), (G.2.2.1 50, .object RX5), (G.2.2.1 51, .object RX9), (G.2.2.1 52, .object RX6), (G.2.2.1 53, .object RX1), (G.2.2.1 54, .object RX0), (G.2.2.1 55, .object RX7)]
def KK (G : Gd) (U : State) : Prop := va_K (G.1, G.2.1) vwCl (ty_ G) U
theorem KK.moved {G : Gd} {u U : State} (hvm : u.vm.Alike U.vm) (h : KK G u) : KK G U := va_K.moved hvm h
def aoL : List String := [RX5, RX9, RX6, RX1, RX0, RX7]
def shr (j : Nat) : Int32 := match j with
  | 0 => 10
  | 1 => 20
  | 2 => 40
  | 3 => 60
  | 4 => 80
  | _ => 100
/-- the first shares: a static array that nobody writes -/
def Sh (G : Gd) (U : State) : Prop := ∃ (t : Nat) (cell : Cell), va_Z "MatchBureau" "FIRST_SHARES" "[I" (.ref t) (fun q => g_lo G ≤ q) U (g_H G) ∧ (g_H G)[t]? = some cell ∧ t < g_lo G ∧ U.vm.findClass "[I" = some cell.cls ∧ cell.vm ≠ .unknown ∧ cell.vm.isStatics = false ∧ cell.slots.size = 6 ∧ ∀ j : Nat, j < 6 → cell.slots[j]? = some (.int (shr j))
theorem Sh.moved {G : Gd} {u U : State} (hvm : u.vm.Alike U.vm) (h : Sh G u) : Sh G U := by
  obtain ⟨t, cell, h1, h2, h3, h4, h5⟩ := h
  exact ⟨t, cell, h1.moved hvm, h2, h3, by rw [hvm.findClass]; exact h4, h5⟩
def KX (G : Gd) (U : State) : Prop := (∀ C ∈ aoL, va_AO C U) ∧ va_Nw (.castable "[I" "java/lang/Cloneable") U ∧ va_Nw (.fieldLinkNest RX7 9 "MatchBureau" "FIRST_SHARES" "[I" "MatchBureau") U ∧ Sh G U
theorem KX.moved {G : Gd} {s U : State} (hW : s.WarmedH U.vm) (h : KX G s) : KX G U := ⟨fun C hC => (h.1 C hC).moved hW.alike, va_Nw.warmC hW h.2.1, va_Nw.warmF hW h.2.2.1, h.2.2.2.moved hW.alike⟩
def fr (k : Nat) : Bool := ([116, 132, 148, 164, 165, 167, 196, 197, 212, 213, 215, 217, 218, 219, 228, 250, 251, 252, 260, 261, 262, 263, 276, 277, 278, 281, 283, 286, 287] : List Nat).contains k
def fv (ci : Nat) (M : Me) (a k : Nat) : Value := if fr (100 + 16 * ci + k) = true then rv (m_r M (100 + 16 * ci + k) a 0) else .int (m_i M (100 + 16 * ci + k) a 0)
def acell (G : Gd) (M : Me) (t a : Nat) : Cell := if t < 30 then arrV (G.2.2.1 0) (m_z M a) (fun j => .int (m_i M t a j)) else if t < 40 then arrV (G.2.2.1 1) (m_z M a) (fun j => .long (m_l M t a j)) else if t < 50 then arrV (G.2.2.1 2) (m_z M a) (fun j => .int (m_i M t a j)) else arrV (G.2.2.1 t) (m_z M a) (fun j => rv (m_r M t a j))
def cok (G : Gd) (M : Me) (H : Heap) (a : Nat) : Prop := (∀ (ci : Nat) (q : vw_C), vwCl[ci]? = some q → m_t M a = ci + 1 → t_OB a (G.1 ci) q.2.2 (G.2.1 ci) H (fv ci M a)) ∧ (20 ≤ m_t M a → H[a]? = some (acell G M (m_t M a) a))
def Rp (G : Gd) (M : Me) (H : Heap) : Prop := 0 < g_lo G ∧ g_lo G ≤ m_n M ∧ H.size = m_n M ∧ (∀ q : Nat, q < g_lo G → H[q]? = (g_H G)[q]?) ∧ ∀ a : Nat, m_t M a ≠ 0 → g_lo G ≤ a ∧ a < m_n M ∧ cok G M H a
/-- contents at a cell are the same -/
def Sm (M M2 : Me) (a : Nat) : Prop := m_t M2 a = m_t M a ∧ m_z M2 a = m_z M a ∧ (∀ k j, m_i M2 k a j = m_i M k a j) ∧ (∀ k j, m_l M2 k a j = m_l M k a j) ∧ ∀ k j, m_r M2 k a j = m_r M k a j
theorem cok.kept {G : Gd} {M M2 : Me} {H H1 : Heap} {a : Nat} (h : cok G M H a) (hs : Sm M M2 a) (hq : H1[a]? = H[a]?) : cok G M2 H1 a := by
  obtain ⟨e1, e2, e3, e4, e5⟩ := hs
  refine ⟨fun ci q hc ht => ?_, fun h2 => ?_⟩
  · have h3 := (h.1 ci q hc (by rw [← e1]; exact ht)).kept hq
    refine h3.to fun k _ => ?_
    simp only [fv, e3, e5]
  · rw [hq, h.2 (by rw [← e1]; exact h2)]
    simp only [acell, e1, e2, e3, e4, e5]
theorem Rp.pos {G : Gd} {M : Me} {H : Heap} (h : Rp G M H) {a : Nat} (ht : m_t M a ≠ 0) : a ≠ 0 := by
  have := (h.2.2.2.2 a ht).1
  have := h.1
  omega
theorem Rp.upd {G : Gd} {M M2 : Me} {H H1 : Heap} {a : Nat} (h : Rp G M H) (hn : m_n M2 = m_n M) (z : H1.size = H.size) (oq : ∀ q : Nat, q ≠ a → H1[q]? = H[q]?) (ht : m_t M a ≠ 0) (hs : ∀ b, b ≠ a → Sm M M2 b) (ha : cok G M2 H1 a) : Rp G M2 H1 := by
  obtain ⟨h0, h1, h2, h3, h4⟩ := h
  have hal := (h4 a ht).1
  refine ⟨h0, by rw [hn]; exact h1, by rw [z, hn]; exact h2, fun q hq => ?_, fun b hb => ?_⟩
  · rw [oq q (by omega)]; exact h3 q hq
  · by_cases hba : b = a
    · subst hba
      exact ⟨hal, by rw [hn]; exact (h4 b ht).2.1, ha⟩
    · have h5 := h4 b (by rw [← (hs b hba).1]; exact hb)
      exact ⟨h5.1, by rw [hn]; exact h5.2.1, h5.2.2.kept (hs b hba) (oq b hba)⟩
theorem Sm.si {M : Me} {k a j : Nat} {v : Int32} {b : Nat} (h : b ≠ a) : Sm M (s_i M k a j v) b := ⟨rfl, rfl, fun k2 j2 => if_neg (fun q => h q.2.1), fun _ _ => rfl, fun _ _ => rfl⟩
theorem Sm.sl {M : Me} {k a j : Nat} {v : Int64} {b : Nat} (h : b ≠ a) : Sm M (s_l M k a j v) b := ⟨rfl, rfl, fun _ _ => rfl, fun k2 j2 => if_neg (fun q => h q.2.1), fun _ _ => rfl⟩
theorem Sm.sr {M : Me} {k a j : Nat} {v : Nat} {b : Nat} (h : b ≠ a) : Sm M (s_r M k a j v) b := ⟨rfl, rfl, fun _ _ => rfl, fun _ _ => rfl, fun k2 j2 => if_neg (fun q => h q.2.1)⟩
theorem Rp.new {G : Gd} {M : Me} {H H1 : Heap} {t z : Nat} (h : Rp G M H) (z1 : H1.size = H.size + 1) (o1 : ∀ q : Nat, q < H.size → H1[q]? = H[q]?) (ha : cok G (s_new M t z) H1 (m_n M)) : Rp G (s_new M t z) H1 := by
  obtain ⟨h0, h1, h2, h3, h4⟩ := h
  refine ⟨h0, by rw [n_sn]; omega, by rw [z1, h2, n_sn], fun q hq => ?_, fun b hb => ?_⟩
  · rw [o1 q (by omega)]; exact h3 q hq
  · by_cases hba : b = m_n M
    · subst hba
      exact ⟨h1, by rw [n_sn]; omega, ha⟩
    · rw [t_sn, if_neg hba] at hb
      have h5 := h4 b hb
      refine ⟨h5.1, by rw [n_sn]; omega, h5.2.2.kept ⟨?_, ?_, ?_, ?_, ?_⟩ (o1 b (by omega))⟩
      · rw [t_sn, if_neg hba]
      · rw [z_sn, if_neg hba]
      · intro k j; rw [i_sn, if_neg hba]
      · intro k j; rw [l_sn, if_neg hba]
      · intro k j; rw [r_sn, if_neg hba]
/-! an index in range, as a number -/
def ix (i : Int32) (z j : Nat) : Prop := vp_in i z ∧ i.toNatClampNeg = j
theorem ix_n {j z : Nat} (h : j < z) (hz : z < 2 ^ 31) : ix (nI j) z j := ⟨vp_in_nI h hz, nI_clamp (by omega)⟩
theorem ix_e {i : Int32} {j z : Nat} (e : i = nI j) (h : j < z) (hz : z < 2 ^ 31) : ix i z j := by subst e; exact ix_n h hz
theorem ix_o {i : Int32} {z : Nat} (h : vp_in i z) : ix i z i.toNatClampNeg := ⟨h, rfl⟩
