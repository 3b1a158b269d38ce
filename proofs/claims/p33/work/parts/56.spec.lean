/-! what the bureau's acts do, as functions of its state -/
def inN (x : Int32) (n : Nat) : Option Nat := if x < 0 ∨ nI n ≤ x then none else some x.toNatClampNeg
theorem inN_s {j n : Nat} (h : j < n) (hn : n < 2 ^ 31 := by omega) : inN (nI j) n = some j := by
  unfold inN
  rw [if_neg (fun q => by
    rcases q with q | q
    · exact i_ab q (nI_le (a := 0) (Nat.zero_le j) (by omega))
    · exact i_ab (nI_lt h hn) q), nI_clamp (by omega)]
theorem inN_o {x : Int32} {n : Nat} (h : ¬ rgI x n) (hn : n < 2 ^ 31 := by omega) : inN x n = none := by
  unfold inN
  refine if_pos (Classical.byContradiction fun q => h (rg_in (fun z => q (Or.inl z)) (fun z => q (Or.inr z)) hn))
theorem inN_i {x : Int32} {n j : Nat} (h : inN x n = some j) (hn : n < 2 ^ 31 := by omega) : j < n ∧ x = nI j := by
  by_cases q : rgI x n
  · obtain ⟨k, hk, rfl⟩ := q
    rw [inN_s hk hn] at h
    cases h; exact ⟨hk, rfl⟩
  · rw [inN_o q hn] at h; cases h
theorem inN_n {x : Int32} {n : Nat} (h : inN x n = none) (hn : n < 2 ^ 31 := by omega) : ¬ rgI x n := fun ⟨k, hk, e⟩ => by
  rw [e, inN_s hk hn] at h; cases h
abbrev tgI (x : Int32) : Prop := ¬ x < 1 ∧ ¬ 999 < x
abbrev Da := Int32 × Option Si
def brB (b x : Int32) : Int32 := if (b >>> (x &&& 31)) &&& 1 = 1 then 1 else 0
/-- the set bits, as Integer.bitCount reckons them -/
def ush (x : Int32) (k : Int32) : Int32 := (x.toUInt32 >>> (k.toUInt32 &&& Int32.toUInt32 31)).toInt32
def bcN (x : Int32) : Int32 :=
  let a := x - (ush x 1 &&& 1431655765)
  let b := (a &&& 858993459) + (ush a 2 &&& 858993459)
  let c := (b + ush b 4) &&& 252645135
  let d := c + ush c 8
  let e := d + ush d 16
  e &&& 63
def barU (u : Si) (a b : Nat) (z : Int32) : Si := u_i (u_i u 2 a 0 (sbr (q_i u 2 a 0) (nI b) z)) 2 b 0 (sbr (q_i u 2 b 0) (nI a) z)
def withU (u : Si) (f : Nat) : Si := u_i (u_i u 4 f 0 4) 7 f 0 (-5)
def takeU (u : Si) (f p : Nat) : Si := fU (stM f) (u_i (u_i (u_i u 7 f 0 (prc u f (q_i u 1 p 0))) 4 f 0 1) 5 f 0 (nI p)) (n_s u f)
def trV (u : Si) (f s : Nat) (t : Int32) : Si := lrnU (u_i (u_i u 9 f s t) 10 f s 1) (q_g u 0 f s) t
def trnU (u : Si) (f s : Nat) (t : Int32) : Si := fU (stS (q_g u 0 f s) t) (trV u f s t) (n_f u)
def trnC (u : Si) (f s : Nat) (t : Int32) : Int32 := fC (stS (q_g u 0 f s) t) (ctS (q_g u 0 f s) t) (trV u f s t) (n_f u)
def rejU (u : Si) (f s : Nat) : Si := u_i (u_i (u_i (u_i (u_i u 9 f s 0) 10 f s 0) 4 f 0 1) 6 f 0 (-5)) 8 f 0 (q_i u 8 f 0 + 1)
def delU (u : Si) (f : Nat) : Si := u_i u 4 f 0 3
def stOb (u : Si) (g : Sg) (t : Int32) : Bool := match alN u g with
  | none => false
  | some e => decide (¬ q_i u 12 e 0 = 0 ∧ ¬ q_i u 11 e 0 = t)
def rmB (u : Si) (g : Sg) (t : Int32) : Bool := match alN u g with
  | none => decide (n_e u < 40)
  | some e => !ndB u e t || decide (n_d u < 10)
def dsB (u : Si) (g : Sg) : Bool := match alN u g with
  | some e => (opN u (nI e)).isSome
  | none => false
def rdB (u : Si) (f : Nat) : Bool := (fsN (fun t => decide (q_i u 9 f t = 0) || dsB u (q_g u 0 f t)) (n_s u f)).isNone
def myB (u : Si) (f : Nat) (x : Int32) : Bool := decide (q_i u 4 f 0 = 1) && match inN (q_i u 5 f 0) (n_p u) with
  | some p => decide (¬ x = nI p ∧ ¬ (q_i u 2 p 0 >>> (x &&& 31)) &&& 1 = 1 ∧ ¬ q_i u 3 p 0 = x)
  | none => false
def d_addPerson (u : Si) (x : Int32) : Da := if x < 1 ∨ 50 < x then (-2, none) else if n_p u < 6 then (nI (n_p u), some (hireU u x)) else (-3, none)
def d_bar (u : Si) (x y z : Int32) : Da := match inN x (n_p u), inN y (n_p u) with
  | some a, some b => if a = b then (-2, none) else if brB (q_i u 2 a 0) (nI b) = z then (-5, none) else (bcN (sbr (q_i u 2 a 0) (nI b) z), some (barU u a b z))
  | _, _ => (-1, none)
def d_setShare (u : Si) (x y : Int32) : Da := match inN x 6 with
  | none => (-2, none)
  | some b => if y < 0 ∨ 100 < y then (-2, none) else if q_i u 0 0 b = y then (-5, none) else (q_i u 0 0 b, some (u_i u 0 0 b y))
def d_newFile (u : Si) : Da := if n_f u < 8 then (nI (n_f u), some (fileU u)) else (-3, none)
def d_readSegments (u : Si) (t : Nat) (tc : Nat → Int32) (x : Int32) : Da := match inN x (n_f u) with
  | none => (-1, none)
  | some f => match fltF tc t with
    | some i => (-100 - nI i, none)
    | none => if ¬ q_i u 4 f 0 = 0 then (-4, none) else if 12 < n_s u f + (sgT tc t).length then (-3, none) else (nI (n_s u f + (sgT tc t).length), some (apU u f (sgT tc t)))
def d_remember (u : Si) (t : Nat) (tc : Nat → Int32) (x : Int32) : Da := match fltF tc t with
  | some i => (-100 - nI i, none)
  | none => if ¬ tgI x ∨ 1 < (sgT tc t).length then (-2, none) else if (alN u ((sgT tc t).headD [])).isSome = true then (-4, none) else if n_e u < 40 then (nI (n_e u), some (entU u ((sgT tc t).headD []) x)) else (-3, none)
def d_swapFiles (u : Si) (x y : Int32) : Da := match inN x (n_f u), inN y (n_f u) with
  | some f, some o => if f = o then (-5, none) else (nI (plN u o), some (swpU u (plN u f) (plN u o) f o))
  | _, _ => (-1, none)
def d_withdraw (u : Si) (x : Int32) : Da := match inN x (n_f u) with
  | none => (-1, none)
  | some f => if ¬ iH u f then (-4, none) else (nI (n_s u f) - y_f u 0 f, some (withU u f))
def d_take (u : Si) (x y : Int32) : Da := match inN x (n_f u), inN y (n_p u) with
  | some f, some p => if ¬ q_i u 4 f 0 = 0 ∨ n_s u f = 0 then (-4, none) else (prc u f (q_i u 1 p 0), some (takeU u f p))
  | _, _ => (-1, none)
def d_translate (u : Si) (x y t : Int32) : Da := match inN x (n_f u) with
  | none => (-1, none)
  | some f => match inN y (n_s u f) with
    | none => (-1, none)
    | some s => if ¬ tgI t then (-2, none) else if ¬ q_i u 4 f 0 = 1 ∨ stOb u (q_g u 0 f s) t = true then (-4, none) else if rmB u (q_g u 0 f s) t = false then (-3, none) else if q_i u 9 f s = t then (-5, none) else (1 + trnC u f s t, some (trnU u f s t))
def d_review (u : Si) (x y : Int32) : Da := match inN x (n_f u), inN y (n_p u) with
  | some f, some p => if myB u f (nI p) = true ∧ rdB u f = true then (y_f u 1 f, some (revU u f (q_i u 5 f 0).toNatClampNeg (nI p))) else (-4, none)
  | _, _ => (-1, none)
def d_reject (u : Si) (x y : Int32) : Da := match inN x (n_f u) with
  | none => (-1, none)
  | some f => match inN y (n_s u f) with
    | none => (-1, none)
    | some s => if ¬ q_i u 4 f 0 = 2 then (-4, none) else (q_i u 8 f 0 + 1, some (rejU u f s))
def d_deliver (u : Si) (x : Int32) : Da := match inN x (n_f u) with
  | none => (-1, none)
  | some f => if ¬ q_i u 4 f 0 = 2 then (-4, none) else (k_f (delU u f) f, some (delU u f))
def d_settle (u : Si) (x y : Int32) : Da := match inN x (n_d u) with
  | none => (-1, none)
  | some d => if ¬ y = 0 ∧ ¬ y = 1 then (-2, none) else if ¬ q_i u 16 d 0 = 0 then (-4, none) else (decC u d (q_i u 13 d 0).toNatClampNeg y, some (decU u d (q_i u 13 d 0).toNatClampNeg y))
def acX (x : Xs) (o : Option Si) : Xs := match o with
  | none => x
  | some u => (u, (pushX x).2)
theorem pushX_u (x : Xs) : x_u (pushX x) = x_u x := by
  unfold pushX
  split <;> rfl
theorem pushX_f (x : Xs) : (pushX x).2.2 = x.2.2 := by
  unfold pushX
  split <;> rfl
theorem Tx.nw {M M2 : Me} (h : Tx M M2) (nw : Nw M) : Nw M2 := fun a ha => by
  rw [h.1]
  exact nw a (by rw [← h.2]; exact ha)
theorem Tx.kt {M M2 : Me} (h : Tx M M2) : Kt M M2 := fun a _ => h.2 a
theorem BR.pushed {M : Me} {h n : Nat} {x : Xs} (b : BR M h n (pushX x)) : CR M (n + 7) (x_u x) := by
  have := b.2.1
  rw [pushX_u] at this
  exact this
/-- the state after an act -/
theorem BR.act {M M2 : Me} {h n : Nat} {x : Xs} {u : Si} (b : BR M h n (pushX x)) (nw : Nw M) (hW : Wt M) (r : Rg M M2 (n + 7)) (hu : CR M2 (n + 7) u) : BR M2 h n (acX x (some u)) := b.now nw hW r hu
def Tk (M M2 : Me) (n : Nat) : Prop := ∀ t c, TX M n t c → TX M2 n t c
theorem Tk.rf {M : Me} {n : Nat} : Tk M M n := fun _ _ q => q
theorem Tk.tr {M M2 M3 : Me} {n : Nat} (h : Tk M M2 n) (h2 : Tk M2 M3 n) : Tk M M3 n := fun t c q => h2 t c (h t c q)
theorem Rg.tk {M M2 : Me} {n S : Nat} (r : Rg M M2 S) (hn : n + 591 ≤ m_n M) (hS : n + 7 ≤ S) : Tk M M2 n := fun _ _ q => q.rg hn r hS
theorem stO_b {u : Si} {g : Sg} {t : Int32} (cu : n_e u < 2 ^ 31) : stO u g t ↔ stOb u g t = true := by
  unfold stO stOb
  cases w : alN u g with
  | none =>
    refine ⟨fun ⟨e, h1, h2, _⟩ => ?_, fun q => Bool.noConfusion q⟩
    have := h1.n
    rw [w] at this
    exact absurd this (ne5 (by omega))
  | some e =>
    refine ⟨fun ⟨e2, h1, h2, h3, h4⟩ => ?_, fun q => ?_⟩
    · have := h1.n
      rw [w] at this
      have := (nI_eq (by omega) (by have := alN_i w; omega)).mp this
      subst this
      exact decide_eq_true ⟨h3, h4⟩
    · have := of_decide_eq_true q
      have a := alN_a (u := u) (g := g)
      rw [w] at a
      exact ⟨e, a, alN_i w, this.1, this.2⟩
theorem dsp_b {u : Si} {g : Sg} (cu : n_e u < 2 ^ 31) (cd : n_d u < 2 ^ 31) : dsp u g ↔ dsB u g = true := by
  unfold dsp dsB
  cases w : alN u g with
  | none =>
    refine ⟨fun ⟨e, d, h1, h2, _⟩ => ?_, fun q => Bool.noConfusion q⟩
    have := h1.n
    rw [w] at this
    exact absurd this (ne5 (by omega))
  | some e =>
    have he := alN_i w
    refine ⟨fun ⟨e2, d, h1, h2, h3, h4⟩ => ?_, fun q => ?_⟩
    · have := h1.n
      rw [w] at this
      have := (nI_eq (by omega) (by omega)).mp this
      subst this
      show (opN u (nI e2)).isSome = true
      rcases h3.c with ⟨d2, z, -⟩ | ⟨-, z⟩
      · rw [z]; rfl
      · exact absurd z (ne5 (by omega))
    · have a := alN_a (u := u) (g := g)
      rw [w] at a
      cases z : opN u (nI e) with
      | none =>
        have q2 : (opN u (nI e)).isSome = true := q
        rw [z] at q2; cases q2
      | some d =>
        have b := opN_a (u := u) (x := nI e)
        rw [z] at b
        exact ⟨e, d, a, he, b, opN_i z⟩
theorem rdy_b {u : Si} {f : Nat} (cu : n_e u < 2 ^ 31) (cd : n_d u < 2 ^ 31) : rdy u f ↔ rdB u f = true := by
  unfold rdy rdB
  rcases fsN_p (p := fun t => decide (q_i u 9 f t = 0) || dsB u (q_g u 0 f t)) (n_s u f) with ⟨e, h1, h2, h3, h4⟩ | ⟨h1, h2⟩
  · rw [h1]
    refine ⟨fun h => ?_, fun q => Bool.noConfusion q⟩
    rcases Bool.or_eq_true_iff.mp h3 with z | z
    · exact absurd (of_decide_eq_true z) (h e h2).1
    · exact absurd ((dsp_b cu cd).mpr z) (h e h2).2
  · rw [h1]
    refine ⟨fun _ => rfl, fun _ t ht => ⟨fun z => h2 t ht (Bool.or_eq_true_iff.mpr (Or.inl (decide_eq_true z))), fun z => h2 t ht (Bool.or_eq_true_iff.mpr (Or.inr ((dsp_b cu cd).mp z)))⟩⟩
theorem myR_b {u : Si} {f : Nat} {x : Int32} (cu : n_p u < 2 ^ 31) : myR u f x ↔ myB u f x = true := by
  unfold myR myB
  refine ⟨fun ⟨p, h1, h2, h3, h4, h5, h6⟩ => ?_, fun q => ?_⟩
  · rw [h2, h3, inN_s h1 cu]
    exact Bool.and_eq_true_iff.mpr ⟨rfl, decide_eq_true ⟨h4, h5, h6⟩⟩
  · obtain ⟨q1, q2⟩ := Bool.and_eq_true_iff.mp q
    cases w : inN (q_i u 5 f 0) (n_p u) with
    | none => rw [w] at q2; cases q2
    | some p =>
      rw [w] at q2
      obtain ⟨a1, a2, a3⟩ := of_decide_eq_true q2
      obtain ⟨b1, b2⟩ := inN_i w cu
      exact ⟨p, b1, of_decide_eq_true q1, b2, a1, a2, a3⟩
theorem room_b {u : Si} {g : Sg} {t : Int32} (cu : n_e u < 2 ^ 31) (cd : n_d u < 2 ^ 31) : roomF u g t ↔ rmB u g t = true := by
  unfold roomF rmB
  have a := alN_a (u := u) (g := g)
  cases w : alN u g with
  | none =>
    rw [w] at a
    refine ⟨fun h => decide_eq_true (h.1 a), fun q => ⟨fun _ => of_decide_eq_true q, fun e h1 h2 _ => ?_⟩⟩
    exact absurd (a.uniq h1).symm (ne5 (by omega))
  | some e =>
    have he := alN_i w
    rw [w] at a
    refine ⟨fun h => ?_, fun q => ⟨fun h1 => absurd (a.uniq h1) (ne5 (by omega)), fun e2 h1 h2 h3 => ?_⟩⟩
    · by_cases z : ndB u e t = true
      · exact Bool.or_eq_true_iff.mpr (Or.inr (decide_eq_true (h.2 e a he ((nds_iff cd).mpr z))))
      · exact Bool.or_eq_true_iff.mpr (Or.inl (by simp [z]))
    · have := (nI_eq (by omega) (by omega)).mp (a.uniq h1)
      subst this
      rcases Bool.or_eq_true_iff.mp q with z | z
      · rw [(nds_iff cd).mp h3] at z; cases z
      · exact of_decide_eq_true z
