def alB (u : Si) (g : Sg) : Nat → Bool := fun e => decide (q_g u 1 e 0 = g)
def alN (u : Si) (g : Sg) : Option Nat := fsN (alB u g) (n_e u)
def opB (u : Si) (x : Int32) : Nat → Bool := fun d => decide (q_i u 13 d 0 = x ∧ q_i u 16 d 0 = 0)
def opN (u : Si) (x : Int32) : Option Nat := fsN (opB u x) (n_d u)
theorem dec_iff {p : Prop} [Decidable p] : p ↔ decide p = true := ⟨fun q => decide_eq_true q, fun q => of_decide_eq_true q⟩
theorem alE.n {u : Si} {g : Sg} {r : Int32} (h : alE u g r) : r = eN (alN u g) := Fst.fs (p := alB u g) h (fun j _ => ⟨fun q => decide_eq_true q, fun q => of_decide_eq_true q⟩)
theorem opD.n {u : Si} {x r : Int32} (h : opD u x r) : r = eN (opN u x) := Fst.fs (p := opB u x) h (fun j _ => ⟨fun q => decide_eq_true q, fun q => of_decide_eq_true q⟩)
theorem alN_i {u : Si} {g : Sg} {e : Nat} (h : alN u g = some e) : e < n_e u := (fsN_i h).1
theorem opN_i {u : Si} {x : Int32} {d : Nat} (h : opN u x = some d) : d < n_d u := (fsN_i h).1
/-- the call's answer is an entry, or none -/
theorem alE.c {u : Si} {g : Sg} {r : Int32} (h : alE u g r) : (∃ e, alN u g = some e ∧ e < n_e u ∧ r = nI e) ∨ alN u g = none ∧ r = -5 := by
  have q := h.n
  cases w : alN u g with
  | none => rw [w] at q; exact Or.inr ⟨rfl, q⟩
  | some e => rw [w] at q; exact Or.inl ⟨e, rfl, alN_i w, q⟩
theorem opD.c {u : Si} {x r : Int32} (h : opD u x r) : (∃ d, opN u x = some d ∧ d < n_d u ∧ r = nI d) ∨ opN u x = none ∧ r = -5 := by
  have q := h.n
  cases w : opN u x with
  | none => rw [w] at q; exact Or.inr ⟨rfl, q⟩
  | some d => rw [w] at q; exact Or.inl ⟨d, rfl, opN_i w, q⟩
theorem alN_a {u : Si} {g : Sg} : alE u g (eN (alN u g)) := by
  rcases fsN_p (p := alB u g) (n_e u) with ⟨e, h1, h2, h3, h4⟩ | ⟨h1, h2⟩
  · unfold alN; rw [h1]; exact Or.inl ⟨e, h2, of_decide_eq_true h3, fun j hj q => h4 j hj (decide_eq_true q), rfl⟩
  · unfold alN; rw [h1]; exact Or.inr ⟨fun j hj q => h2 j hj (decide_eq_true q), rfl⟩
theorem opN_a {u : Si} {x : Int32} : opD u x (eN (opN u x)) := by
  rcases fsN_p (p := opB u x) (n_d u) with ⟨e, h1, h2, h3, h4⟩ | ⟨h1, h2⟩
  · unfold opN; rw [h1]; exact Or.inl ⟨e, h2, of_decide_eq_true h3, fun j hj q => h4 j hj (decide_eq_true q), rfl⟩
  · unfold opN; rw [h1]; exact Or.inr ⟨fun j hj q => h2 j hj (decide_eq_true q), rfl⟩
/-- an entry wants a dispute -/
def ndB (u : Si) (e : Nat) (t : Int32) : Bool := decide (¬ q_i u 11 e 0 = t ∧ opN u (nI e) = none)
theorem nds_iff {u : Si} {e : Nat} {t : Int32} (cu : n_d u < 2 ^ 31) : nds u e t ↔ ndB u e t = true := by
  have h : opD u (nI e) (-5) ↔ opN u (nI e) = none := by
    constructor
    · intro h
      rcases h.c with ⟨d, h1, h2, h3⟩ | ⟨h1, -⟩
      · exact absurd h3.symm (ne5 (by omega))
      · exact h1
    · intro h
      have := opN_a (u := u) (x := nI e)
      rw [h] at this; exact this
  unfold nds ndB
  rw [h]
  exact dec_iff
/-- what is learned from a translation -/
def lrnU (u : Si) (g : Sg) (t : Int32) : Si := match alN u g with
  | none => entU u g t
  | some e => if ndB u e t = true then dspU u e t else u
/-! a state changed place by place, and a count of the changes -/
def fU (st : Nat → Si → Si) (v : Si) : Nat → Si
  | 0 => v
  | i + 1 => st i (fU st v i)
def fC (st : Nat → Si → Si) (ct : Nat → Si → Int32) (v : Si) : Nat → Int32
  | 0 => 0
  | i + 1 => fC st ct v i + ct i (fU st v i)
/-- all but targets and ways stays -/
def Kp (v w : Si) : Prop := w.1 = v.1 ∧ w.2.2 = v.2.2 ∧ ∀ k a j, ¬ (9 ≤ k ∧ k ≤ 10) → q_i w k a j = q_i v k a j
theorem Kp.rf {v : Si} : Kp v v := ⟨rfl, rfl, fun _ _ _ _ => rfl⟩
theorem Kp.tr {v w x : Si} (h : Kp v w) (h2 : Kp w x) : Kp v x := ⟨h2.1.trans h.1, h2.2.1.trans h.2.1, fun k a j q => (h2.2.2 k a j q).trans (h.2.2 k a j q)⟩
theorem Kp.ui {v w : Si} {k a j : Nat} {x : Int32} (h : Kp v w) (hk : 9 ≤ k ∧ k ≤ 10) : Kp v (u_i w k a j x) := h.tr ⟨rfl, rfl, fun k2 a2 j2 q => q_ik (by omega)⟩
theorem Kp.fU {st : Nat → Si → Si} {v : Si} (h : ∀ i w, Kp w (st i w)) : ∀ n, Kp v (fU st v n)
  | 0 => Kp.rf
  | n + 1 => (Kp.fU h n).tr (h n _)
theorem Kp.n {v w : Si} (h : Kp v w) (k a : Nat) : q_n w k a = q_n v k a := by unfold q_n; rw [h.1]
theorem Kp.g {v w : Si} (h : Kp v w) (k a j : Nat) : q_g w k a j = q_g v k a j := by unfold q_g; rw [h.2.1]
def stM (f i : Nat) (v : Si) : Si := if q_i v 9 f i = 0 then (match alN v (q_g v 0 f i) with
  | some e => u_i (u_i v 9 f i (q_i v 11 e 0)) 10 f i 3
  | none => v) else v
def stA (f : Nat) (g : Sg) (t : Int32) (i : Nat) (v : Si) : Si := if q_i v 9 f i = 0 ∧ q_g v 0 f i = g then u_i (u_i v 9 f i t) 10 f i 2 else v
def ctA (f : Nat) (g : Sg) (i : Nat) (v : Si) : Int32 := if q_i v 9 f i = 0 ∧ q_g v 0 f i = g then 1 else 0
def stB (f : Nat) (g : Sg) (t : Int32) (i : Nat) (v : Si) : Si := if (¬ q_i v 9 f i = 0 ∧ ¬ q_i v 9 f i = t) ∧ q_g v 0 f i = g then u_i (u_i v 9 f i t) 10 f i 4 else v
def ctB (f : Nat) (g : Sg) (t : Int32) (i : Nat) (v : Si) : Int32 := if (¬ q_i v 9 f i = 0 ∧ ¬ q_i v 9 f i = t) ∧ q_g v 0 f i = g then 1 else 0
theorem stM_kp (f i : Nat) (v : Si) : Kp v (stM f i v) := by
  unfold stM
  split
  · split
    · exact (Kp.rf.ui (by decide)).ui (by decide)
    · exact Kp.rf
  · exact Kp.rf
theorem stA_kp (f : Nat) (g : Sg) (t : Int32) (i : Nat) (v : Si) : Kp v (stA f g t i v) := by
  unfold stA
  split
  · exact (Kp.rf.ui (by decide)).ui (by decide)
  · exact Kp.rf
theorem stB_kp (f : Nat) (g : Sg) (t : Int32) (i : Nat) (v : Si) : Kp v (stB f g t i v) := by
  unfold stB
  split
  · exact (Kp.rf.ui (by decide)).ui (by decide)
  · exact Kp.rf
def stS (g : Sg) (t : Int32) (f : Nat) (v : Si) : Si := if q_i v 4 f 0 = 1 then fU (stA f g t) v (n_s v f) else v
def ctS (g : Sg) (t : Int32) (f : Nat) (v : Si) : Int32 := if q_i v 4 f 0 = 1 then fC (stA f g t) (ctA f g) v (n_s v f) else 0
def stT (g : Sg) (t : Int32) (f : Nat) (v : Si) : Si := if iH v f then fU (stB f g t) v (n_s v f) else v
def ctT (g : Sg) (t : Int32) (f : Nat) (v : Si) : Int32 := if iH v f then fC (stB f g t) (ctB f g t) v (n_s v f) else 0
theorem stS_kp (g : Sg) (t : Int32) (f : Nat) (v : Si) : Kp v (stS g t f v) := by
  unfold stS
  split
  · exact Kp.fU (stA_kp f g t) _
  · exact Kp.rf
theorem stT_kp (g : Sg) (t : Int32) (f : Nat) (v : Si) : Kp v (stT g t f v) := by
  unfold stT
  split
  · exact Kp.fU (stB_kp f g t) _
  · exact Kp.rf
def mkB (u : Si) (d e : Nat) (c : Int32) : Si := u_i (u_i (u_i u 16 d 0 c) 11 e 0 c) 12 e 0 1
def chD (u : Si) (d : Nat) (y : Int32) : Int32 := if y = 0 then q_i u 14 d 0 else q_i u 15 d 0
def decU (u : Si) (d e : Nat) (y : Int32) : Si := fU (stT (q_g u 1 e 0) (chD u d y)) (mkB u d e (chD u d y)) (n_f u)
def decC (u : Si) (d e : Nat) (y : Int32) : Int32 := fC (stT (q_g u 1 e 0) (chD u d y)) (ctT (q_g u 1 e 0) (chD u d y)) (mkB u d e (chD u d y)) (n_f u)
def revU (u : Si) (f p : Nat) (x : Int32) : Si := u_i (u_i (u_i u 4 f 0 2) 6 f 0 x) 3 p 0 x
def sbr (b x z : Int32) : Int32 := if z = 0 then b &&& ((1 <<< (x &&& 31)) ^^^ (-1)) else b ||| (1 <<< (x &&& 31))
set_option maxHeartbeats 4000000 in
set_option maxRecDepth 100000 in
theorem c_X5_setBarredFrom {l : Launch} {G : Gd} {M : Me} {h : Nat} {x z : Int32} (ht : m_t M h = 6) : CQ (Qv G (fun M2 => M2 = s_i M 181 h 0 (sbr (m_i M 181 h 0) x z))) l G yX5_setBarredFrom cX5_setBarredFrom 3 (none) 0 0 0 0 [.ref h, .int x, .int z] M := by
  refine c_of ([some (.ref h), some (.int x), some (.int z)] : Lo) RX5 "setBarredFrom" (by decide) rfl rfl (Nat.le_of_ble_eq_true rfl) rfl (fun p e s m below meth c hC nw => ?_)
  refine v_iload_n hC dX5_setBarredFrom_0 rfl rfl ?_
  refine v_if_eq hC dX5_setBarredFrom_1 (tgt := 19) (by decide) (fun h1 => ?_) (fun h1 => ?_)
  · refine v_aload_n hC dX5_setBarredFrom_19 rfl rfl ?_
    refine v_dup hC dX5_setBarredFrom_20 rfl ?_
    refine gf_5_1 hC ht mw_1_105 dX5_setBarredFrom_21 ?_
    refine v_iconst (v := 1) hC dX5_setBarredFrom_24 (by decide) ?_
    refine v_iload_n hC dX5_setBarredFrom_25 rfl rfl ?_
    refine v_ishl hC dX5_setBarredFrom_26 ?_
    refine v_iconst (v := (-1)) hC dX5_setBarredFrom_27 (by decide) ?_
    refine v_ixor hC dX5_setBarredFrom_28 ?_
    refine v_iand hC dX5_setBarredFrom_29 ?_
    refine pf_5_1 hC ht mw_1_105 dX5_setBarredFrom_30 ?_
    refine v_vret hC dX5_setBarredFrom_33 ?_
    exact by first | rw [sbr, if_pos h1] | rw [sbr, if_neg h1]
  · refine v_aload_n hC dX5_setBarredFrom_4 rfl rfl ?_
    refine v_dup hC dX5_setBarredFrom_5 rfl ?_
    refine gf_5_1 hC ht mw_1_105 dX5_setBarredFrom_6 ?_
    refine v_iconst (v := 1) hC dX5_setBarredFrom_9 (by decide) ?_
    refine v_iload_n hC dX5_setBarredFrom_10 rfl rfl ?_
    refine v_ishl hC dX5_setBarredFrom_11 ?_
    refine v_ior hC dX5_setBarredFrom_12 ?_
    refine pf_5_1 hC ht mw_1_105 dX5_setBarredFrom_13 ?_
    refine v_goto hC dX5_setBarredFrom_16 (tgt := 33) (by decide) ?_
    refine v_vret hC dX5_setBarredFrom_33 ?_
    exact by first | rw [sbr, if_pos h1] | rw [sbr, if_neg h1]

set_option maxHeartbeats 4000000 in
set_option maxRecDepth 100000 in
theorem c_X4_addEntry {l : Launch} {G : Gd} {M : Me} {S g0 : Nat} {u : Si} {g : Sg} {x : Int32} (hW : Wt M) (ht : m_t M (S + 43) = 5) (hR : CR M S u) (hg : SgR M g0 g) (hn : n_e u < 40) : CQ (Qi G (fun r M2 => r = nI (n_e u) ∧ CR M2 S (entU u g x) ∧ Rg M M2 S ∧ Wt M2)) l G yX4_addEntry cX4_addEntry 3 ((some .int)) 1 22 0 0 [.ref (S + 43), .ref g0, .int x] M := by
  refine c_of ([some (.ref (S + 43)), some (.ref g0), some (.int x)] : Lo) RX4 "addEntry" (by decide) rfl rfl (Nat.le_of_ble_eq_true rfl) rfl (fun p e s m below meth c hC nw => ?_)
  have hn0 : m_i M 166 (S + 43) 0 = nI (n_e u) := hR.2.2.2.1.2.2.1
  have hE : m_t M (cA S 11 (n_e u)) = 2 := by rw [← ly_E2 hR.1 hn]; exact we_53 hW (wf_165 hW ht) (by omega)
  refine v_aload_n hC dX4_addEntry_0 rfl rfl ?_
  refine gf_4_2 hC ht mw_2_10 dX4_addEntry_1 ?_
  rw [hn0]
  refine v_bipush (v := 40) hC dX4_addEntry_4 (by decide) ?_
  refine v_icmp_lt hC dX4_addEntry_6 (tgt := 12) (by decide) (fun h6 => ?_) (fun h6 => absurd (nI_lt (a := n_e u) (b := 40) hn (by decide)) h6)
  refine v_aload_n hC dX4_addEntry_12 rfl rfl ?_
  refine gf_4_1 hC ht (wf_165 hW ht) mw_2_7 dX4_addEntry_13 ?_
  refine v_aload_n hC dX4_addEntry_16 rfl rfl ?_
  refine gf_4_2 hC ht mw_2_10 dX4_addEntry_17 ?_
  rw [hn0]
  refine v_aald 53 _ hC (wf_165 hW ht) (by decide) rfl (ix_c (wz_53 hW (wf_165 hW ht)) (by omega)) (we_53 hW (wf_165 hW ht) (by omega)) dX4_addEntry_20 ?_
  rw [ly_E2 hR.1 hn]
  refine v_aload_n hC dX4_addEntry_21 rfl rfl ?_
  refine v_iload_n hC dX4_addEntry_22 rfl rfl ?_
  refine cVv2 hC (c_X1_reset hE hg.1) yv_X1_reset rfl hE mw_3_5 ⟨Nat.le_of_ble_eq_true rfl, Nat.le_of_ble_eq_true rfl⟩ ⟨Nat.le_of_ble_eq_true rfl, Nat.le_of_ble_eq_true rfl⟩ (Nat.le_of_ble_eq_true rfl) dX4_addEntry_23 (fun M25 hq => ?_)
  subst hq
  unfold f_eR
  refine v_aload_n hC dX4_addEntry_26 rfl rfl ?_
  refine v_dup hC dX4_addEntry_27 rfl ?_
  refine gf_4_2 hC ht mw_2_10 dX4_addEntry_28 ?_
  erw [hn0]
  refine v_iconst (v := 1) hC dX4_addEntry_31 (by decide) ?_
  refine v_iadd hC dX4_addEntry_32 ?_
  rw [← nI_succ]
  refine pf_4_2 hC ht mw_2_10 dX4_addEntry_33 ?_
  refine v_aload_n hC dX4_addEntry_36 rfl rfl ?_
  refine gf_4_2 hC ht mw_2_10 dX4_addEntry_37 ?_
  rw [i_se]
  refine v_iconst (v := 1) hC dX4_addEntry_40 (by decide) ?_
  refine v_isub hC dX4_addEntry_41 ?_
  rw [nI_pred]
  refine v_iret hC dX4_addEntry_42 ?_
  have hc := cp_e hn
  have hG := (hR.pokeG (k := 1) (a := n_e u) (j := 0) (v := g) (fun q => by rcases q with q | q <;> omega)).w116 (v := g0) (e := n_e u) (Nat.le_refl _)
  have k2 := CR.wA (v := 0) 12 (n_e u) 0 (CR.wA (v := x) 11 (n_e u) 0 hG (hc 11 (by decide) (by decide)) rfl) (hc 12 (by decide) (by decide)) (A := cA S 11 (n_e u)) rfl
  refine ⟨rfl, k2.growE hn (fun k q1 q2 => ?_) ?_, ?_, hW.sg hg.1 116 (Or.inr rfl)⟩
  · show m_i _ (cK k) (cA S k (n_e u)) 0 = q_i _ k (n_e u) 0
    exact Kn.w (fun n2 => Kn.w (fun n1 => absurd n1 (by omega)) (hc k q1 q2) (hc 11 (by decide) (by decide)) rfl) (hc k q1 q2) (hc 12 (by decide) (by decide)) rfl
  · show SgR _ (m_r (s_r M 116 (cA S 11 (n_e u)) 0 g0) 116 (cA S 11 (n_e u)) 0) (q_g (u_g u 1 (n_e u) 0 g) 1 (n_e u) 0)
    rw [r_se, q_ge]
    exact ((hg.sr (Or.inr rfl)).si (by decide) (by decide)).si (by decide) (by decide)
  · have r1 := cA_r (S := S) (hc 11 (by decide) (by decide))
    exact (((Rg.rf.sr r1 (Or.inr rfl)).si r1 (by decide)).si r1 (by decide)).si ⟨by omega, by omega⟩ (by decide)
