section V9
variable {p : Program} {l : Launch} {e : Env} {R : Room} {s : State} {m : MethodId} {args : Array Value} {below : List Frame} {meth : Method} {c : Code} {nL : Nat} {G : Gd} {Q : State → Prop} {M : Me} {cells slots pc : Nat} {L : Lo} {rest : List Value} {cc : ByteArray} {own nm : String} {rt : Option FieldType}
theorem v_ist9 (hC : Cx p m c s args meth cc nL own nm rt G) {a0 a1 a2 a3 a4 a5 a6 a7 a8 a9 : Option Value} {x : Int32} (hd : decode cc pc = .ok (.istore 9, 2)) (hn : 9 < nL) (hp : c1 a8 = true := by rfl) (kk : V p l e R s m args below meth c nL G Q M cells slots (pc + 2) (a0 :: a1 :: a2 :: a3 :: a4 :: a5 :: a6 :: a7 :: a8 :: some (.int x) :: L) rest) : V p l e R s m args below meth c nL G Q M cells slots pc (a0 :: a1 :: a2 :: a3 :: a4 :: a5 :: a6 :: a7 :: a8 :: a9 :: L) (.int x :: rest) := v_istore (L := (a0 :: a1 :: a2 :: a3 :: a4 :: a5 :: a6 :: a7 :: a8 :: a9 :: L)) hC hd hn (fun w h => by have e : w = a8 := (Option.some.inj h).symm; rw [e]; exact hp) kk
theorem v_inc9 (hC : Cx p m c s args meth cc nL own nm rt G) {a0 a1 a2 a3 a4 a5 a6 a7 a8 : Option Value} {n : Int} {x v : Int32} (hd : decode cc pc = .ok (.iinc 9 n, 3)) (hv : x + Int32.ofInt n = v) (hn : 9 < nL) (hp : c1 a8 = true := by rfl) (kk : V p l e R s m args below meth c nL G Q M cells slots (pc + 3) (a0 :: a1 :: a2 :: a3 :: a4 :: a5 :: a6 :: a7 :: a8 :: some (.int v) :: L) rest) : V p l e R s m args below meth c nL G Q M cells slots pc (a0 :: a1 :: a2 :: a3 :: a4 :: a5 :: a6 :: a7 :: a8 :: some (.int x) :: L) rest := v_iinc (L := (a0 :: a1 :: a2 :: a3 :: a4 :: a5 :: a6 :: a7 :: a8 :: some (.int x) :: L)) hC hd rfl hv hn (fun w h => by have e : w = a8 := (Option.some.inj h).symm; rw [e]; exact hp) kk
end V9
theorem dt_1 {u : Si} {x y t : Int32} (c : capU u) (h : ¬ sgI u x y) : d_translate u x y t = (-1, none) := by
  have c1 := c.1
  rw [d_translate]
  by_cases w1 : rgI x (n_f u)
  · obtain ⟨f, hf, rfl⟩ := w1
    have c2 := c.2.2.2.2 f hf
    rw [inN_s hf]
    by_cases w2 : rgI y (n_s u f)
    · obtain ⟨t, ht9s, rfl⟩ := w2
      exact absurd ⟨f, t, hf, ht9s, rfl, rfl⟩ h
    · show (match inN y (n_s u f) with | none => _ | some s => _) = _
      rw [inN_o w2 (by omega)]
  · rw [inN_o w1]
theorem dt_r {u : Si} {f s0 : Nat} {t : Int32} (c : capU u) (hf : f < n_f u) (hs : s0 < n_s u f) : d_translate u (nI f) (nI s0) t = if ¬ tgI t then (-2, none) else if ¬ q_i u 4 f 0 = 1 ∨ stOb u (q_g u 0 f s0) t = true then (-4, none) else if rmB u (q_g u 0 f s0) t = false then (-3, none) else if q_i u 9 f s0 = t then (-5, none) else (1 + trnC u f s0 t, some (trnU u f s0 t)) := by
  have c1 := c.1
  have c2 := c.2.2.2.2 f hf
  rw [d_translate, inN_s hf]
  show (match inN (nI s0) (n_s u f) with | none => _ | some s => _) = _
  rw [inN_s hs (by omega)]
theorem stOb_0 {u : Si} {g : Sg} {t : Int32} (h : alN u g = none) : ¬ stOb u g t = true := by unfold stOb; rw [h]; exact Bool.false_ne_true
theorem stOb_1 {u : Si} {g : Sg} {t : Int32} {e : Nat} (h : alN u g = some e) : stOb u g t = true ↔ (¬ q_i u 12 e 0 = 0 ∧ ¬ q_i u 11 e 0 = t) := by unfold stOb; rw [h]; exact ⟨fun q => of_decide_eq_true q, fun q => decide_eq_true q⟩
theorem rmB_0 {u : Si} {g : Sg} {t : Int32} (h : alN u g = none) (h2 : n_e u < 40) : rmB u g t = true := by unfold rmB; rw [h]; exact decide_eq_true h2
theorem rmB_0f {u : Si} {g : Sg} {t : Int32} (h : alN u g = none) (h2 : n_e u = 40) : rmB u g t = false := by unfold rmB; rw [h]; exact decide_eq_false (by omega)
theorem rmB_1 {u : Si} {g : Sg} {t : Int32} {e : Nat} (h : alN u g = some e) (h2 : ¬ ndB u e t = true) : rmB u g t = true := by
  unfold rmB; rw [h]
  show (!ndB u e t || _) = true
  rw [Bool.eq_false_iff.mpr h2]; rfl
theorem rmB_2 {u : Si} {g : Sg} {t : Int32} {e : Nat} (h : alN u g = some e) (h2 : n_d u < 10) : rmB u g t = true := by
  unfold rmB; rw [h]
  exact Bool.or_eq_true_iff.mpr (Or.inr (decide_eq_true h2))
theorem rmB_2f {u : Si} {g : Sg} {t : Int32} {e : Nat} (h : alN u g = some e) (h1 : ndB u e t = true) (h2 : n_d u = 10) : rmB u g t = false := by
  unfold rmB; rw [h]
  show (!ndB u e t || decide (n_d u < 10)) = false
  rw [h1, decide_eq_false (by omega)]; rfl
theorem nd_t {u : Si} {e : Nat} {t : Int32} (h : q_i u 11 e 0 = t) : ¬ ndB u e t = true := fun q => (of_decide_eq_true q).1 h
theorem nd_o {u : Si} {e d : Nat} {t : Int32} (h : opN u (nI e) = some d) : ¬ ndB u e t = true := fun q => by
  have := (of_decide_eq_true q).2
  rw [h] at this; cases this
theorem nd_y {u : Si} {e : Nat} {t : Int32} (h : ¬ q_i u 11 e 0 = t) (h2 : opN u (nI e) = none) : ndB u e t = true := decide_eq_true ⟨h, h2⟩
theorem tr_f {a b : Bool} (h : a = true) : ¬ a = false := fun q => by rw [h] at q; cases q
set_option maxHeartbeats 4000000 in
set_option maxRecDepth 100000 in
theorem c_X11_translate {l : Launch} {G : Gd} {M : Me} {h : Nat} {x : Xs} {y z t : Int32} (hW : Wt M) (hX : AR M h x) (hz : hzU (x_u x)) (hT : WfT (x_u x)) : CQ (Qi G (fun r M2 => r = (d_translate (x_u x) y z t).1 ∧ AR M2 h (acX x (d_translate (x_u x) y z t).2) ∧ On M M2 ∧ Wt M2 ∧ Ta M M2 h)) l G yX11_translate cX11_translate 10 ((some .int)) 3 67 0 0 [.ref h, .int y, .int z, .int t] M := by
  refine c_of ([some (.ref h), some (.int y), some (.int z), some (.int t), none, none, none, none, none, none] : Lo) RX11 "translate" (by decide) rfl rfl (Nat.le_of_ble_eq_true rfl) rfl (fun p e s m below meth c hC nw => ?_)
  have ht := hX.1
  have hA := hX.2.1.1
  have u1 := hA.1.1
  have u2 := hA.1.2.1
  have u3 := hA.1.2.2.1
  have u4 := hA.1.2.2.2.1
  have hwz := wz_31 hW (wf_276 hW ht)
  have fin : ∀ (Mb M1 : Me) (f s0 : Nat), f < n_f (x_u x) → s0 < n_s (x_u x) f → y = nI f → z = nI s0 → AR Mb h (pushX x) → On M Mb → Wt Mb → Ta M Mb h → d_translate (x_u x) (nI f) (nI s0) t = (1 + trnC (x_u x) f s0 t, some (trnU (x_u x) f s0 t)) → 0 < t → Wr Mb M1 h → LA (rwM M1 h) (trV (x_u x) f s0 t) → LPd (rwM M1 h) (x_u x) → V p l e (rmk 3 67 0 0) s m ([.ref h, .int y, .int z, .int t] : List Value).toArray below meth c 10 G (MQ below (Qi G (fun r M2 => r = (d_translate (x_u x) y z t).1 ∧ AR M2 h (acX x (d_translate (x_u x) y z t).2) ∧ On M M2 ∧ Wt M2 ∧ Ta M M2 h)) ([.ref h, .int y, .int z, .int t] : List Value).toArray s 0 0 (fr_ G)) M1 0 0 254 ([some (.ref h), some (.int (nI f)), some (.int (nI s0)), some (.int t), some (.int (nI (606 + 11 * (12 * f + s0)))), none, none, none, none, none] : Lo) [] := by
    intro Mb M1 f s0 hf hs0 ey ez hX9 hOn9 hW9 hTa9 hD ht0 hwr hl hp
    subst ey
    subst ez
    have ht9 := hX9.1
    have h12f := hA.1.2.2.2.2 f hf
    have hf8 : f < 8 := by omega
    have hWf : Wt M1 := hwr.2.2.2.2.2.2 hW9
    have htf : m_t M1 h = 12 := (hwr.1.1.2.1 h).trans ht9
    have enf : n_f (trV (x_u x) f s0 t) = n_f (x_u x) := trV_n 0 0 (by decide) (by decide)
    have hff : f < n_f (trV (x_u x) f s0 t) := Nat.lt_of_lt_of_eq hf enf.symm
    have hsf : s0 < n_s (trV (x_u x) f s0 t) f := Nat.lt_of_lt_of_eq hs0 (trV_n 4 f (by decide) (by decide)).symm
    refine v_iconst (v := 1) hC dX11_translate_254 (by decide) ?_
    refine v_aload_n hC dX11_translate_255 rfl rfl ?_
    refine v_iload hC dX11_translate_256 rfl ?_
    refine cVi1 hC (c_X11_spread hWf htf hl hp u2 (trV_T hT ht0) hff hsf (trV_g f s0) trV_9 ht0) yv_X11_spread rfl htf mw_5_143 ⟨Nat.le_of_ble_eq_true rfl, Nat.le_of_ble_eq_true rfl⟩ ⟨Nat.le_of_ble_eq_true rfl, Nat.le_of_ble_eq_true rfl⟩ (Nat.le_of_ble_eq_true rfl) dX11_translate_258 (fun r258 M260 hq => ?_)
    obtain ⟨hr9, hwr9, hl9, hp9⟩ := hq
    rw [enf] at hr9 hl9
    subst hr9
    refine v_iadd hC dX11_translate_261 ?_
    refine v_iret hC dX11_translate_262 ?_
    rw [hD]
    refine ⟨rfl, Wr.end hX9 (hwr.tr hwr9) hOn9 hW9 hTa9 ⟨hl9, hp9.same PdF.tn ?_⟩⟩
    exact (Kp.n (Kp.fU (stS_kp _ _) _) 1 0).trans (trV_n 1 0 (by decide) (by decide))
  have cpy : ∀ (Mb Mn : Me) (f s0 : Nat) (r : Nat → Int64), f < n_f (x_u x) → s0 < n_s (x_u x) f → y = nI f → z = nI s0 → AR Mb h (pushX x) → On M Mb → Wt Mb → Ta M Mb h → d_translate (x_u x) (nI f) (nI s0) t = (1 + trnC (x_u x) f s0 t, some (trnU (x_u x) f s0 t)) → 0 < t → alN (x_u x) (q_g (x_u x) 0 f s0) = none → n_e (x_u x) < 40 → LA r (u_i (u_i (x_u x) 9 f s0 t) 10 f s0 1) → LPd r (x_u x) → rwM Mn h = updR (updR (updR r (166 + 11 * n_e (x_u x) + 9) t.toInt64) (166 + 11 * n_e (x_u x) + 10) 0) 2 (lN (n_e (x_u x) + 1)) → ∀ (k i : Nat) (M1 : Me), i + k = 10 → i ≤ 9 → Wr Mb M1 h → (∀ q, rwM M1 h q = if 166 + 11 * n_e (x_u x) ≤ q ∧ q < 166 + 11 * n_e (x_u x) + i then r (606 + 11 * (12 * f + s0) + (q - (166 + 11 * n_e (x_u x)))) else rwM Mn h q) → V p l e (rmk 3 67 0 0) s m ([.ref h, .int y, .int z, .int t] : List Value).toArray below meth c 10 G (MQ below (Qi G (fun r M2 => r = (d_translate (x_u x) y z t).1 ∧ AR M2 h (acX x (d_translate (x_u x) y z t).2) ∧ On M M2 ∧ Wt M2 ∧ Ta M M2 h)) ([.ref h, .int y, .int z, .int t] : List Value).toArray s 0 0 (fr_ G)) M1 0 0 205 ([some (.ref h), some (.int (nI f)), some (.int (nI s0)), some (.int t), some (.int (nI (606 + 11 * (12 * f + s0)))), some (.int (-5)), some (.int 0), some (.int 0), some (.int (nI (n_e (x_u x)))), some (.int (nI i))] : Lo) [] := by
    intro Mb Mn f s0 r hf hs0 ey ez hX9 hOn9 hW9 hTa9 hD ht0 a1 hne hlr hpr hrn k
    subst ey
    subst ez
    have ht9 := hX9.1
    have h12f := hA.1.2.2.2.2 f hf
    have hf8 : f < 8 := by omega
    induction k with
    | zero => intro i M1 w1 w2; omega
    | succ k ih =>
      intro i M1 w1 w2 hwr hr
      have hW1 : Wt M1 := hwr.2.2.2.2.2.2 hW9
      have ht1 : m_t M1 h = 12 := (hwr.1.1.2.1 h).trans ht9
      have hwz1 := wz_31 hW1 (wf_276 hW1 ht1)
      refine v_iload hC dX11_translate_205 rfl ?_
      refine v_bipush (v := 9) hC dX11_translate_207 (by decide) ?_
      refine v_icmp_ge hC dX11_translate_209 (tgt := 242) (by decide) (fun h209 => ?_) (fun h209 => ?_)
      · have hi := lp_ge (N := 9) h209
        refine v_iload hC dX11_translate_242 rfl ?_
        refine v_if_eq hC dX11_translate_244 (tgt := 254) (by decide) (fun _ => ?_) (fun hx => absurd hx (by decide))
        refine v_drop 5 ?_
        refine v_drop 6 ?_
        refine v_drop 7 ?_
        refine v_drop 8 ?_
        refine v_drop 9 ?_
        have hi9 : i = 9 := by omega
        subst hi9
        have he9 : ∀ q, rwM M1 h q = if 166 + 11 * n_e (x_u x) ≤ q ∧ q < 166 + 11 * n_e (x_u x) + 9 then r (606 + 11 * (12 * f + s0) + (q - (166 + 11 * n_e (x_u x)))) else updR (updR (updR r (166 + 11 * n_e (x_u x) + 9) t.toInt64) (166 + 11 * n_e (x_u x) + 10) 0) 2 (lN (n_e (x_u x) + 1)) q := fun q => by
          have := hr q
          rw [hrn] at this
          exact this
        exact fin Mb M1 f s0 hf hs0 rfl rfl hX9 hOn9 hW9 hTa9 hD ht0 hwr (by
          rw [show (trV (x_u x) f s0 t) = entU (u_i (u_i (x_u x) 9 f s0 t) 10 f s0 1) (q_g (x_u x) 0 f s0) t from lrn_0 (v := (u_i (u_i (x_u x) 9 f s0 t) 10 f s0 1)) a1]
          exact hlr.ent (W := fun i => r (606 + 11 * (12 * f + s0) + i)) (g := (q_g (x_u x) 0 f s0)) (t := t) hne (hlr.sg (show f < n_f (u_i (u_i (x_u x) 9 f s0 t) 10 f s0 1) from hf) (show s0 < n_s (u_i (u_i (x_u x) 9 f s0 t) 10 f s0 1) f from hs0)) he9) (hpr.ent (v := (u_i (u_i (x_u x) 9 f s0 t) 10 f s0 1)) (t := t) (W := fun i => r (606 + 11 * (12 * f + s0) + i)) u2 he9)
      · have hi := lp_lt (N := 9) h209
        refine v_aload_n hC dX11_translate_212 rfl rfl ?_
        refine gf_11_0 hC ht1 (wf_276 hW1 ht1) mw_4_120 dX11_translate_213 ?_
        refine v_aload_n hC dX11_translate_216 rfl rfl ?_
        refine v_iload hC dX11_translate_217 rfl ?_
        refine cVi1 hC (c_X11_entryAt ht1) yv_X11_entryAt rfl ht1 mw_5_35 ⟨Nat.le_of_ble_eq_true rfl, Nat.le_of_ble_eq_true rfl⟩ ⟨Nat.le_of_ble_eq_true rfl, Nat.le_of_ble_eq_true rfl⟩ (Nat.le_of_ble_eq_true rfl) dX11_translate_219 (fun r219 M221 hq => ?_)
        obtain ⟨rfl, hm⟩ := hq
        have hm2 := hm.symm
        clear hm
        subst hm2
        refine v_iload hC dX11_translate_222 rfl ?_
        refine v_iadd hC dX11_translate_224 ?_
        rw [nI_add]
        refine v_aload_n hC dX11_translate_225 rfl rfl ?_
        refine gf_11_0 hC ht1 (wf_276 hW1 ht1) mw_4_120 dX11_translate_226 ?_
        refine v_iload hC dX11_translate_229 rfl ?_
        refine v_iload hC dX11_translate_231 rfl ?_
        refine v_iadd hC dX11_translate_233 ?_
        rw [nI_add]
        refine v_lald 31 hC (wf_276 hW1 ht1) (by decide) (by decide) (ix_c hwz1 (by omega)) dX11_translate_234 ?_
        rw [show m_l M1 31 (m_r M1 276 h 0) (606 + 11 * (12 * f + s0) + i) = r (606 + 11 * (12 * f + s0) + i) from by
          show rwM M1 h (606 + 11 * (12 * f + s0) + i) = _
          rw [hr, if_neg (by omega), hrn, updR_n (by omega), updR_n (by omega), updR_n (by omega)]]
        refine v_last 31 hC (wf_276 hW1 ht1) (by decide) (by decide) (ix_c hwz1 (by omega)) dX11_translate_235 ?_
        refine v_inc9 hC dX11_translate_236 ((nI_succ i).symm) (by decide) (kk := ?_)
        refine v_goto hC dX11_translate_239 (tgt := 205) (by decide) ?_
        refine ih (i + 1) _ (by omega) (by omega) hwr.sl (fun q => ?_)
        rw [show rwM (s_l M1 31 (m_r M1 276 h 0) (166 + 11 * n_e (x_u x) + i) (r (606 + 11 * (12 * f + s0) + i))) h q = updR (rwM M1 h) (166 + 11 * n_e (x_u x) + i) (r (606 + 11 * (12 * f + s0) + i)) q from congrFun rwM_w q]
        by_cases w : q = 166 + 11 * n_e (x_u x) + i
        · rw [w, updR_e, if_pos (by omega), show 166 + 11 * n_e (x_u x) + i - (166 + 11 * n_e (x_u x)) = i by omega]
        · rw [updR_n w, hr q]
          by_cases w2 : 166 + 11 * n_e (x_u x) ≤ q ∧ q < 166 + 11 * n_e (x_u x) + i
          · rw [if_pos w2, if_pos (by omega)]
          · rw [if_neg w2, if_neg (by omega)]
  refine v_aload_n hC dX11_translate_0 rfl rfl ?_
  refine v_iload_n hC dX11_translate_1 rfl rfl ?_
  refine v_iload_n hC dX11_translate_2 rfl rfl ?_
  refine cVi2 hC (c_X11_noSegment hW ht hA) yv_X11_noSegment rfl ht mw_5_123 ⟨Nat.le_of_ble_eq_true rfl, Nat.le_of_ble_eq_true rfl⟩ ⟨Nat.le_of_ble_eq_true rfl, Nat.le_of_ble_eq_true rfl⟩ (Nat.le_of_ble_eq_true rfl) dX11_translate_3 (fun r3 M5 hq => ?_)
  obtain ⟨hm, hq2⟩ := hq
  have hm2 := hm.symm
  clear hm
  subst hm2
  obtain ⟨g3, rfl⟩ | ⟨g3, rfl⟩ := hq2
  · refine v_if_eq hC dX11_translate_6 (tgt := 11) (by decide) (fun _ => ?_) (fun hx => absurd hx (by decide))
    obtain ⟨f, s0, hf, hs0, rfl, rfl⟩ := g3
    have h12f := hA.1.2.2.2.2 f hf
    refine v_iload_n hC dX11_translate_11 rfl rfl ?_
    refine v_iconst (v := 1) hC dX11_translate_12 (by decide) ?_
    refine v_sipush (v := 999) hC dX11_translate_13 (by decide) ?_
    refine cSi3 hC (c_X11_in ) ys_X11_in mw_4_181 ⟨Nat.le_of_ble_eq_true rfl, Nat.le_of_ble_eq_true rfl⟩ ⟨Nat.le_of_ble_eq_true rfl, Nat.le_of_ble_eq_true rfl⟩ (Nat.le_of_ble_eq_true rfl) dX11_translate_16 (fun r16 M18 hq => ?_)
    obtain ⟨hm, hq2⟩ := hq
    have hm2 := hm.symm
    clear hm
    subst hm2
    obtain ⟨g16, rfl⟩ | ⟨g16, rfl⟩ := hq2
    · refine v_if_ne hC dX11_translate_19 (tgt := 25) (by decide) (fun _ => ?_) (fun hx => absurd hx (by decide))
      refine v_aload_n hC dX11_translate_25 rfl rfl ?_
      refine v_iload_n hC dX11_translate_26 rfl rfl ?_
      refine v_iload_n hC dX11_translate_27 rfl rfl ?_
      refine cVi2 hC (c_X11_segmentAt ht) yv_X11_segmentAt rfl ht mw_5_19 ⟨Nat.le_of_ble_eq_true rfl, Nat.le_of_ble_eq_true rfl⟩ ⟨Nat.le_of_ble_eq_true rfl, Nat.le_of_ble_eq_true rfl⟩ (Nat.le_of_ble_eq_true rfl) dX11_translate_28 (fun r28 M30 hq => ?_)
      obtain ⟨rfl, hm⟩ := hq
      have hm2 := hm.symm
      clear hm
      subst hm2
      refine v_ist4 hC dX11_translate_31 (by decide) (kk := ?_)
      refine v_aload_n hC dX11_translate_33 rfl rfl ?_
      refine v_iload hC dX11_translate_34 rfl ?_
      refine cVi1 hC (c_X11_entryLike hW ht hA (hA.sg hf hs0) (by omega)) yv_X11_entryLike rfl ht mw_5_111 ⟨Nat.le_of_ble_eq_true rfl, Nat.le_of_ble_eq_true rfl⟩ ⟨Nat.le_of_ble_eq_true rfl, Nat.le_of_ble_eq_true rfl⟩ (Nat.le_of_ble_eq_true rfl) dX11_translate_36 (fun r36 M38 hq => ?_)
      obtain ⟨hr36, hm⟩ := hq
      have hm2 := hm.symm
      clear hm
      subst hm2
      refine v_ist5 hC dX11_translate_39 (by decide) (kk := ?_)
      rcases alN_c hr36 with ⟨e1, a1, a2, rfl⟩ | ⟨a1, rfl⟩
      · refine v_iload hC dX11_translate_41 rfl ?_
        refine v_if_lt hC dX11_translate_43 (tgt := 70) (by decide) (fun h43 => absurd h43 (nI_n0 (by omega))) (fun h43 => ?_)
        refine v_aload_n hC dX11_translate_46 rfl rfl ?_
        refine gf_11_0 hC ht (wf_276 hW ht) mw_4_120 dX11_translate_47 ?_
        refine v_aload_n hC dX11_translate_50 rfl rfl ?_
        refine v_iload hC dX11_translate_51 rfl ?_
        refine cVi1 hC (c_X11_entryAt ht) yv_X11_entryAt rfl ht mw_5_35 ⟨Nat.le_of_ble_eq_true rfl, Nat.le_of_ble_eq_true rfl⟩ ⟨Nat.le_of_ble_eq_true rfl, Nat.le_of_ble_eq_true rfl⟩ (Nat.le_of_ble_eq_true rfl) dX11_translate_53 (fun r53 M55 hq => ?_)
        obtain ⟨rfl, hm⟩ := hq
        have hm2 := hm.symm
        clear hm
        subst hm2
        refine v_bipush (v := 9) hC dX11_translate_56 (by decide) ?_
        refine v_iadd hC dX11_translate_58 ?_
        rw [show nI (166 + 11 * e1) + 9 = nI (166 + 11 * e1 + 9) from nI_add _ 9]
        refine v_lald 31 hC (wf_276 hW ht) (by decide) (by decide) (ix_c hwz (by omega)) dX11_translate_59 ?_
        rw [show m_l M 31 (m_r M 276 h 0) (166 + 11 * e1 + 9) = _ from (hA.e2 a2).1]
        refine v_iload_n hC dX11_translate_60 rfl rfl ?_
        refine v_i2l hC dX11_translate_61 ?_
        refine v_lcmp hC dX11_translate_62 ?_
        refine v_if_eq hC dX11_translate_63 (tgt := 70) (by decide) (fun h63 => ?_) (fun h63 => ?_)
        · have h63 : q_i (x_u x) 11 e1 0 = t := toInt64_inj ((lg_cmp_eq _ _).mp h63)
          refine v_iconst (v := 0) hC dX11_translate_70 (by decide) ?_
          refine v_ist6 hC dX11_translate_71 (by decide) (kk := ?_)
          refine v_aload_n hC dX11_translate_73 rfl rfl ?_
          refine v_iload_n hC dX11_translate_74 rfl rfl ?_
          refine cVi1 hC (c_X11_state hW ht hA hf) yv_X11_state rfl ht mw_5_11 ⟨Nat.le_of_ble_eq_true rfl, Nat.le_of_ble_eq_true rfl⟩ ⟨Nat.le_of_ble_eq_true rfl, Nat.le_of_ble_eq_true rfl⟩ (Nat.le_of_ble_eq_true rfl) dX11_translate_75 (fun r75 M77 hq => ?_)
          obtain ⟨rfl, hm⟩ := hq
          have hm2 := hm.symm
          clear hm
          subst hm2
          refine v_iconst (v := 1) hC dX11_translate_78 (by decide) ?_
          refine v_icmp_ne hC dX11_translate_79 (tgt := 96) (by decide) (fun h79 => ?_) (fun h79 => ?_)
          · refine v_bipush (v := (-4)) hC dX11_translate_96 (by decide) ?_
            refine v_iret hC dX11_translate_98 ?_
            first
              | (have hD : d_translate (x_u x) (nI f) (nI s0) t = (-4, none) := by rw [dt_r hA.1 hf hs0, if_neg (fun q => q g16)]; exact if_pos (Or.inl h79)
                 rw [hD]; exact ⟨rfl, hX, On.rf, hW, Ta.rf⟩)
              | (have hD : d_translate (x_u x) (nI f) (nI s0) t = (-4, none) := by rw [dt_r hA.1 hf hs0, if_neg (fun q => q g16)]; exact if_pos (Or.inr ((stOb_1 a1).mpr ⟨g90, h63⟩))
                 rw [hD]; exact ⟨rfl, hX, On.rf, hW, Ta.rf⟩)
          · refine v_iload hC dX11_translate_82 rfl ?_
            refine v_if_eq hC dX11_translate_84 (tgt := 99) (by decide) (fun _ => ?_) (fun hx => absurd hx (by decide))
            refine v_iload hC dX11_translate_99 rfl ?_
            refine v_if_eq hC dX11_translate_101 (tgt := 117) (by decide) (fun _ => ?_) (fun hx => absurd hx (by decide))
            refine v_iconst (v := 0) hC dX11_translate_117 (by decide) ?_
            refine v_ist7 hC dX11_translate_118 (by decide) (kk := ?_)
            refine v_iload hC dX11_translate_120 rfl ?_
            refine v_if_ge hC dX11_translate_122 (tgt := 138) (by decide) (fun h122 => ?_) (fun h122 => absurd (nI_le (a := 0) (Nat.zero_le e1) (by omega)) h122)
            refine v_iload hC dX11_translate_138 rfl ?_
            refine v_if_eq hC dX11_translate_140 (tgt := 159) (by decide) (fun _ => ?_) (fun hx => absurd hx (by decide))
            have hnS : ¬ stOb (x_u x) (q_g (x_u x) 0 f s0) t = true := by first | exact stOb_0 a1 | exact fun q => ((stOb_1 a1).mp q).2 h63 | exact fun q => g90 ((stOb_1 a1).mp q).1
            have hrm : rmB (x_u x) (q_g (x_u x) 0 f s0) t = true := by first | exact rmB_0 a1 h135 | exact rmB_1 a1 (nd_t h63) | exact rmB_1 a1 (nd_o b1) | exact rmB_2 a1 h153
            refine v_aload_n hC dX11_translate_159 rfl rfl ?_
            refine gf_11_0 hC ht (wf_276 hW ht) mw_4_120 dX11_translate_160 ?_
            refine v_iload hC dX11_translate_163 rfl ?_
            refine v_bipush (v := 9) hC dX11_translate_165 (by decide) ?_
            refine v_iadd hC dX11_translate_167 ?_
            rw [show nI (606 + 11 * (12 * f + s0)) + 9 = nI (606 + 11 * (12 * f + s0) + 9) from nI_add _ 9]
            refine v_lald 31 hC (wf_276 hW ht) (by decide) (by decide) (ix_c hwz (by omega)) dX11_translate_168 ?_
            rw [show m_l M 31 (m_r M 276 h 0) (606 + 11 * (12 * f + s0) + 9) = _ from (hA.s2 hf hs0).1]
            refine v_iload_n hC dX11_translate_169 rfl rfl ?_
            refine v_i2l hC dX11_translate_170 ?_
            refine v_lcmp hC dX11_translate_171 ?_
            refine v_if_ne hC dX11_translate_172 (tgt := 178) (by decide) (fun h172 => ?_) (fun h172 => ?_)
            · have h172 : ¬ q_i (x_u x) 9 f s0 = t := fun q => h172 ((lg_cmp_eq _ _).mpr (by
                have ht0 : 0 < t := tg_pos g16
                rw [q]
                exact if_neg (fun w => by have w2 := w.2; rw [w2] at ht0; exact absurd ht0 (by decide))))
              have ht0 : 0 < t := tg_pos g16
              have hD : d_translate (x_u x) (nI f) (nI s0) t = (1 + trnC (x_u x) f s0 t, some (trnU (x_u x) f s0 t)) := by rw [dt_r hA.1 hf hs0, if_neg (fun q => q g16), if_neg (fun q => q.elim (fun w => w h79) hnS), if_neg (tr_f (b := true) hrm), if_neg h172]
              refine v_aload_n hC dX11_translate_178 rfl rfl ?_
              refine cVv0 hC (c_X11_record hW hX) yv_X11_record rfl ht mw_4_173 ⟨Nat.le_of_ble_eq_true rfl, Nat.le_of_ble_eq_true rfl⟩ ⟨Nat.le_of_ble_eq_true rfl, Nat.le_of_ble_eq_true rfl⟩ (Nat.le_of_ble_eq_true rfl) dX11_translate_179 (fun M181 hq => ?_)
              obtain ⟨hX9, hOn9, hW9, hTa9⟩ := hq
              have ht9 := hX9.1
              have hL9 := hX9.pu
              have hwz9 := wz_31 hW9 (wf_276 hW9 ht9)
              refine v_aload_n hC dX11_translate_182 rfl rfl ?_
              refine v_iload hC dX11_translate_183 rfl ?_
              refine v_iload_n hC dX11_translate_185 rfl rfl ?_
              refine v_iconst (v := 1) hC dX11_translate_186 (by decide) ?_
              refine cVv3 hC (c_X11_give hW9 ht9 (by omega)) yv_X11_give rfl ht9 mw_5_115 ⟨Nat.le_of_ble_eq_true rfl, Nat.le_of_ble_eq_true rfl⟩ ⟨Nat.le_of_ble_eq_true rfl, Nat.le_of_ble_eq_true rfl⟩ (Nat.le_of_ble_eq_true rfl) dX11_translate_187 (fun M189 hq => ?_)
              subst hq
              have hf8 : f < 8 := by omega
              have hWg : Wt (s_l (s_l M181 31 (m_r M181 276 h 0) (606 + 11 * (12 * f + s0) + 9) t.toInt64) 31 (m_r (s_l M181 31 (m_r M181 276 h 0) (606 + 11 * (12 * f + s0) + 9) t.toInt64) 276 h 0) (606 + 11 * (12 * f + s0) + 10) (1 : Int32).toInt64) := hW9
              have htg : m_t (s_l (s_l M181 31 (m_r M181 276 h 0) (606 + 11 * (12 * f + s0) + 9) t.toInt64) 31 (m_r (s_l M181 31 (m_r M181 276 h 0) (606 + 11 * (12 * f + s0) + 9) t.toInt64) 276 h 0) (606 + 11 * (12 * f + s0) + 10) (1 : Int32).toInt64) h = 12 := ht9
              have hlg : LA (rwM (s_l (s_l M181 31 (m_r M181 276 h 0) (606 + 11 * (12 * f + s0) + 9) t.toInt64) 31 (m_r (s_l M181 31 (m_r M181 276 h 0) (606 + 11 * (12 * f + s0) + 9) t.toInt64) 276 h 0) (606 + 11 * (12 * f + s0) + 10) (1 : Int32).toInt64) h) (u_i (u_i (x_u x) 9 f s0 t) 10 f s0 1) := by rw [rwM_w, rwM_w]; exact hL9.1.give hf8 (by omega) (fun q => by rw [q] at ht0; exact absurd ht0 (by decide))
              have hpg : LPd (rwM (s_l (s_l M181 31 (m_r M181 276 h 0) (606 + 11 * (12 * f + s0) + 9) t.toInt64) 31 (m_r (s_l M181 31 (m_r M181 276 h 0) (606 + 11 * (12 * f + s0) + 9) t.toInt64) 276 h 0) (606 + 11 * (12 * f + s0) + 10) (1 : Int32).toInt64) h) (x_u x) := by rw [rwM_w, rwM_w]; exact hL9.2.give u2 hf8 (by omega)
              have hwg : Wr M181 (s_l (s_l M181 31 (m_r M181 276 h 0) (606 + 11 * (12 * f + s0) + 9) t.toInt64) 31 (m_r (s_l M181 31 (m_r M181 276 h 0) (606 + 11 * (12 * f + s0) + 9) t.toInt64) 276 h 0) (606 + 11 * (12 * f + s0) + 10) (1 : Int32).toInt64) h := Wr.rf.sl.sl
              refine v_iload hC dX11_translate_190 rfl ?_
              refine v_if_ge hC dX11_translate_192 (tgt := 242) (by decide) (fun h192 => ?_) (fun h192 => absurd (nI_le (a := 0) (Nat.zero_le e1) (by omega)) h192)
              refine v_iload hC dX11_translate_242 rfl ?_
              refine v_if_eq hC dX11_translate_244 (tgt := 254) (by decide) (fun _ => ?_) (fun hx => absurd hx (by decide))
              refine v_drop 5 ?_
              refine v_drop 6 ?_
              refine v_drop 7 ?_
              refine v_drop 8 ?_
              refine v_drop 9 ?_
              exact fin _ _ f s0 hf hs0 rfl rfl hX9 hOn9 hW9 hTa9 hD ht0 hwg (by
                rw [show (trV (x_u x) f s0 t) = (u_i (u_i (x_u x) 9 f s0 t) 10 f s0 1) from lrn_1 (v := (u_i (u_i (x_u x) 9 f s0 t) 10 f s0 1)) a1 (by first | exact nd_t (u := (u_i (u_i (x_u x) 9 f s0 t) 10 f s0 1)) h63 | exact nd_o (u := (u_i (u_i (x_u x) 9 f s0 t) 10 f s0 1)) b1)]
                exact hlg) hpg
            · have h172 : q_i (x_u x) 9 f s0 = t := eb9_t (tg_pos g16) ((lg_cmp_eq _ _).mp h172)
              refine v_bipush (v := (-5)) hC dX11_translate_175 (by decide) ?_
              refine v_iret hC dX11_translate_177 ?_
              have hD : d_translate (x_u x) (nI f) (nI s0) t = (-5, none) := by rw [dt_r hA.1 hf hs0, if_neg (fun q => q g16), if_neg (fun q => q.elim (fun w => w h79) hnS), if_neg (tr_f (b := true) hrm)]; exact if_pos h172
              rw [hD]; exact ⟨rfl, hX, On.rf, hW, Ta.rf⟩
        · have h63 : ¬ q_i (x_u x) 11 e1 0 = t := fun q => h63 ((lg_cmp_eq _ _).mpr (by rw [q]))
          refine v_iconst (v := 1) hC dX11_translate_66 (by decide) ?_
          refine v_goto hC dX11_translate_67 (tgt := 71) (by decide) ?_
          refine v_ist6 hC dX11_translate_71 (by decide) (kk := ?_)
          refine v_aload_n hC dX11_translate_73 rfl rfl ?_
          refine v_iload_n hC dX11_translate_74 rfl rfl ?_
          refine cVi1 hC (c_X11_state hW ht hA hf) yv_X11_state rfl ht mw_5_11 ⟨Nat.le_of_ble_eq_true rfl, Nat.le_of_ble_eq_true rfl⟩ ⟨Nat.le_of_ble_eq_true rfl, Nat.le_of_ble_eq_true rfl⟩ (Nat.le_of_ble_eq_true rfl) dX11_translate_75 (fun r75 M77 hq => ?_)
          obtain ⟨rfl, hm⟩ := hq
          have hm2 := hm.symm
          clear hm
          subst hm2
          refine v_iconst (v := 1) hC dX11_translate_78 (by decide) ?_
          refine v_icmp_ne hC dX11_translate_79 (tgt := 96) (by decide) (fun h79 => ?_) (fun h79 => ?_)
          · refine v_bipush (v := (-4)) hC dX11_translate_96 (by decide) ?_
            refine v_iret hC dX11_translate_98 ?_
            first
              | (have hD : d_translate (x_u x) (nI f) (nI s0) t = (-4, none) := by rw [dt_r hA.1 hf hs0, if_neg (fun q => q g16)]; exact if_pos (Or.inl h79)
                 rw [hD]; exact ⟨rfl, hX, On.rf, hW, Ta.rf⟩)
              | (have hD : d_translate (x_u x) (nI f) (nI s0) t = (-4, none) := by rw [dt_r hA.1 hf hs0, if_neg (fun q => q g16)]; exact if_pos (Or.inr ((stOb_1 a1).mpr ⟨g90, h63⟩))
                 rw [hD]; exact ⟨rfl, hX, On.rf, hW, Ta.rf⟩)
          · refine v_iload hC dX11_translate_82 rfl ?_
            refine v_if_eq hC dX11_translate_84 (tgt := 99) (by decide) (fun hx => absurd hx (by decide)) (fun _ => ?_)
            refine v_aload_n hC dX11_translate_87 rfl rfl ?_
            refine v_iload hC dX11_translate_88 rfl ?_
            refine cVi1 hC (c_X11_isSettled hW ht hA hz a2) yv_X11_isSettled rfl ht mw_5_127 ⟨Nat.le_of_ble_eq_true rfl, Nat.le_of_ble_eq_true rfl⟩ ⟨Nat.le_of_ble_eq_true rfl, Nat.le_of_ble_eq_true rfl⟩ (Nat.le_of_ble_eq_true rfl) dX11_translate_90 (fun r90 M92 hq => ?_)
            obtain ⟨hm, hq2⟩ := hq
            have hm2 := hm.symm
            clear hm
            subst hm2
            obtain ⟨g90, rfl⟩ | ⟨g90, rfl⟩ := hq2
            · refine v_if_eq hC dX11_translate_93 (tgt := 99) (by decide) (fun hx => absurd hx (by decide)) (fun _ => ?_)
              refine v_bipush (v := (-4)) hC dX11_translate_96 (by decide) ?_
              refine v_iret hC dX11_translate_98 ?_
              first
                | (have hD : d_translate (x_u x) (nI f) (nI s0) t = (-4, none) := by rw [dt_r hA.1 hf hs0, if_neg (fun q => q g16)]; exact if_pos (Or.inl h79)
                   rw [hD]; exact ⟨rfl, hX, On.rf, hW, Ta.rf⟩)
                | (have hD : d_translate (x_u x) (nI f) (nI s0) t = (-4, none) := by rw [dt_r hA.1 hf hs0, if_neg (fun q => q g16)]; exact if_pos (Or.inr ((stOb_1 a1).mpr ⟨g90, h63⟩))
                   rw [hD]; exact ⟨rfl, hX, On.rf, hW, Ta.rf⟩)
            · refine v_if_eq hC dX11_translate_93 (tgt := 99) (by decide) (fun _ => ?_) (fun hx => absurd hx (by decide))
              refine v_iload hC dX11_translate_99 rfl ?_
              refine v_if_eq hC dX11_translate_101 (tgt := 117) (by decide) (fun hx => absurd hx (by decide)) (fun _ => ?_)
              refine v_aload_n hC dX11_translate_104 rfl rfl ?_
              refine v_iload hC dX11_translate_105 rfl ?_
              refine cVi1 hC (c_X11_openDispute hW ht hA) yv_X11_openDispute rfl ht mw_5_131 ⟨Nat.le_of_ble_eq_true rfl, Nat.le_of_ble_eq_true rfl⟩ ⟨Nat.le_of_ble_eq_true rfl, Nat.le_of_ble_eq_true rfl⟩ (Nat.le_of_ble_eq_true rfl) dX11_translate_107 (fun r107 M109 hq => ?_)
              obtain ⟨hr107, hm⟩ := hq
              have hm2 := hm.symm
              clear hm
              subst hm2
              rcases opN_c hr107 with ⟨d1, b1, b2, rfl⟩ | ⟨b1, rfl⟩
              · refine v_if_ge hC dX11_translate_110 (tgt := 117) (by decide) (fun h110 => ?_) (fun h110 => absurd (nI_le (a := 0) (Nat.zero_le d1) (by omega)) h110)
                refine v_iconst (v := 0) hC dX11_translate_117 (by decide) ?_
                refine v_ist7 hC dX11_translate_118 (by decide) (kk := ?_)
                refine v_iload hC dX11_translate_120 rfl ?_
                refine v_if_ge hC dX11_translate_122 (tgt := 138) (by decide) (fun h122 => ?_) (fun h122 => absurd (nI_le (a := 0) (Nat.zero_le e1) (by omega)) h122)
                refine v_iload hC dX11_translate_138 rfl ?_
                refine v_if_eq hC dX11_translate_140 (tgt := 159) (by decide) (fun _ => ?_) (fun hx => absurd hx (by decide))
                have hnS : ¬ stOb (x_u x) (q_g (x_u x) 0 f s0) t = true := by first | exact stOb_0 a1 | exact fun q => ((stOb_1 a1).mp q).2 h63 | exact fun q => g90 ((stOb_1 a1).mp q).1
                have hrm : rmB (x_u x) (q_g (x_u x) 0 f s0) t = true := by first | exact rmB_0 a1 h135 | exact rmB_1 a1 (nd_t h63) | exact rmB_1 a1 (nd_o b1) | exact rmB_2 a1 h153
                refine v_aload_n hC dX11_translate_159 rfl rfl ?_
                refine gf_11_0 hC ht (wf_276 hW ht) mw_4_120 dX11_translate_160 ?_
                refine v_iload hC dX11_translate_163 rfl ?_
                refine v_bipush (v := 9) hC dX11_translate_165 (by decide) ?_
                refine v_iadd hC dX11_translate_167 ?_
                rw [show nI (606 + 11 * (12 * f + s0)) + 9 = nI (606 + 11 * (12 * f + s0) + 9) from nI_add _ 9]
                refine v_lald 31 hC (wf_276 hW ht) (by decide) (by decide) (ix_c hwz (by omega)) dX11_translate_168 ?_
                rw [show m_l M 31 (m_r M 276 h 0) (606 + 11 * (12 * f + s0) + 9) = _ from (hA.s2 hf hs0).1]
                refine v_iload_n hC dX11_translate_169 rfl rfl ?_
                refine v_i2l hC dX11_translate_170 ?_
                refine v_lcmp hC dX11_translate_171 ?_
                refine v_if_ne hC dX11_translate_172 (tgt := 178) (by decide) (fun h172 => ?_) (fun h172 => ?_)
                · have h172 : ¬ q_i (x_u x) 9 f s0 = t := fun q => h172 ((lg_cmp_eq _ _).mpr (by
                    have ht0 : 0 < t := tg_pos g16
                    rw [q]
                    exact if_neg (fun w => by have w2 := w.2; rw [w2] at ht0; exact absurd ht0 (by decide))))
                  have ht0 : 0 < t := tg_pos g16
                  have hD : d_translate (x_u x) (nI f) (nI s0) t = (1 + trnC (x_u x) f s0 t, some (trnU (x_u x) f s0 t)) := by rw [dt_r hA.1 hf hs0, if_neg (fun q => q g16), if_neg (fun q => q.elim (fun w => w h79) hnS), if_neg (tr_f (b := true) hrm), if_neg h172]
                  refine v_aload_n hC dX11_translate_178 rfl rfl ?_
                  refine cVv0 hC (c_X11_record hW hX) yv_X11_record rfl ht mw_4_173 ⟨Nat.le_of_ble_eq_true rfl, Nat.le_of_ble_eq_true rfl⟩ ⟨Nat.le_of_ble_eq_true rfl, Nat.le_of_ble_eq_true rfl⟩ (Nat.le_of_ble_eq_true rfl) dX11_translate_179 (fun M181 hq => ?_)
                  obtain ⟨hX9, hOn9, hW9, hTa9⟩ := hq
                  have ht9 := hX9.1
                  have hL9 := hX9.pu
                  have hwz9 := wz_31 hW9 (wf_276 hW9 ht9)
                  refine v_aload_n hC dX11_translate_182 rfl rfl ?_
                  refine v_iload hC dX11_translate_183 rfl ?_
                  refine v_iload_n hC dX11_translate_185 rfl rfl ?_
                  refine v_iconst (v := 1) hC dX11_translate_186 (by decide) ?_
                  refine cVv3 hC (c_X11_give hW9 ht9 (by omega)) yv_X11_give rfl ht9 mw_5_115 ⟨Nat.le_of_ble_eq_true rfl, Nat.le_of_ble_eq_true rfl⟩ ⟨Nat.le_of_ble_eq_true rfl, Nat.le_of_ble_eq_true rfl⟩ (Nat.le_of_ble_eq_true rfl) dX11_translate_187 (fun M189 hq => ?_)
                  subst hq
                  have hf8 : f < 8 := by omega
                  have hWg : Wt (s_l (s_l M181 31 (m_r M181 276 h 0) (606 + 11 * (12 * f + s0) + 9) t.toInt64) 31 (m_r (s_l M181 31 (m_r M181 276 h 0) (606 + 11 * (12 * f + s0) + 9) t.toInt64) 276 h 0) (606 + 11 * (12 * f + s0) + 10) (1 : Int32).toInt64) := hW9
                  have htg : m_t (s_l (s_l M181 31 (m_r M181 276 h 0) (606 + 11 * (12 * f + s0) + 9) t.toInt64) 31 (m_r (s_l M181 31 (m_r M181 276 h 0) (606 + 11 * (12 * f + s0) + 9) t.toInt64) 276 h 0) (606 + 11 * (12 * f + s0) + 10) (1 : Int32).toInt64) h = 12 := ht9
                  have hlg : LA (rwM (s_l (s_l M181 31 (m_r M181 276 h 0) (606 + 11 * (12 * f + s0) + 9) t.toInt64) 31 (m_r (s_l M181 31 (m_r M181 276 h 0) (606 + 11 * (12 * f + s0) + 9) t.toInt64) 276 h 0) (606 + 11 * (12 * f + s0) + 10) (1 : Int32).toInt64) h) (u_i (u_i (x_u x) 9 f s0 t) 10 f s0 1) := by rw [rwM_w, rwM_w]; exact hL9.1.give hf8 (by omega) (fun q => by rw [q] at ht0; exact absurd ht0 (by decide))
                  have hpg : LPd (rwM (s_l (s_l M181 31 (m_r M181 276 h 0) (606 + 11 * (12 * f + s0) + 9) t.toInt64) 31 (m_r (s_l M181 31 (m_r M181 276 h 0) (606 + 11 * (12 * f + s0) + 9) t.toInt64) 276 h 0) (606 + 11 * (12 * f + s0) + 10) (1 : Int32).toInt64) h) (x_u x) := by rw [rwM_w, rwM_w]; exact hL9.2.give u2 hf8 (by omega)
                  have hwg : Wr M181 (s_l (s_l M181 31 (m_r M181 276 h 0) (606 + 11 * (12 * f + s0) + 9) t.toInt64) 31 (m_r (s_l M181 31 (m_r M181 276 h 0) (606 + 11 * (12 * f + s0) + 9) t.toInt64) 276 h 0) (606 + 11 * (12 * f + s0) + 10) (1 : Int32).toInt64) h := Wr.rf.sl.sl
                  refine v_iload hC dX11_translate_190 rfl ?_
                  refine v_if_ge hC dX11_translate_192 (tgt := 242) (by decide) (fun h192 => ?_) (fun h192 => absurd (nI_le (a := 0) (Nat.zero_le e1) (by omega)) h192)
                  refine v_iload hC dX11_translate_242 rfl ?_
                  refine v_if_eq hC dX11_translate_244 (tgt := 254) (by decide) (fun _ => ?_) (fun hx => absurd hx (by decide))
                  refine v_drop 5 ?_
                  refine v_drop 6 ?_
                  refine v_drop 7 ?_
                  refine v_drop 8 ?_
                  refine v_drop 9 ?_
                  exact fin _ _ f s0 hf hs0 rfl rfl hX9 hOn9 hW9 hTa9 hD ht0 hwg (by
                    rw [show (trV (x_u x) f s0 t) = (u_i (u_i (x_u x) 9 f s0 t) 10 f s0 1) from lrn_1 (v := (u_i (u_i (x_u x) 9 f s0 t) 10 f s0 1)) a1 (by first | exact nd_t (u := (u_i (u_i (x_u x) 9 f s0 t) 10 f s0 1)) h63 | exact nd_o (u := (u_i (u_i (x_u x) 9 f s0 t) 10 f s0 1)) b1)]
                    exact hlg) hpg
                · have h172 : q_i (x_u x) 9 f s0 = t := eb9_t (tg_pos g16) ((lg_cmp_eq _ _).mp h172)
                  refine v_bipush (v := (-5)) hC dX11_translate_175 (by decide) ?_
                  refine v_iret hC dX11_translate_177 ?_
                  have hD : d_translate (x_u x) (nI f) (nI s0) t = (-5, none) := by rw [dt_r hA.1 hf hs0, if_neg (fun q => q g16), if_neg (fun q => q.elim (fun w => w h79) hnS), if_neg (tr_f (b := true) hrm)]; exact if_pos h172
                  rw [hD]; exact ⟨rfl, hX, On.rf, hW, Ta.rf⟩
              · refine v_if_ge hC dX11_translate_110 (tgt := 117) (by decide) (fun hx => absurd hx (by decide)) (fun _ => ?_)
                refine v_iconst (v := 1) hC dX11_translate_113 (by decide) ?_
                refine v_goto hC dX11_translate_114 (tgt := 118) (by decide) ?_
                refine v_ist7 hC dX11_translate_118 (by decide) (kk := ?_)
                refine v_iload hC dX11_translate_120 rfl ?_
                refine v_if_ge hC dX11_translate_122 (tgt := 138) (by decide) (fun h122 => ?_) (fun h122 => absurd (nI_le (a := 0) (Nat.zero_le e1) (by omega)) h122)
                refine v_iload hC dX11_translate_138 rfl ?_
                refine v_if_eq hC dX11_translate_140 (tgt := 159) (by decide) (fun hx => absurd hx (by decide)) (fun _ => ?_)
                refine v_aload_n hC dX11_translate_143 rfl rfl ?_
                refine gf_11_0 hC ht (wf_276 hW ht) mw_4_120 dX11_translate_144 ?_
                refine v_iconst (v := 3) hC dX11_translate_147 (by decide) ?_
                refine v_lald 31 hC (wf_276 hW ht) (by decide) (by decide) (ix_q (j := 3) hwz rfl) dX11_translate_148 ?_
                rw [show m_l M 31 (m_r M 276 h 0) 3 = _ from hA.c3]
                refine v_ldc2 hC mw_4_114 dX11_translate_149 ?_
                refine v_lcmp hC dX11_translate_152 ?_
                refine v_if_ne hC dX11_translate_153 (tgt := 159) (by decide) (fun h153 => ?_) (fun h153 => ?_)
                · have h153 : n_d (x_u x) < 10 := by
                    have : ¬ n_d (x_u x) = 10 := fun q => h153 ((lg_cmp_eq _ _).mpr (show lN (n_d (x_u x)) = lN 10 from by rw [q]))
                    omega
                  have hnS : ¬ stOb (x_u x) (q_g (x_u x) 0 f s0) t = true := by first | exact stOb_0 a1 | exact fun q => ((stOb_1 a1).mp q).2 h63 | exact fun q => g90 ((stOb_1 a1).mp q).1
                  have hrm : rmB (x_u x) (q_g (x_u x) 0 f s0) t = true := by first | exact rmB_0 a1 h135 | exact rmB_1 a1 (nd_t h63) | exact rmB_1 a1 (nd_o b1) | exact rmB_2 a1 h153
                  refine v_aload_n hC dX11_translate_159 rfl rfl ?_
                  refine gf_11_0 hC ht (wf_276 hW ht) mw_4_120 dX11_translate_160 ?_
                  refine v_iload hC dX11_translate_163 rfl ?_
                  refine v_bipush (v := 9) hC dX11_translate_165 (by decide) ?_
                  refine v_iadd hC dX11_translate_167 ?_
                  rw [show nI (606 + 11 * (12 * f + s0)) + 9 = nI (606 + 11 * (12 * f + s0) + 9) from nI_add _ 9]
                  refine v_lald 31 hC (wf_276 hW ht) (by decide) (by decide) (ix_c hwz (by omega)) dX11_translate_168 ?_
                  rw [show m_l M 31 (m_r M 276 h 0) (606 + 11 * (12 * f + s0) + 9) = _ from (hA.s2 hf hs0).1]
                  refine v_iload_n hC dX11_translate_169 rfl rfl ?_
                  refine v_i2l hC dX11_translate_170 ?_
                  refine v_lcmp hC dX11_translate_171 ?_
                  refine v_if_ne hC dX11_translate_172 (tgt := 178) (by decide) (fun h172 => ?_) (fun h172 => ?_)
                  · have h172 : ¬ q_i (x_u x) 9 f s0 = t := fun q => h172 ((lg_cmp_eq _ _).mpr (by
                      have ht0 : 0 < t := tg_pos g16
                      rw [q]
                      exact if_neg (fun w => by have w2 := w.2; rw [w2] at ht0; exact absurd ht0 (by decide))))
                    have ht0 : 0 < t := tg_pos g16
                    have hD : d_translate (x_u x) (nI f) (nI s0) t = (1 + trnC (x_u x) f s0 t, some (trnU (x_u x) f s0 t)) := by rw [dt_r hA.1 hf hs0, if_neg (fun q => q g16), if_neg (fun q => q.elim (fun w => w h79) hnS), if_neg (tr_f (b := true) hrm), if_neg h172]
                    refine v_aload_n hC dX11_translate_178 rfl rfl ?_
                    refine cVv0 hC (c_X11_record hW hX) yv_X11_record rfl ht mw_4_173 ⟨Nat.le_of_ble_eq_true rfl, Nat.le_of_ble_eq_true rfl⟩ ⟨Nat.le_of_ble_eq_true rfl, Nat.le_of_ble_eq_true rfl⟩ (Nat.le_of_ble_eq_true rfl) dX11_translate_179 (fun M181 hq => ?_)
                    obtain ⟨hX9, hOn9, hW9, hTa9⟩ := hq
                    have ht9 := hX9.1
                    have hL9 := hX9.pu
                    have hwz9 := wz_31 hW9 (wf_276 hW9 ht9)
                    refine v_aload_n hC dX11_translate_182 rfl rfl ?_
                    refine v_iload hC dX11_translate_183 rfl ?_
                    refine v_iload_n hC dX11_translate_185 rfl rfl ?_
                    refine v_iconst (v := 1) hC dX11_translate_186 (by decide) ?_
                    refine cVv3 hC (c_X11_give hW9 ht9 (by omega)) yv_X11_give rfl ht9 mw_5_115 ⟨Nat.le_of_ble_eq_true rfl, Nat.le_of_ble_eq_true rfl⟩ ⟨Nat.le_of_ble_eq_true rfl, Nat.le_of_ble_eq_true rfl⟩ (Nat.le_of_ble_eq_true rfl) dX11_translate_187 (fun M189 hq => ?_)
                    subst hq
                    have hf8 : f < 8 := by omega
                    have hWg : Wt (s_l (s_l M181 31 (m_r M181 276 h 0) (606 + 11 * (12 * f + s0) + 9) t.toInt64) 31 (m_r (s_l M181 31 (m_r M181 276 h 0) (606 + 11 * (12 * f + s0) + 9) t.toInt64) 276 h 0) (606 + 11 * (12 * f + s0) + 10) (1 : Int32).toInt64) := hW9
                    have htg : m_t (s_l (s_l M181 31 (m_r M181 276 h 0) (606 + 11 * (12 * f + s0) + 9) t.toInt64) 31 (m_r (s_l M181 31 (m_r M181 276 h 0) (606 + 11 * (12 * f + s0) + 9) t.toInt64) 276 h 0) (606 + 11 * (12 * f + s0) + 10) (1 : Int32).toInt64) h = 12 := ht9
                    have hlg : LA (rwM (s_l (s_l M181 31 (m_r M181 276 h 0) (606 + 11 * (12 * f + s0) + 9) t.toInt64) 31 (m_r (s_l M181 31 (m_r M181 276 h 0) (606 + 11 * (12 * f + s0) + 9) t.toInt64) 276 h 0) (606 + 11 * (12 * f + s0) + 10) (1 : Int32).toInt64) h) (u_i (u_i (x_u x) 9 f s0 t) 10 f s0 1) := by rw [rwM_w, rwM_w]; exact hL9.1.give hf8 (by omega) (fun q => by rw [q] at ht0; exact absurd ht0 (by decide))
                    have hpg : LPd (rwM (s_l (s_l M181 31 (m_r M181 276 h 0) (606 + 11 * (12 * f + s0) + 9) t.toInt64) 31 (m_r (s_l M181 31 (m_r M181 276 h 0) (606 + 11 * (12 * f + s0) + 9) t.toInt64) 276 h 0) (606 + 11 * (12 * f + s0) + 10) (1 : Int32).toInt64) h) (x_u x) := by rw [rwM_w, rwM_w]; exact hL9.2.give u2 hf8 (by omega)
                    have hwg : Wr M181 (s_l (s_l M181 31 (m_r M181 276 h 0) (606 + 11 * (12 * f + s0) + 9) t.toInt64) 31 (m_r (s_l M181 31 (m_r M181 276 h 0) (606 + 11 * (12 * f + s0) + 9) t.toInt64) 276 h 0) (606 + 11 * (12 * f + s0) + 10) (1 : Int32).toInt64) h := Wr.rf.sl.sl
                    refine v_iload hC dX11_translate_190 rfl ?_
                    refine v_if_ge hC dX11_translate_192 (tgt := 242) (by decide) (fun h192 => ?_) (fun h192 => absurd (nI_le (a := 0) (Nat.zero_le e1) (by omega)) h192)
                    refine v_iload hC dX11_translate_242 rfl ?_
                    refine v_if_eq hC dX11_translate_244 (tgt := 254) (by decide) (fun hx => absurd hx (by decide)) (fun _ => ?_)
                    refine v_aload_n hC dX11_translate_247 rfl rfl ?_
                    refine v_iload hC dX11_translate_248 rfl ?_
                    refine v_iload_n hC dX11_translate_250 rfl rfl ?_
                    refine cVv2 hC (c_X11_newDispute hWg htg hlg h153 a2) yv_X11_newDispute rfl ht9 mw_5_139 ⟨Nat.le_of_ble_eq_true rfl, Nat.le_of_ble_eq_true rfl⟩ ⟨Nat.le_of_ble_eq_true rfl, Nat.le_of_ble_eq_true rfl⟩ (Nat.le_of_ble_eq_true rfl) dX11_translate_251 (fun M253 hq => ?_)
                    subst hq
                    refine v_drop 5 ?_
                    refine v_drop 6 ?_
                    refine v_drop 7 ?_
                    refine v_drop 8 ?_
                    refine v_drop 9 ?_
                    exact fin _ _ f s0 hf hs0 rfl rfl hX9 hOn9 hW9 hTa9 hD ht0 (by repeat (first | exact Wr.rf | refine Wr.sl ?_)) (by
                      rw [rwM_w, rwM_w, rwM_w, rwM_w, rwM_w, rwM_w, show (trV (x_u x) f s0 t) = dspU (u_i (u_i (x_u x) 9 f s0 t) 10 f s0 1) e1 t from lrn_2 (v := (u_i (u_i (x_u x) 9 f s0 t) 10 f s0 1)) a1 (nd_y h63 b1)]
                      exact hlg.dsp (w := e1) (t := t) (show n_d (u_i (u_i (x_u x) 9 f s0 t) 10 f s0 1) < 10 from h153)) (by
                      rw [rwM_w, rwM_w, rwM_w, rwM_w, rwM_w, rwM_w]
                      exact hpg.dsp u2 h153)
                  · have h172 : q_i (x_u x) 9 f s0 = t := eb9_t (tg_pos g16) ((lg_cmp_eq _ _).mp h172)
                    refine v_bipush (v := (-5)) hC dX11_translate_175 (by decide) ?_
                    refine v_iret hC dX11_translate_177 ?_
                    have hD : d_translate (x_u x) (nI f) (nI s0) t = (-5, none) := by rw [dt_r hA.1 hf hs0, if_neg (fun q => q g16), if_neg (fun q => q.elim (fun w => w h79) hnS), if_neg (tr_f (b := true) hrm)]; exact if_pos h172
                    rw [hD]; exact ⟨rfl, hX, On.rf, hW, Ta.rf⟩
                · have h153 : n_d (x_u x) = 10 := (lN_eq (b := 10) (by omega) (by omega)).mp ((lg_cmp_eq _ _).mp h153)
                  refine v_bipush (v := (-3)) hC dX11_translate_156 (by decide) ?_
                  refine v_iret hC dX11_translate_158 ?_
                  first
                    | (have hD : d_translate (x_u x) (nI f) (nI s0) t = (-3, none) := by rw [dt_r hA.1 hf hs0, if_neg (fun q => q g16), if_neg (fun q => q.elim (fun w => w h79) (stOb_0 a1))]; exact if_pos (rmB_0f a1 h135)
                       rw [hD]; exact ⟨rfl, hX, On.rf, hW, Ta.rf⟩)
                    | (have hD : d_translate (x_u x) (nI f) (nI s0) t = (-3, none) := by rw [dt_r hA.1 hf hs0, if_neg (fun q => q g16), if_neg (fun q => q.elim (fun w => w h79) (fun w => g90 ((stOb_1 a1).mp w).1))]; exact if_pos (rmB_2f a1 (nd_y h63 b1) h153)
                       rw [hD]; exact ⟨rfl, hX, On.rf, hW, Ta.rf⟩)
      · refine v_iload hC dX11_translate_41 rfl ?_
        refine v_if_lt hC dX11_translate_43 (tgt := 70) (by decide) (fun _ => ?_) (fun hx => absurd hx (by decide))
        refine v_iconst (v := 0) hC dX11_translate_70 (by decide) ?_
        refine v_ist6 hC dX11_translate_71 (by decide) (kk := ?_)
        refine v_aload_n hC dX11_translate_73 rfl rfl ?_
        refine v_iload_n hC dX11_translate_74 rfl rfl ?_
        refine cVi1 hC (c_X11_state hW ht hA hf) yv_X11_state rfl ht mw_5_11 ⟨Nat.le_of_ble_eq_true rfl, Nat.le_of_ble_eq_true rfl⟩ ⟨Nat.le_of_ble_eq_true rfl, Nat.le_of_ble_eq_true rfl⟩ (Nat.le_of_ble_eq_true rfl) dX11_translate_75 (fun r75 M77 hq => ?_)
        obtain ⟨rfl, hm⟩ := hq
        have hm2 := hm.symm
        clear hm
        subst hm2
        refine v_iconst (v := 1) hC dX11_translate_78 (by decide) ?_
        refine v_icmp_ne hC dX11_translate_79 (tgt := 96) (by decide) (fun h79 => ?_) (fun h79 => ?_)
        · refine v_bipush (v := (-4)) hC dX11_translate_96 (by decide) ?_
          refine v_iret hC dX11_translate_98 ?_
          first
            | (have hD : d_translate (x_u x) (nI f) (nI s0) t = (-4, none) := by rw [dt_r hA.1 hf hs0, if_neg (fun q => q g16)]; exact if_pos (Or.inl h79)
               rw [hD]; exact ⟨rfl, hX, On.rf, hW, Ta.rf⟩)
            | (have hD : d_translate (x_u x) (nI f) (nI s0) t = (-4, none) := by rw [dt_r hA.1 hf hs0, if_neg (fun q => q g16)]; exact if_pos (Or.inr ((stOb_1 a1).mpr ⟨g90, h63⟩))
               rw [hD]; exact ⟨rfl, hX, On.rf, hW, Ta.rf⟩)
        · refine v_iload hC dX11_translate_82 rfl ?_
          refine v_if_eq hC dX11_translate_84 (tgt := 99) (by decide) (fun _ => ?_) (fun hx => absurd hx (by decide))
          refine v_iload hC dX11_translate_99 rfl ?_
          refine v_if_eq hC dX11_translate_101 (tgt := 117) (by decide) (fun _ => ?_) (fun hx => absurd hx (by decide))
          refine v_iconst (v := 0) hC dX11_translate_117 (by decide) ?_
          refine v_ist7 hC dX11_translate_118 (by decide) (kk := ?_)
          refine v_iload hC dX11_translate_120 rfl ?_
          refine v_if_ge hC dX11_translate_122 (tgt := 138) (by decide) (fun hx => absurd hx (by decide)) (fun _ => ?_)
          refine v_aload_n hC dX11_translate_125 rfl rfl ?_
          refine gf_11_0 hC ht (wf_276 hW ht) mw_4_120 dX11_translate_126 ?_
          refine v_iconst (v := 2) hC dX11_translate_129 (by decide) ?_
          refine v_lald 31 hC (wf_276 hW ht) (by decide) (by decide) (ix_q (j := 2) hwz rfl) dX11_translate_130 ?_
          rw [show m_l M 31 (m_r M 276 h 0) 2 = _ from hA.c2]
          refine v_ldc2 hC mw_4_116 dX11_translate_131 ?_
          refine v_lcmp hC dX11_translate_134 ?_
          refine v_if_eq hC dX11_translate_135 (tgt := 156) (by decide) (fun h135 => ?_) (fun h135 => ?_)
          · have h135 : n_e (x_u x) = 40 := (lN_eq (b := 40) (by omega) (by omega)).mp ((lg_cmp_eq _ _).mp h135)
            refine v_bipush (v := (-3)) hC dX11_translate_156 (by decide) ?_
            refine v_iret hC dX11_translate_158 ?_
            first
              | (have hD : d_translate (x_u x) (nI f) (nI s0) t = (-3, none) := by rw [dt_r hA.1 hf hs0, if_neg (fun q => q g16), if_neg (fun q => q.elim (fun w => w h79) (stOb_0 a1))]; exact if_pos (rmB_0f a1 h135)
                 rw [hD]; exact ⟨rfl, hX, On.rf, hW, Ta.rf⟩)
              | (have hD : d_translate (x_u x) (nI f) (nI s0) t = (-3, none) := by rw [dt_r hA.1 hf hs0, if_neg (fun q => q g16), if_neg (fun q => q.elim (fun w => w h79) (fun w => g90 ((stOb_1 a1).mp w).1))]; exact if_pos (rmB_2f a1 (nd_y h63 b1) h153)
                 rw [hD]; exact ⟨rfl, hX, On.rf, hW, Ta.rf⟩)
          · have h135 : n_e (x_u x) < 40 := by
              have : ¬ n_e (x_u x) = 40 := fun q => h135 ((lg_cmp_eq _ _).mpr (show lN (n_e (x_u x)) = lN 40 from by rw [q]))
              omega
            refine v_iload hC dX11_translate_138 rfl ?_
            refine v_if_eq hC dX11_translate_140 (tgt := 159) (by decide) (fun _ => ?_) (fun hx => absurd hx (by decide))
            have hnS : ¬ stOb (x_u x) (q_g (x_u x) 0 f s0) t = true := by first | exact stOb_0 a1 | exact fun q => ((stOb_1 a1).mp q).2 h63 | exact fun q => g90 ((stOb_1 a1).mp q).1
            have hrm : rmB (x_u x) (q_g (x_u x) 0 f s0) t = true := by first | exact rmB_0 a1 h135 | exact rmB_1 a1 (nd_t h63) | exact rmB_1 a1 (nd_o b1) | exact rmB_2 a1 h153
            refine v_aload_n hC dX11_translate_159 rfl rfl ?_
            refine gf_11_0 hC ht (wf_276 hW ht) mw_4_120 dX11_translate_160 ?_
            refine v_iload hC dX11_translate_163 rfl ?_
            refine v_bipush (v := 9) hC dX11_translate_165 (by decide) ?_
            refine v_iadd hC dX11_translate_167 ?_
            rw [show nI (606 + 11 * (12 * f + s0)) + 9 = nI (606 + 11 * (12 * f + s0) + 9) from nI_add _ 9]
            refine v_lald 31 hC (wf_276 hW ht) (by decide) (by decide) (ix_c hwz (by omega)) dX11_translate_168 ?_
            rw [show m_l M 31 (m_r M 276 h 0) (606 + 11 * (12 * f + s0) + 9) = _ from (hA.s2 hf hs0).1]
            refine v_iload_n hC dX11_translate_169 rfl rfl ?_
            refine v_i2l hC dX11_translate_170 ?_
            refine v_lcmp hC dX11_translate_171 ?_
            refine v_if_ne hC dX11_translate_172 (tgt := 178) (by decide) (fun h172 => ?_) (fun h172 => ?_)
            · have h172 : ¬ q_i (x_u x) 9 f s0 = t := fun q => h172 ((lg_cmp_eq _ _).mpr (by
                have ht0 : 0 < t := tg_pos g16
                rw [q]
                exact if_neg (fun w => by have w2 := w.2; rw [w2] at ht0; exact absurd ht0 (by decide))))
              have ht0 : 0 < t := tg_pos g16
              have hD : d_translate (x_u x) (nI f) (nI s0) t = (1 + trnC (x_u x) f s0 t, some (trnU (x_u x) f s0 t)) := by rw [dt_r hA.1 hf hs0, if_neg (fun q => q g16), if_neg (fun q => q.elim (fun w => w h79) hnS), if_neg (tr_f (b := true) hrm), if_neg h172]
              refine v_aload_n hC dX11_translate_178 rfl rfl ?_
              refine cVv0 hC (c_X11_record hW hX) yv_X11_record rfl ht mw_4_173 ⟨Nat.le_of_ble_eq_true rfl, Nat.le_of_ble_eq_true rfl⟩ ⟨Nat.le_of_ble_eq_true rfl, Nat.le_of_ble_eq_true rfl⟩ (Nat.le_of_ble_eq_true rfl) dX11_translate_179 (fun M181 hq => ?_)
              obtain ⟨hX9, hOn9, hW9, hTa9⟩ := hq
              have ht9 := hX9.1
              have hL9 := hX9.pu
              have hwz9 := wz_31 hW9 (wf_276 hW9 ht9)
              refine v_aload_n hC dX11_translate_182 rfl rfl ?_
              refine v_iload hC dX11_translate_183 rfl ?_
              refine v_iload_n hC dX11_translate_185 rfl rfl ?_
              refine v_iconst (v := 1) hC dX11_translate_186 (by decide) ?_
              refine cVv3 hC (c_X11_give hW9 ht9 (by omega)) yv_X11_give rfl ht9 mw_5_115 ⟨Nat.le_of_ble_eq_true rfl, Nat.le_of_ble_eq_true rfl⟩ ⟨Nat.le_of_ble_eq_true rfl, Nat.le_of_ble_eq_true rfl⟩ (Nat.le_of_ble_eq_true rfl) dX11_translate_187 (fun M189 hq => ?_)
              subst hq
              have hf8 : f < 8 := by omega
              have hWg : Wt (s_l (s_l M181 31 (m_r M181 276 h 0) (606 + 11 * (12 * f + s0) + 9) t.toInt64) 31 (m_r (s_l M181 31 (m_r M181 276 h 0) (606 + 11 * (12 * f + s0) + 9) t.toInt64) 276 h 0) (606 + 11 * (12 * f + s0) + 10) (1 : Int32).toInt64) := hW9
              have htg : m_t (s_l (s_l M181 31 (m_r M181 276 h 0) (606 + 11 * (12 * f + s0) + 9) t.toInt64) 31 (m_r (s_l M181 31 (m_r M181 276 h 0) (606 + 11 * (12 * f + s0) + 9) t.toInt64) 276 h 0) (606 + 11 * (12 * f + s0) + 10) (1 : Int32).toInt64) h = 12 := ht9
              have hlg : LA (rwM (s_l (s_l M181 31 (m_r M181 276 h 0) (606 + 11 * (12 * f + s0) + 9) t.toInt64) 31 (m_r (s_l M181 31 (m_r M181 276 h 0) (606 + 11 * (12 * f + s0) + 9) t.toInt64) 276 h 0) (606 + 11 * (12 * f + s0) + 10) (1 : Int32).toInt64) h) (u_i (u_i (x_u x) 9 f s0 t) 10 f s0 1) := by rw [rwM_w, rwM_w]; exact hL9.1.give hf8 (by omega) (fun q => by rw [q] at ht0; exact absurd ht0 (by decide))
              have hpg : LPd (rwM (s_l (s_l M181 31 (m_r M181 276 h 0) (606 + 11 * (12 * f + s0) + 9) t.toInt64) 31 (m_r (s_l M181 31 (m_r M181 276 h 0) (606 + 11 * (12 * f + s0) + 9) t.toInt64) 276 h 0) (606 + 11 * (12 * f + s0) + 10) (1 : Int32).toInt64) h) (x_u x) := by rw [rwM_w, rwM_w]; exact hL9.2.give u2 hf8 (by omega)
              have hwg : Wr M181 (s_l (s_l M181 31 (m_r M181 276 h 0) (606 + 11 * (12 * f + s0) + 9) t.toInt64) 31 (m_r (s_l M181 31 (m_r M181 276 h 0) (606 + 11 * (12 * f + s0) + 9) t.toInt64) 276 h 0) (606 + 11 * (12 * f + s0) + 10) (1 : Int32).toInt64) h := Wr.rf.sl.sl
              refine v_iload hC dX11_translate_190 rfl ?_
              refine v_if_ge hC dX11_translate_192 (tgt := 242) (by decide) (fun hx => absurd hx (by decide)) (fun _ => ?_)
              refine v_aload_n hC dX11_translate_195 rfl rfl ?_
              refine v_iload_n hC dX11_translate_196 rfl rfl ?_
              refine cVi1 hC (c_X11_newEntry hWg htg hlg h135) yv_X11_newEntry rfl ht9 mw_5_39 ⟨Nat.le_of_ble_eq_true rfl, Nat.le_of_ble_eq_true rfl⟩ ⟨Nat.le_of_ble_eq_true rfl, Nat.le_of_ble_eq_true rfl⟩ (Nat.le_of_ble_eq_true rfl) dX11_translate_197 (fun r197 M199 hq => ?_)
              obtain ⟨rfl, hm⟩ := hq
              have hm2 := hm.symm
              clear hm
              subst hm2
              refine v_ist8 hC dX11_translate_200 (by decide) (kk := ?_)
              refine v_iconst (v := 0) hC dX11_translate_202 (by decide) ?_
              refine v_ist9 hC dX11_translate_203 (by decide) (kk := ?_)
              exact cpy M181 _ f s0 (rwM (s_l (s_l M181 31 (m_r M181 276 h 0) (606 + 11 * (12 * f + s0) + 9) t.toInt64) 31 (m_r (s_l M181 31 (m_r M181 276 h 0) (606 + 11 * (12 * f + s0) + 9) t.toInt64) 276 h 0) (606 + 11 * (12 * f + s0) + 10) (1 : Int32).toInt64) h) hf hs0 rfl rfl hX9 hOn9 hW9 hTa9 hD ht0 a1 h135 hlg hpg (by
                refine rwM_w.trans ?_
                rw [rwM_w, rwM_w]
                rfl) 10 0 _ (by omega) (by omega) (by repeat (first | exact Wr.rf | refine Wr.sl ?_)) (fun q => (if_neg (by omega)).symm)
            · have h172 : q_i (x_u x) 9 f s0 = t := eb9_t (tg_pos g16) ((lg_cmp_eq _ _).mp h172)
              refine v_bipush (v := (-5)) hC dX11_translate_175 (by decide) ?_
              refine v_iret hC dX11_translate_177 ?_
              have hD : d_translate (x_u x) (nI f) (nI s0) t = (-5, none) := by rw [dt_r hA.1 hf hs0, if_neg (fun q => q g16), if_neg (fun q => q.elim (fun w => w h79) hnS), if_neg (tr_f (b := true) hrm)]; exact if_pos h172
              rw [hD]; exact ⟨rfl, hX, On.rf, hW, Ta.rf⟩
    · refine v_if_ne hC dX11_translate_19 (tgt := 25) (by decide) (fun hx => absurd hx (by decide)) (fun _ => ?_)
      refine v_bipush (v := (-2)) hC dX11_translate_22 (by decide) ?_
      refine v_iret hC dX11_translate_24 ?_
      have hD : d_translate (x_u x) (nI f) (nI s0) t = (-2, none) := by rw [dt_r hA.1 hf hs0]; exact if_pos g16
      rw [hD]; exact ⟨rfl, hX, On.rf, hW, Ta.rf⟩
  · refine v_if_eq hC dX11_translate_6 (tgt := 11) (by decide) (fun hx => absurd hx (by decide)) (fun _ => ?_)
    refine v_iconst (v := (-1)) hC dX11_translate_9 (by decide) ?_
    refine v_iret hC dX11_translate_10 ?_
    have hD : d_translate (x_u x) y z t = (-1, none) := dt_1 hA.1 g3
    rw [hD]; exact ⟨rfl, hX, On.rf, hW, Ta.rf⟩
