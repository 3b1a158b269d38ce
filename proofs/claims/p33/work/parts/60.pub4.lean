theorem v_ldcw {p : Program} {l : Launch} {e : Env} {R : Room} {s : State} {m : MethodId} {args : Array Value} {below : List Frame} {meth : Method} {c : Code} {nL : Nat} {G : Gd} {Q : State → Prop} {M : Me} {cells slots pc : Nat} {L : Lo} {rest : List Value} {cc : ByteArray} {own nm : String} {rt : Option FieldType} (hC : Cx p m c s args meth cc nL own nm rt G) {index : Nat} {v : Int32} (hl : Cond.constant own index v ∈ lw_g) (hd : decode cc pc = .ok (.ldc_w index, 3)) (kk : V p l e R s m args below meth c nL G Q M cells slots (pc + 3) L (.int v :: rest)) : V p l e R s m args below meth c nL G Q M cells slots pc L rest := fun H locs ls hR hL hl2 => lv_ldcw hC.1.1 hC.1.2.1 hC.1.2.2.2.1 (hC.1.2.2.2.2 _ hl) hd (kk H locs ls hR hL hl2)
theorem cSi1x {p : Program} {l : Launch} {e : Env} {R : Room} {s : State} {m : MethodId} {args : Array Value} {below : List Frame} {meth : Method} {c : Code} {nL : Nat} {G : Gd} {Q : State → Prop} {M : Me} {cells slots pc : Nat} {L : Lo} {rest : List Value} {cc : ByteArray} {own nm C : String} {rt : Option FieldType} {y : MethodName} {bytes : ByteArray} {maxL index f lo mc ms : Nat} {ret : Option FieldType} {post : Int32 → Me → Prop} {x1 : Value} (hC : Cx p m c s args meth cc nL own nm rt G) (hM : CQ (Qi G post) l G y bytes maxL ret f lo mc ms [x1] M) (hy : Ys y C bytes maxL ret 1) (hl : Cond.methodLink own index y ∈ lw_g) (hroom : f + 1 ≤ R.frames ∧ 8 + (maxL + 11) + lo ≤ R.locals) (hcs : cells + mc ≤ R.cells ∧ slots + ms ≤ R.slots) (hrest : (rest.map fun v => v.category).sum ≤ 8) (hd : decode cc pc = .ok (.invokestatic index, 3)) (kk : ∀ (r : Int32) (M2 : Me), post r M2 → V p l e R s m args below meth c nL G Q M2 (cells + mc) (slots + ms) (pc + 3) L (.int r :: rest)) : V p l e R s m args below meth c nL G Q M cells slots pc L (x1 :: rest) := v_runi (fun H locs ls hR hls => by
  obtain ⟨⟨y1, y3, y4⟩, y5, y6⟩ := hy
  refine va_runS (As := [x1]) (rest := rest) hC.1 hM (va_cwS 1 hC.1.2.2.2.2 (gd_l (ws := va_wsS own index y (wsB y bytes maxL ret)) (fun w hw => ?_)) rfl rfl rfl y6 hroom) ⟨Pv.blind _ _ _, fun U hU hW => ⟨rfl, by rw [hU]; exact hR, KK.moved hW.alike hC.2.1, KX.moved hW hC.2.2.2.2.2⟩⟩ rfl rfl hls rfl (lv_room hrest) hd hcs
  rcases List.mem_append.mp hw with h | h
  · simp at h
    rcases h with rfl | rfl | rfl
    · exact hl
    · exact y1
    · rw [y5]; exact y3
  · exact wsB_in y4 w h) kk
theorem ys_J6_bitCount_0f7a4 : Ys yJ6_bitCount_0f7a4 RJ6 cJ6_bitCount_0f7a4 1 (some .int) 1 := ⟨⟨mw_2_156, mw_1_13, mw_2_157⟩, rfl, by decide, by decide, by decide +kernel⟩
set_option maxHeartbeats 4000000 in
set_option maxRecDepth 100000 in
theorem c_J6_bitCount_0f7a4 {l : Launch} {G : Gd} {M : Me} {x : Int32}  : CQ (Qi G (fun r M2 => r = bcN x ∧ M2 = M)) l G yJ6_bitCount_0f7a4 cJ6_bitCount_0f7a4 1 ((some .int)) 0 0 0 0 [.int x] M := by
  refine c_of ([some (.int x)] : Lo) RJ6 "bitCount" (by decide) rfl rfl (Nat.le_of_ble_eq_true rfl) rfl (fun p e s m below meth c hC nw => ?_)
  refine v_iload_n hC dJ6_bitCount_0f7a4_0 rfl rfl ?_
  refine v_iload_n hC dJ6_bitCount_0f7a4_1 rfl rfl ?_
  refine v_iconst (v := 1) hC dJ6_bitCount_0f7a4_2 (by decide) ?_
  refine v_iushr hC dJ6_bitCount_0f7a4_3 ?_
  refine v_ldcw hC mw_2_158 dJ6_bitCount_0f7a4_4 ?_
  refine v_iand hC dJ6_bitCount_0f7a4_7 ?_
  refine v_isub hC dJ6_bitCount_0f7a4_8 ?_
  refine v_ist0 hC dJ6_bitCount_0f7a4_9 (by decide) (kk := ?_)
  refine v_iload_n hC dJ6_bitCount_0f7a4_10 rfl rfl ?_
  refine v_ldcw hC mw_2_159 dJ6_bitCount_0f7a4_11 ?_
  refine v_iand hC dJ6_bitCount_0f7a4_14 ?_
  refine v_iload_n hC dJ6_bitCount_0f7a4_15 rfl rfl ?_
  refine v_iconst (v := 2) hC dJ6_bitCount_0f7a4_16 (by decide) ?_
  refine v_iushr hC dJ6_bitCount_0f7a4_17 ?_
  refine v_ldcw hC mw_2_159 dJ6_bitCount_0f7a4_18 ?_
  refine v_iand hC dJ6_bitCount_0f7a4_21 ?_
  refine v_iadd hC dJ6_bitCount_0f7a4_22 ?_
  refine v_ist0 hC dJ6_bitCount_0f7a4_23 (by decide) (kk := ?_)
  refine v_iload_n hC dJ6_bitCount_0f7a4_24 rfl rfl ?_
  refine v_iload_n hC dJ6_bitCount_0f7a4_25 rfl rfl ?_
  refine v_iconst (v := 4) hC dJ6_bitCount_0f7a4_26 (by decide) ?_
  refine v_iushr hC dJ6_bitCount_0f7a4_27 ?_
  refine v_iadd hC dJ6_bitCount_0f7a4_28 ?_
  refine v_ldcw hC mw_2_160 dJ6_bitCount_0f7a4_29 ?_
  refine v_iand hC dJ6_bitCount_0f7a4_32 ?_
  refine v_ist0 hC dJ6_bitCount_0f7a4_33 (by decide) (kk := ?_)
  refine v_iload_n hC dJ6_bitCount_0f7a4_34 rfl rfl ?_
  refine v_iload_n hC dJ6_bitCount_0f7a4_35 rfl rfl ?_
  refine v_bipush (v := 8) hC dJ6_bitCount_0f7a4_36 (by decide) ?_
  refine v_iushr hC dJ6_bitCount_0f7a4_38 ?_
  refine v_iadd hC dJ6_bitCount_0f7a4_39 ?_
  refine v_ist0 hC dJ6_bitCount_0f7a4_40 (by decide) (kk := ?_)
  refine v_iload_n hC dJ6_bitCount_0f7a4_41 rfl rfl ?_
  refine v_iload_n hC dJ6_bitCount_0f7a4_42 rfl rfl ?_
  refine v_bipush (v := 16) hC dJ6_bitCount_0f7a4_43 (by decide) ?_
  refine v_iushr hC dJ6_bitCount_0f7a4_45 ?_
  refine v_iadd hC dJ6_bitCount_0f7a4_46 ?_
  refine v_ist0 hC dJ6_bitCount_0f7a4_47 (by decide) (kk := ?_)
  refine v_iload_n hC dJ6_bitCount_0f7a4_48 rfl rfl ?_
  refine v_bipush (v := 63) hC dJ6_bitCount_0f7a4_49 (by decide) ?_
  refine v_iand hC dJ6_bitCount_0f7a4_51 ?_
  refine v_iret hC dJ6_bitCount_0f7a4_52 ?_
  exact ⟨rfl, rfl⟩

set_option maxHeartbeats 4000000 in
set_option maxRecDepth 100000 in
theorem c_X10_undo {l : Launch} {G : Gd} {M : Me} {h n : Nat} {x : Xs} (hW : Wt M) (hB : BR M h n x) (hzh : ∀ j, j < x_n x → hzU (x_h x j)) : CQ (Qi G (fun r M2 => r = (if x_n x = 0 then -5 else nI (x_n x - 1)) ∧ BR M2 h n (if x_n x = 0 then x else popX x) ∧ Tk M M2 n ∧ Cf M M2 h n ∧ Wt M2)) l G yX10_undo cX10_undo 1 ((some .int)) 4 88 0 0 [.ref h] M := by
  refine c_of ([some (.ref h)] : Lo) RX10 "undo" (by decide) rfl rfl (Nat.le_of_ble_eq_true rfl) rfl (fun p e s m below meth c hC nw => ?_)
  have hR := hB.2.1
  have hnn := hB.1.1.2.2.2.2.2.2
  have hu := hR.2.1
  have u1 := hu.1
  have u2 := hu.2.1
  have u3 := hu.2.2.1
  have u4 := hu.2.2.2.1
  refine v_aload_n hC dX10_undo_0 rfl rfl ?_
  refine gf_10_3 hC hB.1.1.1 (wf_263 hW hB.1.1.1) mw_2_81 dX10_undo_1 ?_
  first | rw [hB.1.2.1.2.2.2.1] | erw [hB.1.2.1.2.2.2.1]
  refine gf_2_1 hC hB.1.1.2.2.2.1 mw_2_72 dX10_undo_4 ?_
  rw [hB.2.2.1.2.1]
  refine v_if_ne hC dX10_undo_7 (tgt := 13) (by decide) (fun h7 => ?_) (fun h7 => ?_)
  · have h0 : 0 < x_n x := Nat.pos_of_ne_zero (fun q => h7 (by rw [q]; rfl))
    refine v_aload_n hC dX10_undo_13 rfl rfl ?_
    refine gf_10_3 hC hB.1.1.1 (wf_263 hW hB.1.1.1) mw_2_81 dX10_undo_14 ?_
    first | rw [hB.1.2.1.2.2.2.1] | erw [hB.1.2.1.2.2.2.1]
    refine v_aload_n hC dX10_undo_17 rfl rfl ?_
    refine gf_10_1 hC hB.1.1.1 (wf_261 hW hB.1.1.1) mw_2_79 dX10_undo_18 ?_
    first | rw [hB.1.2.1.2.1] | erw [hB.1.2.1.2.1]
    refine cVv1 hC (c_X2_pop hW hB h0 (hzh _ (by omega))) yv_X2_pop rfl hB.1.1.2.2.2.1 mw_3_197 ⟨Nat.le_of_ble_eq_true rfl, Nat.le_of_ble_eq_true rfl⟩ ⟨Nat.le_of_ble_eq_true rfl, Nat.le_of_ble_eq_true rfl⟩ (Nat.le_of_ble_eq_true rfl) dX10_undo_21 (fun M23 hq => ?_)
    obtain ⟨hB2, hcf2, hW2, htk2, hx2⟩ := hq
    have hkt2 := hx2.kt
    refine v_aload_n hC dX10_undo_24 rfl rfl ?_
    refine gf_10_3 hC (hkt2.u hB.1.1.1) (wf_263 hW2 (hkt2.u hB.1.1.1)) mw_2_81 dX10_undo_25 ?_
    first | rw [hB2.1.2.1.2.2.2.1] | erw [hB2.1.2.1.2.2.2.1]
    refine gf_2_1 hC hB2.1.1.2.2.2.1 mw_2_72 dX10_undo_28 ?_
    rw [hB2.2.2.1.2.1]
    refine v_iret hC dX10_undo_31 ?_
    rw [if_neg (show ¬ x_n x = 0 by omega), if_neg (show ¬ x_n x = 0 by omega)]; exact ⟨rfl, hB2, htk2, hcf2, hW2⟩
  · have h0 : x_n x = 0 := (nI_eq (b := 0) (by have := hB.2.2.1.1; omega) (by decide)).mp h7
    refine v_bipush (v := (-5)) hC dX10_undo_10 (by decide) ?_
    refine v_iret hC dX10_undo_12 ?_
    rw [if_pos h0, if_pos h0]; exact ⟨rfl, hB, Tk.rf, Cf.rf, hW⟩

set_option maxHeartbeats 4000000 in
set_option maxRecDepth 100000 in
theorem c_X10_keep {l : Launch} {G : Gd} {M : Me} {h n : Nat} {x : Xs} (hW : Wt M) (hB : BR M h n x) (hz : hzU (x_u x)) : CQ (Qi G (fun r M2 => r = nI (n_f (x_u x)) ∧ BR M2 h n (x.1, x.2.1, 1, x_u x) ∧ Tk M M2 n ∧ Cf M M2 h n ∧ Wt M2)) l G yX10_keep cX10_keep 1 ((some .int)) 3 67 0 0 [.ref h] M := by
  refine c_of ([some (.ref h)] : Lo) RX10 "keep" (by decide) rfl rfl (Nat.le_of_ble_eq_true rfl) rfl (fun p e s m below meth c hC nw => ?_)
  have hR := hB.2.1
  have hnn := hB.1.1.2.2.2.2.2.2
  have hu := hR.2.1
  have u1 := hu.1
  have u2 := hu.2.1
  have u3 := hu.2.2.1
  have u4 := hu.2.2.2.1
  refine v_aload_n hC dX10_keep_0 rfl rfl ?_
  refine gf_10_2 hC hB.1.1.1 (wf_262 hW hB.1.1.1) mw_2_80 dX10_keep_1 ?_
  first | rw [hB.1.2.1.2.2.1] | erw [hB.1.2.1.2.2.1]
  refine v_aload_n hC dX10_keep_4 rfl rfl ?_
  refine gf_10_1 hC hB.1.1.1 (wf_261 hW hB.1.1.1) mw_2_79 dX10_keep_5 ?_
  first | rw [hB.1.2.1.2.1] | erw [hB.1.2.1.2.1]
  refine cVv1 hC (c_X7_copyFrom hW hB.1.2.2.1.2.1.1.1 hB.1.2.2.1.1.1.1 hB.1.2.2.1.2.1 hR hz (by omega) (by omega)) yv_X7_copyFrom rfl hB.1.2.2.1.2.1.1.1 mw_3_205 ⟨Nat.le_of_ble_eq_true rfl, Nat.le_of_ble_eq_true rfl⟩ ⟨Nat.le_of_ble_eq_true rfl, Nat.le_of_ble_eq_true rfl⟩ (Nat.le_of_ble_eq_true rfl) dX10_keep_8 (fun M10 hq => ?_)
  obtain ⟨hu9, hr9, hW2, hx2⟩ := hq
  have hkt2 := hx2.kt
  have hB3 := hB.snap nw hW hr9 hu9
  refine v_aload_n hC dX10_keep_11 rfl rfl ?_
  refine v_iconst (v := 1) hC dX10_keep_12 (by decide) ?_
  refine pf_10_4 hC (hkt2.u hB.1.1.1) (Or.inr rfl) mw_2_82 dX10_keep_13 ?_
  refine v_aload_n hC dX10_keep_16 rfl rfl ?_
  refine gf_10_1 hC (hkt2.u hB.1.1.1) (wf_261 hW2 (hkt2.u hB.1.1.1)) mw_2_79 dX10_keep_17 ?_
  first | rw [hB3.1.2.1.2.1] | erw [hB3.1.2.1.2.1]
  refine gf_7_4 hC hB3.1.2.2.1.1.1.1 mw_2_37 dX10_keep_20 ?_
  erw [hB3.2.1.2.2.2.1.1]
  refine v_iret hC dX10_keep_23 ?_
  exact ⟨rfl, hB3, Tk.tr (hr9.tk hnn (by omega)) (fun _ _ q => q.si (by decide) (by decide)), (hr9.cf (by omega) (by omega)).si (Or.inl rfl), hW2⟩

set_option maxHeartbeats 4000000 in
set_option maxRecDepth 100000 in
theorem c_X10_restore {l : Launch} {G : Gd} {M : Me} {h n : Nat} {x : Xs} (hW : Wt M) (hB : BR M h n x) (hz : hzU (x_u x)) (hzs : x_f x = 1 → hzU (x_s x)) : CQ (Qi G (fun r M2 => r = (if x_f x = 0 then -5 else nI (n_f (x_s x))) ∧ BR M2 h n (if x_f x = 0 then x else acX x (some (x_s x))) ∧ Tk M M2 n ∧ Cf M M2 h n ∧ Wt M2)) l G yX10_restore cX10_restore 1 ((some .int)) 4 88 0 0 [.ref h] M := by
  refine c_of ([some (.ref h)] : Lo) RX10 "restore" (by decide) rfl rfl (Nat.le_of_ble_eq_true rfl) rfl (fun p e s m below meth c hC nw => ?_)
  have hR := hB.2.1
  have hnn := hB.1.1.2.2.2.2.2.2
  have hu := hR.2.1
  have u1 := hu.1
  have u2 := hu.2.1
  have u3 := hu.2.2.1
  have u4 := hu.2.2.2.1
  refine v_aload_n hC dX10_restore_0 rfl rfl ?_
  refine gf_10_4 hC hB.1.1.1 mw_2_82 dX10_restore_1 ?_
  rw [hB.2.2.2.1]
  refine v_if_ne hC dX10_restore_4 (tgt := 10) (by decide) (fun h4 => ?_) (fun h4 => ?_)
  · have h0 : x_f x = 1 := hB.2.2.2.2.1.resolve_left h4
    refine v_aload_n hC dX10_restore_10 rfl rfl ?_
    refine gf_10_3 hC hB.1.1.1 (wf_263 hW hB.1.1.1) mw_2_81 dX10_restore_11 ?_
    first | rw [hB.1.2.1.2.2.2.1] | erw [hB.1.2.1.2.2.2.1]
    refine v_aload_n hC dX10_restore_14 rfl rfl ?_
    refine gf_10_1 hC hB.1.1.1 (wf_261 hW hB.1.1.1) mw_2_79 dX10_restore_15 ?_
    first | rw [hB.1.2.1.2.1] | erw [hB.1.2.1.2.1]
    refine cVv1 hC (c_X2_push hW hB hz) yv_X2_push rfl hB.1.1.2.2.2.1 mw_2_98 ⟨Nat.le_of_ble_eq_true rfl, Nat.le_of_ble_eq_true rfl⟩ ⟨Nat.le_of_ble_eq_true rfl, Nat.le_of_ble_eq_true rfl⟩ (Nat.le_of_ble_eq_true rfl) dX10_restore_18 (fun M20 hq => ?_)
    obtain ⟨hB2, hcf2, hW2, htk2, hx2, hsk2⟩ := hq
    have nw2 := hx2.nw nw
    have hkt2 := hx2.kt
    have hR2 := hB2.pushed
    have hnn2 := hB2.1.1.2.2.2.2.2.2
    have hSn : CR M20 (n + 104) (x_s x) := by
      have q := hB2.2.2.2.2.2
      rw [show x_f (pushX x) = x_f x from by show (pushX x).2.2.1 = _; rw [pushX_f], show x_s (pushX x) = x_s x from by show (pushX x).2.2.2 = _; rw [pushX_f]] at q
      exact q h0
    refine v_aload_n hC dX10_restore_21 rfl rfl ?_
    refine gf_10_1 hC (hkt2.u hB.1.1.1) (wf_261 hW2 (hkt2.u hB.1.1.1)) mw_2_79 dX10_restore_22 ?_
    first | rw [hB2.1.2.1.2.1] | erw [hB2.1.2.1.2.1]
    refine v_aload_n hC dX10_restore_25 rfl rfl ?_
    refine gf_10_2 hC (hkt2.u hB.1.1.1) (wf_262 hW2 (hkt2.u hB.1.1.1)) mw_2_80 dX10_restore_26 ?_
    first | rw [hB2.1.2.1.2.2.1] | erw [hB2.1.2.1.2.2.1]
    refine cVv1 hC (c_X7_copyFrom hW2 hB2.1.2.2.1.1.1.1 hB2.1.2.2.1.2.1.1.1 hB2.1.2.2.1.1 hSn (hzs h0) (by omega) (by omega)) yv_X7_copyFrom rfl hB2.1.2.2.1.1.1.1 mw_3_205 ⟨Nat.le_of_ble_eq_true rfl, Nat.le_of_ble_eq_true rfl⟩ ⟨Nat.le_of_ble_eq_true rfl, Nat.le_of_ble_eq_true rfl⟩ (Nat.le_of_ble_eq_true rfl) dX10_restore_29 (fun M31 hq => ?_)
    obtain ⟨hR3, hr3, hW3, hx3⟩ := hq
    have hkt3 := hx3.kt
    have hB3 := hB2.act nw2 hW2 hr3 hR3
    refine v_aload_n hC dX10_restore_32 rfl rfl ?_
    refine gf_10_1 hC (hkt3.u (hkt2.u hB.1.1.1)) (wf_261 hW3 (hkt3.u (hkt2.u hB.1.1.1))) mw_2_79 dX10_restore_33 ?_
    first | rw [hB3.1.2.1.2.1] | erw [hB3.1.2.1.2.1]
    refine gf_7_4 hC hB3.1.2.2.1.1.1.1 mw_2_37 dX10_restore_36 ?_
    rw [hR3.2.2.2.1.1]
    refine v_iret hC dX10_restore_39 ?_
    rw [if_neg h4, if_neg h4]; exact ⟨rfl, hB3, Tk.tr htk2 (hr3.tk hnn2 (Nat.le_refl _)), hcf2.tr (hr3.cf (Nat.le_refl _) (by omega)), hW3⟩
  · refine v_bipush (v := (-5)) hC dX10_restore_7 (by decide) ?_
    refine v_iret hC dX10_restore_9 ?_
    rw [if_pos h4, if_pos h4]; exact ⟨rfl, hB, Tk.rf, Cf.rf, hW⟩

set_option maxHeartbeats 4000000 in
set_option maxRecDepth 100000 in
theorem c_X10_bar {l : Launch} {G : Gd} {M : Me} {h n : Nat} {x : Xs} {y z w : Int32} (hW : Wt M) (hB : BR M h n x) (hz : hzU (x_u x)) : CQ (Qi G (fun r M2 => r = (d_bar (x_u x) y z w).1 ∧ BR M2 h n (acX x (d_bar (x_u x) y z w).2) ∧ Tk M M2 n ∧ Cf M M2 h n ∧ Wt M2)) l G yX10_bar cX10_bar 4 ((some .int)) 4 88 0 0 [.ref h, .int y, .int z, .int w] M := by
  refine c_of ([some (.ref h), some (.int y), some (.int z), some (.int w)] : Lo) RX10 "bar" (by decide) rfl rfl (Nat.le_of_ble_eq_true rfl) rfl (fun p e s m below meth c hC nw => ?_)
  have hR := hB.2.1
  have hnn := hB.1.1.2.2.2.2.2.2
  have hu := hR.2.1
  have u1 := hu.1
  have u2 := hu.2.1
  have u3 := hu.2.2.1
  have u4 := hu.2.2.2.1
  refine v_aload_n hC dX10_bar_0 rfl rfl ?_
  refine gf_10_1 hC hB.1.1.1 (wf_261 hW hB.1.1.1) mw_2_79 dX10_bar_1 ?_
  first | rw [hB.1.2.1.2.1] | erw [hB.1.2.1.2.1]
  refine v_iload_n hC dX10_bar_4 rfl rfl ?_
  refine cVi1 hC (c_X7_hasPerson hR.1.1.1 hR.2.2.2.1.2.1 hu.2.1) yv_X7_hasPerson rfl hB.1.2.2.1.1.1.1 mw_2_143 ⟨Nat.le_of_ble_eq_true rfl, Nat.le_of_ble_eq_true rfl⟩ ⟨Nat.le_of_ble_eq_true rfl, Nat.le_of_ble_eq_true rfl⟩ (Nat.le_of_ble_eq_true rfl) dX10_bar_5 (fun r5 M7 hq => ?_)
  obtain ⟨hm, hq2⟩ := hq
  have hm2 := hm.symm
  clear hm
  subst hm2
  obtain ⟨g5, rfl⟩ | ⟨g5, rfl⟩ := hq2
  · refine v_if_eq hC dX10_bar_8 (tgt := 22) (by decide) (fun hx => absurd hx (by decide)) (fun _ => ?_)
    refine v_aload_n hC dX10_bar_11 rfl rfl ?_
    refine gf_10_1 hC hB.1.1.1 (wf_261 hW hB.1.1.1) mw_2_79 dX10_bar_12 ?_
    first | rw [hB.1.2.1.2.1] | erw [hB.1.2.1.2.1]
    refine v_iload_n hC dX10_bar_15 rfl rfl ?_
    refine cVi1 hC (c_X7_hasPerson hR.1.1.1 hR.2.2.2.1.2.1 hu.2.1) yv_X7_hasPerson rfl hB.1.2.2.1.1.1.1 mw_2_143 ⟨Nat.le_of_ble_eq_true rfl, Nat.le_of_ble_eq_true rfl⟩ ⟨Nat.le_of_ble_eq_true rfl, Nat.le_of_ble_eq_true rfl⟩ (Nat.le_of_ble_eq_true rfl) dX10_bar_16 (fun r16 M18 hq => ?_)
    obtain ⟨hm, hq2⟩ := hq
    have hm2 := hm.symm
    clear hm
    subst hm2
    obtain ⟨g16, rfl⟩ | ⟨g16, rfl⟩ := hq2
    · refine v_if_ne hC dX10_bar_19 (tgt := 24) (by decide) (fun _ => ?_) (fun hx => absurd hx (by decide))
      obtain ⟨a, ha, rfl⟩ := g5
      obtain ⟨b, hb, rfl⟩ := g16
      have ha6 : a < 6 := by omega
      have hb6 : b < 6 := by omega
      refine v_iload_n hC dX10_bar_24 rfl rfl ?_
      refine v_iload_n hC dX10_bar_25 rfl rfl ?_
      refine v_icmp_ne hC dX10_bar_26 (tgt := 32) (by decide) (fun h26 => ?_) (fun h26 => ?_)
      · have hab : ¬ a = b := fun q => h26 (by rw [q])
        refine v_aload_n hC dX10_bar_32 rfl rfl ?_
        refine gf_10_1 hC hB.1.1.1 (wf_261 hW hB.1.1.1) mw_2_79 dX10_bar_33 ?_
        first | rw [hB.1.2.1.2.1] | erw [hB.1.2.1.2.1]
        refine gf_7_1 hC hB.1.2.2.1.1.1.1 (wf_213 hW hB.1.2.2.1.1.1.1) mw_2_31 dX10_bar_36 ?_
        refine v_iload_n hC dX10_bar_39 rfl rfl ?_
        refine v_aald 50 _ hC (wf_213 hW hB.1.2.2.1.1.1.1) (by decide) rfl (ix_c (wz_50 hW (wf_213 hW hR.1.1.1)) ha6) (we_50 hW (wf_213 hW hB.1.2.2.1.1.1.1) (by omega)) dX10_bar_40 ?_
        rw [ly_P2 hR.1 ha6]
        refine v_iload_n hC dX10_bar_41 rfl rfl ?_
        refine cVi1 hC (c_X5_isBarredFrom (by rw [← ly_P2 hR.1 ha6]; exact we_50 hW (wf_213 hW hR.1.1.1) ha6) (hR.pe2 ha).2.1) yv_X5_isBarredFrom rfl (by rw [← ly_P2 hR.1 ha6]; exact we_50 hW (wf_213 hW hR.1.1.1) ha6) mw_2_147 ⟨Nat.le_of_ble_eq_true rfl, Nat.le_of_ble_eq_true rfl⟩ ⟨Nat.le_of_ble_eq_true rfl, Nat.le_of_ble_eq_true rfl⟩ (Nat.le_of_ble_eq_true rfl) dX10_bar_42 (fun r42 M44 hq => ?_)
        obtain ⟨hm, hq2⟩ := hq
        have hm2 := hm.symm
        clear hm
        subst hm2
        obtain ⟨g42, rfl⟩ | ⟨g42, rfl⟩ := hq2
        · refine v_iload_n hC dX10_bar_45 rfl rfl ?_
          refine v_icmp_ne hC dX10_bar_46 (tgt := 52) (by decide) (fun h46 => ?_) (fun h46 => ?_)
          · refine v_aload_n hC dX10_bar_52 rfl rfl ?_
            refine gf_10_3 hC hB.1.1.1 (wf_263 hW hB.1.1.1) mw_2_81 dX10_bar_53 ?_
            first | rw [hB.1.2.1.2.2.2.1] | erw [hB.1.2.1.2.2.2.1]
            refine v_aload_n hC dX10_bar_56 rfl rfl ?_
            refine gf_10_1 hC hB.1.1.1 (wf_261 hW hB.1.1.1) mw_2_79 dX10_bar_57 ?_
            first | rw [hB.1.2.1.2.1] | erw [hB.1.2.1.2.1]
            refine cVv1 hC (c_X2_push hW hB hz) yv_X2_push rfl hB.1.1.2.2.2.1 mw_2_98 ⟨Nat.le_of_ble_eq_true rfl, Nat.le_of_ble_eq_true rfl⟩ ⟨Nat.le_of_ble_eq_true rfl, Nat.le_of_ble_eq_true rfl⟩ (Nat.le_of_ble_eq_true rfl) dX10_bar_60 (fun M62 hq => ?_)
            obtain ⟨hB2, hcf2, hW2, htk2, hx2, hsk2⟩ := hq
            have nw2 := hx2.nw nw
            have hkt2 := hx2.kt
            have hR2 := hB2.pushed
            have hnn2 := hB2.1.1.2.2.2.2.2.2
            refine v_aload_n hC dX10_bar_63 rfl rfl ?_
            refine gf_10_1 hC (hkt2.u hB.1.1.1) (wf_261 hW2 (hkt2.u hB.1.1.1)) mw_2_79 dX10_bar_64 ?_
            first | rw [hB2.1.2.1.2.1] | erw [hB2.1.2.1.2.1]
            refine gf_7_1 hC hB2.1.2.2.1.1.1.1 (wf_213 hW2 hB2.1.2.2.1.1.1.1) mw_2_31 dX10_bar_67 ?_
            refine v_iload_n hC dX10_bar_70 rfl rfl ?_
            refine v_aald 50 _ hC (wf_213 hW2 hB2.1.2.2.1.1.1.1) (by decide) rfl (ix_c (wz_50 hW2 (wf_213 hW2 hR2.1.1.1)) ha6) (we_50 hW2 (wf_213 hW2 hB2.1.2.2.1.1.1.1) (by omega)) dX10_bar_71 ?_
            rw [ly_P2 hR2.1 ha6]
            refine v_iload_n hC dX10_bar_72 rfl rfl ?_
            refine v_iload_n hC dX10_bar_73 rfl rfl ?_
            refine cVv2 hC (c_X5_setBarredFrom (by rw [← ly_P2 hR2.1 ha6]; exact we_50 hW2 (wf_213 hW2 hR2.1.1.1) ha6)) yv_X5_setBarredFrom rfl (by rw [← ly_P2 hR2.1 ha6]; exact we_50 hW2 (wf_213 hW2 hR2.1.1.1) ha6) mw_2_151 ⟨Nat.le_of_ble_eq_true rfl, Nat.le_of_ble_eq_true rfl⟩ ⟨Nat.le_of_ble_eq_true rfl, Nat.le_of_ble_eq_true rfl⟩ (Nat.le_of_ble_eq_true rfl) dX10_bar_74 (fun M76 hq => ?_)
            subst hq
            rw [(hR2.pe2 ha).2.1]
            refine v_aload_n hC dX10_bar_77 rfl rfl ?_
            refine gf_10_1 hC (hkt2.u hB.1.1.1) (wf_261 hW2 (hkt2.u hB.1.1.1)) mw_2_79 dX10_bar_78 ?_
            first | rw [hB2.1.2.1.2.1] | erw [hB2.1.2.1.2.1]
            refine gf_7_1 hC hB2.1.2.2.1.1.1.1 (wf_213 hW2 hB2.1.2.2.1.1.1.1) mw_2_31 dX10_bar_81 ?_
            refine v_iload_n hC dX10_bar_84 rfl rfl ?_
            refine v_aald 50 _ hC (wf_213 hW2 hB2.1.2.2.1.1.1.1) (by decide) rfl (ix_c (wz_50 hW2 (wf_213 hW2 hR2.1.1.1)) hb6) (we_50 hW2 (wf_213 hW2 hB2.1.2.2.1.1.1.1) (by omega)) dX10_bar_85 ?_
            erw [ly_P2 hR2.1 hb6]
            refine v_iload_n hC dX10_bar_86 rfl rfl ?_
            refine v_iload_n hC dX10_bar_87 rfl rfl ?_
            refine cVv2 hC (c_X5_setBarredFrom (by rw [← ly_P2 hR2.1 hb6]; exact we_50 hW2 (wf_213 hW2 hR2.1.1.1) hb6)) yv_X5_setBarredFrom rfl (by rw [← ly_P2 hR2.1 hb6]; exact we_50 hW2 (wf_213 hW2 hR2.1.1.1) hb6) mw_2_151 ⟨Nat.le_of_ble_eq_true rfl, Nat.le_of_ble_eq_true rfl⟩ ⟨Nat.le_of_ble_eq_true rfl, Nat.le_of_ble_eq_true rfl⟩ (Nat.le_of_ble_eq_true rfl) dX10_bar_88 (fun M90 hq => ?_)
            subst hq
            rw [i_ska (show cA (n + 7) 1 b ≠ cA (n + 7) 1 a from fun q => hab (by simp [cA, cB, cS] at q; omega)), (hR2.pe2 hb).2.1]
            refine v_aload_n hC dX10_bar_91 rfl rfl ?_
            refine gf_10_1 hC (hkt2.u hB.1.1.1) (wf_261 hW2 (hkt2.u hB.1.1.1)) mw_2_79 dX10_bar_92 ?_
            first | rw [hB2.1.2.1.2.1] | erw [hB2.1.2.1.2.1]
            refine gf_7_1 hC hB2.1.2.2.1.1.1.1 (wf_213 hW2 hB2.1.2.2.1.1.1.1) mw_2_31 dX10_bar_95 ?_
            refine v_iload_n hC dX10_bar_98 rfl rfl ?_
            refine v_aald 50 _ hC (wf_213 hW2 hB2.1.2.2.1.1.1.1) (by decide) rfl (ix_c (wz_50 hW2 (wf_213 hW2 hR2.1.1.1)) ha6) (we_50 hW2 (wf_213 hW2 hB2.1.2.2.1.1.1.1) (by omega)) dX10_bar_99 ?_
            erw [ly_P2 hR2.1 ha6]
            have hcA : cA (n + 7) 1 a ≠ cA (n + 7) 1 b := fun q => hab (by simp [cA, cB, cS] at q; omega)
            refine gf_5_1 hC (by rw [← ly_P2 hR2.1 ha6]; exact we_50 hW2 (wf_213 hW2 hR2.1.1.1) ha6) mw_1_106 dX10_bar_100 ?_
            rw [i_ska hcA, i_se]
            refine cSi1x hC (c_J6_bitCount_0f7a4 ) ys_J6_bitCount_0f7a4 mw_2_155 ⟨Nat.le_of_ble_eq_true rfl, Nat.le_of_ble_eq_true rfl⟩ ⟨Nat.le_of_ble_eq_true rfl, Nat.le_of_ble_eq_true rfl⟩ (Nat.le_of_ble_eq_true rfl) dX10_bar_103 (fun r103 M105 hq => ?_)
            obtain ⟨rfl, hm⟩ := hq
            have hm2 := hm.symm
            clear hm
            subst hm2
            refine v_iret hC dX10_bar_106 ?_
            have hR3 : CR _ (n + 7) (barU (x_u x) a b w) := CR.wA (v := sbr (q_i (x_u x) 2 b 0) (nI a) w) 2 b 0 (CR.wA (v := sbr (q_i (x_u x) 2 a 0) (nI b) w) 2 a 0 hR2 (cp_p ha6 2 (by decide) (by decide)) rfl) (cp_p hb6 2 (by decide) (by decide)) (A := cA (n + 7) 1 b) rfl
            have hr3 := ((Rg.rf (M := M62)).si (cA_r (S := n + 7) (cp_p ha6 1 (by decide) (by decide))) (k := 181) (j := 0) (v := sbr (q_i (x_u x) 2 a 0) (nI b) w) (by decide)).si (cA_r (S := n + 7) (cp_p hb6 1 (by decide) (by decide))) (k := 181) (j := 0) (v := sbr (q_i (x_u x) 2 b 0) (nI a) w) (by decide)
            have hD : d_bar (x_u x) (nI a) (nI b) w = (bcN (sbr (q_i (x_u x) 2 a 0) (nI b) w), some (barU (x_u x) a b w)) := by rw [d_bar, inN_s ha, inN_s hb]; exact (if_neg hab).trans (if_neg (fun q => h46 (by rw [← q, brB]; first | rw [if_pos (show _ &&& 1 = (1 : Int32) from g42)] | rw [if_neg (show ¬ _ &&& 1 = (1 : Int32) from g42)])))
            rw [hD]; exact ⟨rfl, hB2.act nw2 hW2 hr3 hR3, Tk.tr htk2 (hr3.tk hnn2 (Nat.le_refl _)), hcf2.tr (hr3.cf (Nat.le_refl _) (by omega)), hW2⟩
          · refine v_bipush (v := (-5)) hC dX10_bar_49 (by decide) ?_
            refine v_iret hC dX10_bar_51 ?_
            have hD : d_bar (x_u x) (nI a) (nI b) w = (-5, none) := by rw [d_bar, inN_s ha, inN_s hb]; exact (if_neg hab).trans (if_pos (by rw [brB]; first | rw [if_pos (show _ &&& 1 = (1 : Int32) from g42)]; exact h46 | rw [if_neg (show ¬ _ &&& 1 = (1 : Int32) from g42)]; exact h46))
            rw [hD]; exact ⟨rfl, hB, Tk.rf, Cf.rf, hW⟩
        · refine v_iload_n hC dX10_bar_45 rfl rfl ?_
          refine v_icmp_ne hC dX10_bar_46 (tgt := 52) (by decide) (fun h46 => ?_) (fun h46 => ?_)
          · refine v_aload_n hC dX10_bar_52 rfl rfl ?_
            refine gf_10_3 hC hB.1.1.1 (wf_263 hW hB.1.1.1) mw_2_81 dX10_bar_53 ?_
            first | rw [hB.1.2.1.2.2.2.1] | erw [hB.1.2.1.2.2.2.1]
            refine v_aload_n hC dX10_bar_56 rfl rfl ?_
            refine gf_10_1 hC hB.1.1.1 (wf_261 hW hB.1.1.1) mw_2_79 dX10_bar_57 ?_
            first | rw [hB.1.2.1.2.1] | erw [hB.1.2.1.2.1]
            refine cVv1 hC (c_X2_push hW hB hz) yv_X2_push rfl hB.1.1.2.2.2.1 mw_2_98 ⟨Nat.le_of_ble_eq_true rfl, Nat.le_of_ble_eq_true rfl⟩ ⟨Nat.le_of_ble_eq_true rfl, Nat.le_of_ble_eq_true rfl⟩ (Nat.le_of_ble_eq_true rfl) dX10_bar_60 (fun M62 hq => ?_)
            obtain ⟨hB2, hcf2, hW2, htk2, hx2, hsk2⟩ := hq
            have nw2 := hx2.nw nw
            have hkt2 := hx2.kt
            have hR2 := hB2.pushed
            have hnn2 := hB2.1.1.2.2.2.2.2.2
            refine v_aload_n hC dX10_bar_63 rfl rfl ?_
            refine gf_10_1 hC (hkt2.u hB.1.1.1) (wf_261 hW2 (hkt2.u hB.1.1.1)) mw_2_79 dX10_bar_64 ?_
            first | rw [hB2.1.2.1.2.1] | erw [hB2.1.2.1.2.1]
            refine gf_7_1 hC hB2.1.2.2.1.1.1.1 (wf_213 hW2 hB2.1.2.2.1.1.1.1) mw_2_31 dX10_bar_67 ?_
            refine v_iload_n hC dX10_bar_70 rfl rfl ?_
            refine v_aald 50 _ hC (wf_213 hW2 hB2.1.2.2.1.1.1.1) (by decide) rfl (ix_c (wz_50 hW2 (wf_213 hW2 hR2.1.1.1)) ha6) (we_50 hW2 (wf_213 hW2 hB2.1.2.2.1.1.1.1) (by omega)) dX10_bar_71 ?_
            rw [ly_P2 hR2.1 ha6]
            refine v_iload_n hC dX10_bar_72 rfl rfl ?_
            refine v_iload_n hC dX10_bar_73 rfl rfl ?_
            refine cVv2 hC (c_X5_setBarredFrom (by rw [← ly_P2 hR2.1 ha6]; exact we_50 hW2 (wf_213 hW2 hR2.1.1.1) ha6)) yv_X5_setBarredFrom rfl (by rw [← ly_P2 hR2.1 ha6]; exact we_50 hW2 (wf_213 hW2 hR2.1.1.1) ha6) mw_2_151 ⟨Nat.le_of_ble_eq_true rfl, Nat.le_of_ble_eq_true rfl⟩ ⟨Nat.le_of_ble_eq_true rfl, Nat.le_of_ble_eq_true rfl⟩ (Nat.le_of_ble_eq_true rfl) dX10_bar_74 (fun M76 hq => ?_)
            subst hq
            rw [(hR2.pe2 ha).2.1]
            refine v_aload_n hC dX10_bar_77 rfl rfl ?_
            refine gf_10_1 hC (hkt2.u hB.1.1.1) (wf_261 hW2 (hkt2.u hB.1.1.1)) mw_2_79 dX10_bar_78 ?_
            first | rw [hB2.1.2.1.2.1] | erw [hB2.1.2.1.2.1]
            refine gf_7_1 hC hB2.1.2.2.1.1.1.1 (wf_213 hW2 hB2.1.2.2.1.1.1.1) mw_2_31 dX10_bar_81 ?_
            refine v_iload_n hC dX10_bar_84 rfl rfl ?_
            refine v_aald 50 _ hC (wf_213 hW2 hB2.1.2.2.1.1.1.1) (by decide) rfl (ix_c (wz_50 hW2 (wf_213 hW2 hR2.1.1.1)) hb6) (we_50 hW2 (wf_213 hW2 hB2.1.2.2.1.1.1.1) (by omega)) dX10_bar_85 ?_
            erw [ly_P2 hR2.1 hb6]
            refine v_iload_n hC dX10_bar_86 rfl rfl ?_
            refine v_iload_n hC dX10_bar_87 rfl rfl ?_
            refine cVv2 hC (c_X5_setBarredFrom (by rw [← ly_P2 hR2.1 hb6]; exact we_50 hW2 (wf_213 hW2 hR2.1.1.1) hb6)) yv_X5_setBarredFrom rfl (by rw [← ly_P2 hR2.1 hb6]; exact we_50 hW2 (wf_213 hW2 hR2.1.1.1) hb6) mw_2_151 ⟨Nat.le_of_ble_eq_true rfl, Nat.le_of_ble_eq_true rfl⟩ ⟨Nat.le_of_ble_eq_true rfl, Nat.le_of_ble_eq_true rfl⟩ (Nat.le_of_ble_eq_true rfl) dX10_bar_88 (fun M90 hq => ?_)
            subst hq
            rw [i_ska (show cA (n + 7) 1 b ≠ cA (n + 7) 1 a from fun q => hab (by simp [cA, cB, cS] at q; omega)), (hR2.pe2 hb).2.1]
            refine v_aload_n hC dX10_bar_91 rfl rfl ?_
            refine gf_10_1 hC (hkt2.u hB.1.1.1) (wf_261 hW2 (hkt2.u hB.1.1.1)) mw_2_79 dX10_bar_92 ?_
            first | rw [hB2.1.2.1.2.1] | erw [hB2.1.2.1.2.1]
            refine gf_7_1 hC hB2.1.2.2.1.1.1.1 (wf_213 hW2 hB2.1.2.2.1.1.1.1) mw_2_31 dX10_bar_95 ?_
            refine v_iload_n hC dX10_bar_98 rfl rfl ?_
            refine v_aald 50 _ hC (wf_213 hW2 hB2.1.2.2.1.1.1.1) (by decide) rfl (ix_c (wz_50 hW2 (wf_213 hW2 hR2.1.1.1)) ha6) (we_50 hW2 (wf_213 hW2 hB2.1.2.2.1.1.1.1) (by omega)) dX10_bar_99 ?_
            erw [ly_P2 hR2.1 ha6]
            have hcA : cA (n + 7) 1 a ≠ cA (n + 7) 1 b := fun q => hab (by simp [cA, cB, cS] at q; omega)
            refine gf_5_1 hC (by rw [← ly_P2 hR2.1 ha6]; exact we_50 hW2 (wf_213 hW2 hR2.1.1.1) ha6) mw_1_106 dX10_bar_100 ?_
            rw [i_ska hcA, i_se]
            refine cSi1x hC (c_J6_bitCount_0f7a4 ) ys_J6_bitCount_0f7a4 mw_2_155 ⟨Nat.le_of_ble_eq_true rfl, Nat.le_of_ble_eq_true rfl⟩ ⟨Nat.le_of_ble_eq_true rfl, Nat.le_of_ble_eq_true rfl⟩ (Nat.le_of_ble_eq_true rfl) dX10_bar_103 (fun r103 M105 hq => ?_)
            obtain ⟨rfl, hm⟩ := hq
            have hm2 := hm.symm
            clear hm
            subst hm2
            refine v_iret hC dX10_bar_106 ?_
            have hR3 : CR _ (n + 7) (barU (x_u x) a b w) := CR.wA (v := sbr (q_i (x_u x) 2 b 0) (nI a) w) 2 b 0 (CR.wA (v := sbr (q_i (x_u x) 2 a 0) (nI b) w) 2 a 0 hR2 (cp_p ha6 2 (by decide) (by decide)) rfl) (cp_p hb6 2 (by decide) (by decide)) (A := cA (n + 7) 1 b) rfl
            have hr3 := ((Rg.rf (M := M62)).si (cA_r (S := n + 7) (cp_p ha6 1 (by decide) (by decide))) (k := 181) (j := 0) (v := sbr (q_i (x_u x) 2 a 0) (nI b) w) (by decide)).si (cA_r (S := n + 7) (cp_p hb6 1 (by decide) (by decide))) (k := 181) (j := 0) (v := sbr (q_i (x_u x) 2 b 0) (nI a) w) (by decide)
            have hD : d_bar (x_u x) (nI a) (nI b) w = (bcN (sbr (q_i (x_u x) 2 a 0) (nI b) w), some (barU (x_u x) a b w)) := by rw [d_bar, inN_s ha, inN_s hb]; exact (if_neg hab).trans (if_neg (fun q => h46 (by rw [← q, brB]; first | rw [if_pos (show _ &&& 1 = (1 : Int32) from g42)] | rw [if_neg (show ¬ _ &&& 1 = (1 : Int32) from g42)])))
            rw [hD]; exact ⟨rfl, hB2.act nw2 hW2 hr3 hR3, Tk.tr htk2 (hr3.tk hnn2 (Nat.le_refl _)), hcf2.tr (hr3.cf (Nat.le_refl _) (by omega)), hW2⟩
          · refine v_bipush (v := (-5)) hC dX10_bar_49 (by decide) ?_
            refine v_iret hC dX10_bar_51 ?_
            have hD : d_bar (x_u x) (nI a) (nI b) w = (-5, none) := by rw [d_bar, inN_s ha, inN_s hb]; exact (if_neg hab).trans (if_pos (by rw [brB]; first | rw [if_pos (show _ &&& 1 = (1 : Int32) from g42)]; exact h46 | rw [if_neg (show ¬ _ &&& 1 = (1 : Int32) from g42)]; exact h46))
            rw [hD]; exact ⟨rfl, hB, Tk.rf, Cf.rf, hW⟩
      · have hab : a = b := (nI_eq (by omega) (by omega)).mp h26
        refine v_bipush (v := (-2)) hC dX10_bar_29 (by decide) ?_
        refine v_iret hC dX10_bar_31 ?_
        have hD : d_bar (x_u x) (nI a) (nI b) w = (-2, none) := by rw [d_bar, inN_s ha, inN_s hb]; exact if_pos hab
        rw [hD]; exact ⟨rfl, hB, Tk.rf, Cf.rf, hW⟩
    · refine v_if_ne hC dX10_bar_19 (tgt := 24) (by decide) (fun hx => absurd hx (by decide)) (fun _ => ?_)
      refine v_iconst (v := (-1)) hC dX10_bar_22 (by decide) ?_
      refine v_iret hC dX10_bar_23 ?_
      have hD : d_bar (x_u x) y z w = (-1, none) := by
        rw [d_bar]
        first
          | rw [inN_o g5]
          | (rw [inN_o g16]
             split
             · rename_i q; cases q
             · rfl)
      rw [hD]; exact ⟨rfl, hB, Tk.rf, Cf.rf, hW⟩
  · refine v_if_eq hC dX10_bar_8 (tgt := 22) (by decide) (fun _ => ?_) (fun hx => absurd hx (by decide))
    refine v_iconst (v := (-1)) hC dX10_bar_22 (by decide) ?_
    refine v_iret hC dX10_bar_23 ?_
    have hD : d_bar (x_u x) y z w = (-1, none) := by
      rw [d_bar]
      first
        | rw [inN_o g5]
        | (rw [inN_o g16]
           split
           · rename_i q; cases q
           · rfl)
    rw [hD]; exact ⟨rfl, hB, Tk.rf, Cf.rf, hW⟩
