theorem l_div {a b : Nat} (ha : a < 2 ^ 62) (hb : b < 2 ^ 62) : Int64.ofNat a / Int64.ofNat b = Int64.ofNat (a / b) := by
  have h1 : a / b ≤ a := Nat.div_le_self a b
  apply Int64.toInt_inj.mp
  rw [Int64.toInt_div, Int64.toInt_ofNat_of_lt (by omega), Int64.toInt_ofNat_of_lt (by omega), Int64.toInt_ofNat_of_lt (by omega), ← Int.ofNat_tdiv]
  generalize a / b = q at h1 ⊢
  exact Int.bmod_eq_of_le (by omega) (by omega)
theorem l_27 {a c : Nat} (ha : a * 27 + c < 2 ^ 62) (hc : c < 27) : Int64.ofNat (a * 27 + c) / 27 = Int64.ofNat a := by
  rw [show (27 : Int64) = Int64.ofNat 27 from rfl, l_div ha (by omega)]
  exact congrArg Int64.ofNat (by omega)
theorem l_r27 {a c : Nat} : Int64.ofNat (a * 27 + c) - Int64.ofNat a * 27 = Int64.ofNat c := by
  rw [Int64.ofNat_add, Int64.ofNat_mul, show Int64.ofNat 27 = 27 from rfl, Int64.add_comm, Int64.add_sub_cancel]
theorem tk27 {w : List Nat} {j : Nat} (h : j < w.length) : v27 (w.take (j + 1)) = v27 (w.take j) * 27 + w.getD j 0 := by
  show vB 27 _ = vB 27 _ * 27 + _
  rw [List.take_succ_eq_append_getElem h, vB_snoc, List.getD_eq_getElem?_getD, List.getElem?_eq_getElem h]
  rfl
theorem tk_lt {w : List Nat} (h : w.length ≤ 8) (h2 : ∀ c ∈ w, 1 ≤ c ∧ c ≤ 26) (j : Nat) : v27 (w.take j) < 2 ^ 62 := by
  have h1 := vB_lt (B := 27) (by decide) (w.take j).length (w.take j) rfl (fun c q => h2 c (List.mem_of_mem_take q))
  have h3 : (27 : Nat) ^ (w.take j).length ≤ 27 ^ 8 := Nat.pow_le_pow_right (by decide) (by rw [List.length_take]; omega)
  have h4 : (27 : Nat) ^ 8 < 2 ^ 62 := by decide
  exact Nat.lt_of_lt_of_le h1 (Nat.le_trans h3 (Nat.le_of_lt h4))
theorem gD_le {w : List Nat} (h2 : ∀ c ∈ w, 1 ≤ c ∧ c ≤ 26) {j : Nat} (h : j < w.length) : 1 ≤ w.getD j 0 ∧ w.getD j 0 ≤ 26 := by
  rw [List.getD_eq_getElem?_getD, List.getElem?_eq_getElem h]
  exact h2 _ (List.getElem_mem h)
theorem l_le0 {a : Nat} (h : a < 2 ^ 62) : lg_cmp (Int64.ofNat a) 0 ≤ 0 ↔ a = 0 := by
  rw [lg_cmp_le, show (0 : Int64) = Int64.ofNat 0 from rfl, Int64.le_iff_toInt_le, Int64.toInt_ofNat_of_lt (by omega), Int64.toInt_ofNat_of_lt (by omega)]
  omega
theorem tk_z {w : List Nat} (h2 : ∀ c ∈ w, 1 ≤ c ∧ c ≤ 26) {j : Nat} (hj : j ≤ w.length) : v27 (w.take j) = 0 ↔ j = 0 := by
  cases j with
  | zero => exact ⟨fun _ => rfl, fun _ => rfl⟩
  | succ j =>
    rw [tk27 (by omega)]
    have := gD_le h2 (show j < w.length by omega)
    exact ⟨fun q => by omega, fun q => by omega⟩
theorem nI_slt {a b : Nat} (ha : a < 2 ^ 30) (hb : b < 2 ^ 30) : nI a - nI b < 0 ↔ a < b := by
  rw [Int32.lt_iff_toInt_lt, Int32.toInt_sub, nI_toInt (by omega), nI_toInt (by omega), Int.bmod_eq_of_le (by omega) (by omega), show (0 : Int32).toInt = 0 from rfl]
  omega
theorem l_toI {a : Nat} : (Int64.ofNat a).toInt32 = nI a := by simp [nI]
def chr (g : Sg) (z : Nat) : Int32 := if z < (txS g).length then nI ((txS g).getD z 0) else -5
theorem chr_n (z : Nat) : chr [] z = -5 := if_neg (Nat.not_lt_zero z)
theorem gD_map {w : List Nat} {z : Nat} (h : z < w.length) : (w.map (96 + ·)).getD z 0 = 96 + w.getD z 0 := by
  rw [List.getD_eq_getElem?_getD, List.getElem?_map, List.getElem?_eq_getElem h, List.getD_eq_getElem?_getD, List.getElem?_eq_getElem h]; rfl
theorem chr_c (w : List Nat) (g : Sg) (z : Nat) : chr (w :: g) z = if z < w.length then nI (96 + w.getD z 0) else if z = w.length ∧ 0 < g.length then 32 else if z < w.length + 1 then -5 else chr g (z - (w.length + 1)) := by
  cases g with
  | nil =>
    unfold chr
    show (if z < (w.map (96 + ·)).length then nI ((w.map (96 + ·)).getD z 0) else -5) = _
    rw [List.length_map]
    by_cases q : z < w.length
    · rw [if_pos q, if_pos q, gD_map q]
    · rw [if_neg q, if_neg q, if_neg (fun k => absurd k.2 (Nat.lt_irrefl 0))]
      by_cases q2 : z < w.length + 1
      · rw [if_pos q2]
      · rw [if_neg q2]; exact (if_neg (Nat.not_lt_zero _)).symm
  | cons v g =>
    have e : txS (w :: v :: g) = w.map (96 + ·) ++ 32 :: txS (v :: g) := rfl
    unfold chr
    rw [e, List.length_append, List.length_cons, List.length_map, List.getD_eq_getElem?_getD]
    by_cases q : z < w.length
    · rw [if_pos q, if_pos (by omega), List.getElem?_append_left (by rw [List.length_map]; exact q), ← List.getD_eq_getElem?_getD, gD_map q]
    · rw [if_neg q]
      by_cases q1 : z = w.length
      · rw [if_pos (show z < w.length + ((txS (v :: g)).length + 1) by omega), if_pos (⟨q1, Nat.zero_lt_succ _⟩ : z = w.length ∧ 0 < (v :: g).length), List.getElem?_append_right (by rw [List.length_map]; omega), List.length_map, show z - w.length = 0 by omega]; rfl
      · rw [if_neg (show ¬ (z = w.length ∧ 0 < (v :: g).length) from fun k => q1 k.1), if_neg (show ¬ z < w.length + 1 by omega), List.getElem?_append_right (by rw [List.length_map]; omega), List.length_map, show z - w.length = (z - (w.length + 1)) + 1 by omega, List.getElem?_cons_succ, ← List.getD_eq_getElem?_getD]
        by_cases q2 : z - (w.length + 1) < (txS (v :: g)).length
        · rw [if_pos (by omega), if_pos q2]
        · rw [if_neg (by omega), if_neg q2]
theorem chr_d {g : Sg} {k : Nat} (hk : k < g.length) (z : Nat) : chr (g.drop k) z = if z < (g.getD k []).length then nI (96 + (g.getD k []).getD z 0) else if z = (g.getD k []).length ∧ k + 1 < g.length then 32 else if z < (g.getD k []).length + 1 then -5 else chr (g.drop (k + 1)) (z - ((g.getD k []).length + 1)) := by
  have e : g.getD k [] = g[k] := by rw [List.getD_eq_getElem?_getD, List.getElem?_eq_getElem hk]; rfl
  rw [e, List.drop_eq_getElem_cons hk, chr_c]
  have : (0 < (g.drop (k + 1)).length) = (k + 1 < g.length) := by rw [List.length_drop]; exact propext ⟨fun q => by omega, fun q => by omega⟩
  simp only [this]
theorem nI_dec (j : Nat) : nI (j + 1) + (-1) = nI j := by
  rw [← nI_pred j, Int32.sub_eq_add_neg]
set_option maxHeartbeats 4000000 in
set_option maxRecDepth 100000 in
theorem c_X11_lettersOf {l : Launch} {G : Gd} {M : Me} {w : List Nat} (hl : w.length ≤ 8) (h2 : ∀ c ∈ w, 1 ≤ c ∧ c ≤ 26) : CQ (Qi G (fun r M2 => r = nI w.length ∧ M2 = M)) l G yX11_lettersOf cX11_lettersOf 5 ((some .int)) 0 0 0 0 [.long (Int64.ofNat (v27 w))] M := by
  refine c_of ([some (.long (Int64.ofNat (v27 w))), none, none, none, none] : Lo) RX11 "lettersOf" (by decide) rfl rfl (Nat.le_of_ble_eq_true rfl) rfl (fun p e s m below meth c hC nw => ?_)
  have hS0 : v27 w = v27 (w.take w.length) := by rw [List.take_length]
  have loop : ∀ (j i : Nat), i + j = w.length → V p l e (rmk 0 0 0 0) s m ([.long (Int64.ofNat (v27 w))] : List Value).toArray below meth c 5 G (MQ below (Qi G (fun r M2 => r = nI w.length ∧ M2 = M)) ([.long (Int64.ofNat (v27 w))] : List Value).toArray s 0 0 (fr_ G)) M 0 0 4 ([some (.long (Int64.ofNat (v27 w))), none, some (.int (nI i)), some (.long (Int64.ofNat (v27 (w.take j)))), none] : Lo) [] := by
    intro j
    induction j with
    | zero =>
      intro i w1
      refine v_lload_n hC dX11_lettersOf_4 rfl rfl ?_
      refine v_lconst (v := 0) hC dX11_lettersOf_5 (by decide) ?_
      refine v_lcmp hC dX11_lettersOf_6 ?_
      refine v_if_le hC dX11_lettersOf_7 (tgt := 22) (by decide) (fun _ => ?_) (fun h7 => absurd ((l_le0 (tk_lt hl h2 0)).mpr rfl) h7)
      refine v_iload_n hC dX11_lettersOf_22 rfl rfl ?_
      refine v_iret hC dX11_lettersOf_23 ?_
      exact ⟨congrArg nI (by omega), rfl⟩
    | succ j ih =>
      intro i w1
      have hj : j < w.length := by omega
      have hg := gD_le h2 hj
      refine v_lload_n hC dX11_lettersOf_4 rfl rfl ?_
      refine v_lconst (v := 0) hC dX11_lettersOf_5 (by decide) ?_
      refine v_lcmp hC dX11_lettersOf_6 ?_
      refine v_if_le hC dX11_lettersOf_7 (tgt := 22) (by decide) (fun h7 => absurd ((tk_z h2 (show j + 1 ≤ w.length by omega)).mp ((l_le0 (tk_lt hl h2 (j + 1))).mp h7)) (Nat.succ_ne_zero j)) (fun h7 => ?_)
      refine v_inc2 hC dX11_lettersOf_10 ((nI_succ i).symm) (by decide) (kk := ?_)
      refine v_lload_n hC dX11_lettersOf_13 rfl rfl ?_
      refine v_ldc2 hC mw_5_10 dX11_lettersOf_14 ?_
      refine v_ldiv hC dX11_lettersOf_17 (by decide) ?_
      rw [tk27 hj, l_27 (by rw [← tk27 hj]; exact tk_lt hl h2 (j + 1)) (by omega)]
      refine v_lst3 hC dX11_lettersOf_18 (by decide) (kk := ?_)
      refine v_goto hC dX11_lettersOf_19 (tgt := 4) (by decide) ?_
      exact ih (i + 1) (by omega)
  refine v_iconst (v := 0) hC dX11_lettersOf_0 (by decide) ?_
  refine v_ist2 hC dX11_lettersOf_1 (by decide) (kk := ?_)
  refine v_lload_n hC dX11_lettersOf_2 rfl rfl ?_
  refine v_lst3 hC dX11_lettersOf_3 (by decide) (kk := ?_)
  have z9 := loop w.length 0 (by omega)
  rw [← hS0] at z9
  exact z9

set_option maxHeartbeats 4000000 in
set_option maxRecDepth 100000 in
theorem c_X11_letter {l : Launch} {G : Gd} {M : Me} {w : List Nat} {z : Nat} (hl : w.length ≤ 8) (h2 : ∀ c ∈ w, 1 ≤ c ∧ c ≤ 26) (hz : z < w.length) : CQ (Qi G (fun r M2 => r = nI (96 + w.getD z 0) ∧ M2 = M)) l G yX11_letter cX11_letter 6 ((some .int)) 1 24 0 0 [.long (Int64.ofNat (v27 w)), .int (nI z)] M := by
  refine c_of ([some (.long (Int64.ofNat (v27 w))), none, some (.int (nI z)), none, none, none] : Lo) RX11 "letter" (by decide) rfl rfl (Nat.le_of_ble_eq_true rfl) rfl (fun p e s m below meth c hC nw => ?_)
  have hS0 : v27 w = v27 (w.take (w.length - 1 + 1)) := by rw [Nat.sub_add_cancel (by omega), List.take_length]
  have loop : ∀ (k j : Nat), z + k = j → j < w.length → V p l e (rmk 1 24 0 0) s m ([.long (Int64.ofNat (v27 w)), .int (nI z)] : List Value).toArray below meth c 6 G (MQ below (Qi G (fun r M2 => r = nI (96 + w.getD z 0) ∧ M2 = M)) ([.long (Int64.ofNat (v27 w)), .int (nI z)] : List Value).toArray s 0 0 (fr_ G)) M 0 0 10 ([some (.long (Int64.ofNat (v27 w))), none, some (.int (nI z)), some (.long (Int64.ofNat (v27 (w.take (j + 1))))), none, some (.int (nI j))] : Lo) [] := by
    intro k
    induction k with
    | zero =>
      intro j w1 w2
      have hg := gD_le h2 w2
      have e : z = j := by omega
      subst e
      refine v_iload hC dX11_letter_10 rfl ?_
      refine v_iload_n hC dX11_letter_12 rfl rfl ?_
      refine v_icmp_le hC dX11_letter_13 (tgt := 28) (by decide) (fun _ => ?_) (fun h7 => absurd (Int32.le_refl _) h7)
      refine v_lload_n hC dX11_letter_28 rfl rfl ?_
      refine v_ldc2 hC mw_5_10 dX11_letter_29 ?_
      refine v_lrem hC dX11_letter_32 (by decide) ?_
      rw [tk27 w2, l_27 (by rw [← tk27 w2]; exact tk_lt hl h2 (z + 1)) (by omega), l_r27]
      refine v_l2i hC dX11_letter_33 ?_
      refine v_bipush (v := 97) hC dX11_letter_34 (by decide) ?_
      refine v_iadd hC dX11_letter_36 ?_
      refine v_iconst (v := 1) hC dX11_letter_37 (by decide) ?_
      refine v_isub hC dX11_letter_38 ?_
      refine v_iret hC dX11_letter_39 ?_
      exact ⟨by rw [l_toI, show (97 : Int32) = nI 97 from rfl, nI_add, show (1 : Int32) = nI 1 from rfl, nI_sb (by omega)]; exact congrArg nI (by omega), rfl⟩
    | succ k ih =>
      intro j w1 w2
      obtain ⟨j9, rfl⟩ : ∃ j9, j = j9 + 1 := ⟨j - 1, by omega⟩
      have hg := gD_le h2 w2
      refine v_iload hC dX11_letter_10 rfl ?_
      refine v_iload_n hC dX11_letter_12 rfl rfl ?_
      refine v_icmp_le hC dX11_letter_13 (tgt := 28) (by decide) (fun h13 => absurd h13 (fun q => i_ab (nI_lt (show z < j9 + 1 by omega) (by omega)) q)) (fun h13 => ?_)
      refine v_lload_n hC dX11_letter_16 rfl rfl ?_
      refine v_ldc2 hC mw_5_10 dX11_letter_17 ?_
      refine v_ldiv hC dX11_letter_20 (by decide) ?_
      rw [tk27 w2, l_27 (by rw [← tk27 w2]; exact tk_lt hl h2 (j9 + 1 + 1)) (by omega)]
      refine v_lst3 hC dX11_letter_21 (by decide) (kk := ?_)
      refine v_inc5 hC dX11_letter_22 (nI_dec j9) (by decide) (kk := ?_)
      refine v_goto hC dX11_letter_25 (tgt := 10) (by decide) ?_
      exact ih j9 (by omega) (by omega)
  refine v_lload_n hC dX11_letter_0 rfl rfl ?_
  refine v_lst3 hC dX11_letter_1 (by decide) (kk := ?_)
  refine v_lload_n hC dX11_letter_2 rfl rfl ?_
  refine cSi1 hC (c_X11_lettersOf (by assumption) (by assumption)) ys_X11_lettersOf mw_5_217 ⟨Nat.le_of_ble_eq_true rfl, Nat.le_of_ble_eq_true rfl⟩ ⟨Nat.le_of_ble_eq_true rfl, Nat.le_of_ble_eq_true rfl⟩ (Nat.le_of_ble_eq_true rfl) dX11_letter_3 (fun r3 M5 hq => ?_)
  obtain ⟨rfl, hm⟩ := hq
  have hm2 := hm.symm
  clear hm
  subst hm2
  refine v_iconst (v := 1) hC dX11_letter_6 (by decide) ?_
  refine v_isub hC dX11_letter_7 ?_
  rw [nI_p1 (by omega)]
  refine v_ist5 hC dX11_letter_8 (by decide) (kk := ?_)
  have z9 := loop (w.length - 1 - z) (w.length - 1) (by omega) (by omega)
  rw [← hS0] at z9
  exact z9

theorem bits_b : ∀ b : Fin 64, (0 : Int32) + (nI b >>> ((0 : Int32) &&& 31) &&& 1) + (nI b >>> ((1 : Int32) &&& 31) &&& 1) + (nI b >>> ((2 : Int32) &&& 31) &&& 1) + (nI b >>> ((3 : Int32) &&& 31) &&& 1) + (nI b >>> ((4 : Int32) &&& 31) &&& 1) + (nI b >>> ((5 : Int32) &&& 31) &&& 1) = bcN (nI b) := by decide
set_option maxHeartbeats 4000000 in
set_option maxRecDepth 100000 in
theorem c_X11_bits {l : Launch} {G : Gd} {M : Me} {b : Nat} (hb : b < 64) : CQ (Qi G (fun r M2 => r = bcN (nI b) ∧ M2 = M)) l G yX11_bits cX11_bits 3 ((some .int)) 0 0 0 0 [.int (nI b)] M := by
  refine c_of ([some (.int (nI b)), none, none] : Lo) RX11 "bits" (by decide) rfl rfl (Nat.le_of_ble_eq_true rfl) rfl (fun p e s m below meth c hC nw => ?_)
  refine v_iconst (v := 0) hC dX11_bits_0 (by decide) ?_
  refine v_ist1 hC dX11_bits_1 (by decide) (kk := ?_)
  refine v_iconst (v := 0) hC dX11_bits_2 (by decide) ?_
  refine v_ist2 hC dX11_bits_3 (by decide) (kk := ?_)
  refine v_iload_n hC dX11_bits_4 rfl rfl ?_
  refine v_bipush (v := 6) hC dX11_bits_5 (by decide) ?_
  refine v_icmp_ge hC dX11_bits_7 (tgt := 24) (by decide) (fun hx => absurd hx (by decide)) (fun _ => ?_)
  refine v_iload_n hC dX11_bits_10 rfl rfl ?_
  refine v_iload_n hC dX11_bits_11 rfl rfl ?_
  refine v_iload_n hC dX11_bits_12 rfl rfl ?_
  refine v_ishr hC dX11_bits_13 ?_
  refine v_iconst (v := 1) hC dX11_bits_14 (by decide) ?_
  refine v_iand hC dX11_bits_15 ?_
  refine v_iadd hC dX11_bits_16 ?_
  refine v_ist1 hC dX11_bits_17 (by decide) (kk := ?_)
  refine v_inc2 hC dX11_bits_18 (v := 1) (by decide) (by decide) (kk := ?_)
  refine v_goto hC dX11_bits_21 (tgt := 4) (by decide) ?_
  refine v_iload_n hC dX11_bits_4 rfl rfl ?_
  refine v_bipush (v := 6) hC dX11_bits_5 (by decide) ?_
  refine v_icmp_ge hC dX11_bits_7 (tgt := 24) (by decide) (fun hx => absurd hx (by decide)) (fun _ => ?_)
  refine v_iload_n hC dX11_bits_10 rfl rfl ?_
  refine v_iload_n hC dX11_bits_11 rfl rfl ?_
  refine v_iload_n hC dX11_bits_12 rfl rfl ?_
  refine v_ishr hC dX11_bits_13 ?_
  refine v_iconst (v := 1) hC dX11_bits_14 (by decide) ?_
  refine v_iand hC dX11_bits_15 ?_
  refine v_iadd hC dX11_bits_16 ?_
  refine v_ist1 hC dX11_bits_17 (by decide) (kk := ?_)
  refine v_inc2 hC dX11_bits_18 (v := 2) (by decide) (by decide) (kk := ?_)
  refine v_goto hC dX11_bits_21 (tgt := 4) (by decide) ?_
  refine v_iload_n hC dX11_bits_4 rfl rfl ?_
  refine v_bipush (v := 6) hC dX11_bits_5 (by decide) ?_
  refine v_icmp_ge hC dX11_bits_7 (tgt := 24) (by decide) (fun hx => absurd hx (by decide)) (fun _ => ?_)
  refine v_iload_n hC dX11_bits_10 rfl rfl ?_
  refine v_iload_n hC dX11_bits_11 rfl rfl ?_
  refine v_iload_n hC dX11_bits_12 rfl rfl ?_
  refine v_ishr hC dX11_bits_13 ?_
  refine v_iconst (v := 1) hC dX11_bits_14 (by decide) ?_
  refine v_iand hC dX11_bits_15 ?_
  refine v_iadd hC dX11_bits_16 ?_
  refine v_ist1 hC dX11_bits_17 (by decide) (kk := ?_)
  refine v_inc2 hC dX11_bits_18 (v := 3) (by decide) (by decide) (kk := ?_)
  refine v_goto hC dX11_bits_21 (tgt := 4) (by decide) ?_
  refine v_iload_n hC dX11_bits_4 rfl rfl ?_
  refine v_bipush (v := 6) hC dX11_bits_5 (by decide) ?_
  refine v_icmp_ge hC dX11_bits_7 (tgt := 24) (by decide) (fun hx => absurd hx (by decide)) (fun _ => ?_)
  refine v_iload_n hC dX11_bits_10 rfl rfl ?_
  refine v_iload_n hC dX11_bits_11 rfl rfl ?_
  refine v_iload_n hC dX11_bits_12 rfl rfl ?_
  refine v_ishr hC dX11_bits_13 ?_
  refine v_iconst (v := 1) hC dX11_bits_14 (by decide) ?_
  refine v_iand hC dX11_bits_15 ?_
  refine v_iadd hC dX11_bits_16 ?_
  refine v_ist1 hC dX11_bits_17 (by decide) (kk := ?_)
  refine v_inc2 hC dX11_bits_18 (v := 4) (by decide) (by decide) (kk := ?_)
  refine v_goto hC dX11_bits_21 (tgt := 4) (by decide) ?_
  refine v_iload_n hC dX11_bits_4 rfl rfl ?_
  refine v_bipush (v := 6) hC dX11_bits_5 (by decide) ?_
  refine v_icmp_ge hC dX11_bits_7 (tgt := 24) (by decide) (fun hx => absurd hx (by decide)) (fun _ => ?_)
  refine v_iload_n hC dX11_bits_10 rfl rfl ?_
  refine v_iload_n hC dX11_bits_11 rfl rfl ?_
  refine v_iload_n hC dX11_bits_12 rfl rfl ?_
  refine v_ishr hC dX11_bits_13 ?_
  refine v_iconst (v := 1) hC dX11_bits_14 (by decide) ?_
  refine v_iand hC dX11_bits_15 ?_
  refine v_iadd hC dX11_bits_16 ?_
  refine v_ist1 hC dX11_bits_17 (by decide) (kk := ?_)
  refine v_inc2 hC dX11_bits_18 (v := 5) (by decide) (by decide) (kk := ?_)
  refine v_goto hC dX11_bits_21 (tgt := 4) (by decide) ?_
  refine v_iload_n hC dX11_bits_4 rfl rfl ?_
  refine v_bipush (v := 6) hC dX11_bits_5 (by decide) ?_
  refine v_icmp_ge hC dX11_bits_7 (tgt := 24) (by decide) (fun hx => absurd hx (by decide)) (fun _ => ?_)
  refine v_iload_n hC dX11_bits_10 rfl rfl ?_
  refine v_iload_n hC dX11_bits_11 rfl rfl ?_
  refine v_iload_n hC dX11_bits_12 rfl rfl ?_
  refine v_ishr hC dX11_bits_13 ?_
  refine v_iconst (v := 1) hC dX11_bits_14 (by decide) ?_
  refine v_iand hC dX11_bits_15 ?_
  refine v_iadd hC dX11_bits_16 ?_
  refine v_ist1 hC dX11_bits_17 (by decide) (kk := ?_)
  refine v_inc2 hC dX11_bits_18 (v := 6) (by decide) (by decide) (kk := ?_)
  refine v_goto hC dX11_bits_21 (tgt := 4) (by decide) ?_
  refine v_iload_n hC dX11_bits_4 rfl rfl ?_
  refine v_bipush (v := 6) hC dX11_bits_5 (by decide) ?_
  refine v_icmp_ge hC dX11_bits_7 (tgt := 24) (by decide) (fun _ => ?_) (fun hx => absurd hx (by decide))
  refine v_iload_n hC dX11_bits_24 rfl rfl ?_
  refine v_iret hC dX11_bits_25 ?_
  exact ⟨bits_b ⟨b, hb⟩, rfl⟩
