theorem gD_app {α : Type} {l : List α} {x d : α} {a : Nat} : (l ++ [x]).getD a d = if a = l.length then x else l.getD a d := by
  rw [List.getD_eq_getElem?_getD]
  by_cases q : a = l.length
  · rw [if_pos q, q, List.getElem?_append_right (Nat.le_refl _), Nat.sub_self]; rfl
  · rw [if_neg q]
    by_cases q2 : a < l.length
    · rw [List.getElem?_append_left q2, List.getD_eq_getElem?_getD]
    · rw [List.getElem?_append_right (by omega), List.getElem?_eq_none (by show 1 ≤ _; omega), List.getD_eq_getElem?_getD, List.getElem?_eq_none (by omega)]
/-- a text that was read -/
def RdT (M : Me) (h : Nat) (gs : List Sg) : Prop := m_i M 284 h 0 = nI gs.length ∧ gs.length ≤ 30 ∧ 1 ≤ gs.length ∧ ∀ a, a < gs.length → SgN (fun b => rdM M h (11 * a + b)) (gs.getD a [])
set_option maxHeartbeats 4000000 in
set_option maxRecDepth 100000 in
theorem c_X11_readsText {l : Launch} {G : Gd} {M : Me} {h t : Nat} {tc : Nat → Int32} (hW : Wt M) (ht : m_t M h = 12) (hT : TA M h t tc) : CQ (Qi G (fun r M2 => Rd M M2 ∧ ((∃ i, fltF tc t = some i ∧ r = nI i ∧ i ≤ t) ∨ fltF tc t = none ∧ r = -5 ∧ RdT M2 h (sgT tc t)))) l G yX11_readsText cX11_readsText 2 ((some .int)) 3 68 0 0 [.ref h] M := by
  refine c_of ([some (.ref h), none] : Lo) RX11 "readsText" (by decide) rfl rfl (Nat.le_of_ble_eq_true rfl) rfl (fun p e s m below meth c hC nw => ?_)
  have hb := hT.1
  have loop : ∀ (j i : Nat) (gs : List Sg) (M1 : Me), gs.length + j = 32 → Rd M M1 → m_i M1 285 h 0 = nI i → m_i M1 284 h 0 = nI gs.length → pS tc i = some (gs, [], []) → i ≤ t → (∀ a, a < gs.length → SgN (fun b => rdM M1 h (11 * a + b)) (gs.getD a [])) → V p l e (rmk 3 68 0 0) s m ([.ref h] : List Value).toArray below meth c 2 G (MQ below (Qi G (fun r M2 => Rd M M2 ∧ ((∃ i, fltF tc t = some i ∧ r = nI i ∧ i ≤ t) ∨ fltF tc t = none ∧ r = -5 ∧ RdT M2 h (sgT tc t)))) ([.ref h] : List Value).toArray s 0 0 (fr_ G)) M1 0 0 16 ([some (.ref h), some (.int 1)] : Lo) [] := by
    intro j
    induction j with
    | zero => intro i gs M1 w1 hR9 hat1 hrs1 hps hit; exact absurd (pS_k hps) (by omega)
    | succ j ih =>
      intro i gs M1 w1 hR9 hat1 hrs1 hps hit hsg
      have hT1 := hT.rd hR9
      obtain ⟨bi, bl, rfl⟩ := hR9
      have hW1 : Wt (s_e M bi bl) := hW
      have ht1 : m_t (s_e M bi bl) h = 12 := ht
      refine v_aload_n hC dX11_readsText_16 rfl rfl ?_
      refine cVi0 hC (c_X11_readsSegment hW1 ht1 hT1 hat1 hrs1 hps hit rfl) yv_X11_readsSegment rfl ht1 mw_4_238 ⟨Nat.le_of_ble_eq_true rfl, Nat.le_of_ble_eq_true rfl⟩ ⟨Nat.le_of_ble_eq_true rfl, Nat.le_of_ble_eq_true rfl⟩ (Nat.le_of_ble_eq_true rfl) dX11_readsText_17 (fun r17 M19 hq => ?_)
      obtain ⟨hR2, hq2⟩ := hq
      have hT2 := hT1.rd hR2
      obtain ⟨bi2, bl2, rfl⟩ := hR2
      have hRR : Rd M (s_e (s_e M bi bl) bi2 bl2) := Rd.tr ⟨bi, bl, rfl⟩ ⟨bi2, bl2, rfl⟩
      have hW1 : Wt (s_e (s_e M bi bl) bi2 bl2) := hW1
      have ht1 : m_t (s_e (s_e M bi bl) bi2 bl2) h = 12 := ht1
      rcases hq2 with ⟨i2, rfl, k1, k2, k3⟩ | ⟨i2, ws, w, rfl, hat2, hrs2, hps2, hw0, hit2, hlt2, hbk2, hsg2, hbl2⟩
      · refine v_if_ne hC dX11_readsText_20 (tgt := 28) (by decide) (fun hx => absurd hx (by decide)) (fun _ => ?_)
        refine v_aload_n hC dX11_readsText_23 rfl rfl ?_
        refine gf_11_9 hC ht1 mw_4_129 dX11_readsText_24 ?_
        rw [k3]
        refine v_iret hC dX11_readsText_27 ?_
        exact ⟨hRR, Or.inl ⟨i2, k1, rfl, k2⟩⟩
      · refine v_if_ne hC dX11_readsText_20 (tgt := 28) (by decide) (fun _ => ?_) (fun hx => absurd hx (by decide))
        refine v_aload_n hC dX11_readsText_28 rfl rfl ?_
        refine gf_11_9 hC ht1 mw_4_129 dX11_readsText_29 ?_
        rw [hat2]
        refine v_aload_n hC dX11_readsText_32 rfl rfl ?_
        refine gf_11_6 hC ht1 mw_4_126 dX11_readsText_33 ?_
        rw [hT2.2.1]
        refine v_icmp_ge hC dX11_readsText_36 (tgt := 57) (by decide) (fun h36 => ?_) (fun h36 => ?_)
        · have hit3 := lp_ge h36
          refine v_iconst (v := 0) hC dX11_readsText_57 (by decide) ?_
          refine v_ist1 hC dX11_readsText_58 (by decide) (kk := ?_)
          refine v_aload_n hC dX11_readsText_59 rfl rfl ?_
          refine v_dup hC dX11_readsText_60 rfl ?_
          refine gf_11_9 hC ht1 mw_4_129 dX11_readsText_61 ?_
          rw [hat2]
          refine v_iload_n hC dX11_readsText_64 rfl rfl ?_
          refine v_if_eq hC dX11_readsText_65 (tgt := 72) (by decide) (fun _ => ?_) (fun hx => absurd hx (by decide))
          refine v_iconst (v := 0) hC dX11_readsText_72 (by decide) ?_
          refine v_iadd hC dX11_readsText_73 ?_
          first
            | rw [show nI i2 + 1 = nI (i2 + 1) from (nI_succ _).symm]
            | rw [Int32.add_zero]
          refine pf_11_9 hC ht1 mw_4_129 dX11_readsText_74 ?_
          refine v_goto hC dX11_readsText_77 (tgt := 12) (by decide) ?_
          refine v_iload_n hC dX11_readsText_12 rfl rfl ?_
          refine v_if_eq hC dX11_readsText_13 (tgt := 80) (by decide) (fun _ => ?_) (fun hx => absurd hx (by decide))
          refine v_aload_n hC dX11_readsText_80 rfl rfl ?_
          refine gf_11_9 hC ht1 mw_4_129 dX11_readsText_81 ?_
          rw [i_se]
          refine v_aload_n hC dX11_readsText_84 rfl rfl ?_
          refine gf_11_6 hC ht1 mw_4_126 dX11_readsText_85 ?_
          rw [show m_i (s_i (s_e (s_e M bi bl) bi2 bl2) 285 h 0 (nI i2)) 282 h 0 = nI t from (i_sk (by decide)).trans hT2.2.1]
          refine v_icmp_ge hC dX11_readsText_88 (tgt := 98) (by decide) (fun h88 => ?_) (fun h88 => ?_)
          · have hit4 := lp_ge h88
            refine v_bipush (v := (-5)) hC dX11_readsText_98 (by decide) ?_
            refine v_iret hC dX11_readsText_100 ?_
            have hie : i2 = t := by omega
            have hlen := pS_k hps2
            have esg : sgT tc t = gs ++ [ws ++ [w]] := by
              unfold sgT
              rw [← hie, hps2]
            refine ⟨hRR.tr (Rd.si (Or.inr rfl)), Or.inr ⟨by rw [← hie]; exact flt_ok hps2 hw0, rfl, ?_⟩⟩
            rw [esg]
            refine ⟨(i_sk (by decide)).trans (hrs2.trans (by rw [List.length_append]; rfl)), by rw [List.length_append]; show gs.length + 1 ≤ 30; omega, by rw [List.length_append]; show 1 ≤ gs.length + 1; omega, fun a ha => ?_⟩
            rw [gD_app]
            by_cases q : a = gs.length
            · rw [if_pos q, q]; exact hsg2
            · rw [if_neg q]
              rw [List.length_append] at ha
              have ha2 : a < gs.length + 1 := ha
              exact (hsg a (by omega)).congr (fun b hb2 => hbl2 _ (by omega))
          · have hit4 := lp_lt h88
            refine v_aload_n hC dX11_readsText_91 rfl rfl ?_
            refine gf_11_9 hC ht1 mw_4_129 dX11_readsText_92 ?_
            rw [i_se]
            refine v_goto hC dX11_readsText_95 (tgt := 100) (by decide) ?_
            refine v_iret hC dX11_readsText_100 ?_
            exact ⟨hRR.tr (Rd.si (Or.inr rfl)), Or.inl ⟨i2, flt_at hit4 hps2 (pz_n (fun z => hlt2.elim (fun q => by have := z.2.2; omega) (fun q => q ⟨hit4, z.1, z.2.1⟩)) (fun z => hbk2.elim (fun q => by have := z.2.2; omega) (fun q => q ⟨hit4, z.1⟩)) (fun z => by
              first
                | exact h50 z.1
                | omega)), rfl, by omega⟩⟩
        · have hit3 := lp_lt h36
          refine v_aload_n hC dX11_readsText_39 rfl rfl ?_
          refine gf_11_5 hC ht1 (wf_281 hW1 ht1) mw_4_125 dX11_readsText_40 ?_
          refine v_aload_n hC dX11_readsText_43 rfl rfl ?_
          refine gf_11_9 hC ht1 mw_4_129 dX11_readsText_44 ?_
          rw [hat2]
          refine v_cald 42 hC (wf_281 hW1 ht1) (by decide) (by decide) (ix_c (wz_42 hW1 (wf_281 hW1 ht1)) (by omega)) dX11_readsText_47 ?_
          rw [hT2.2.2 _ hit3]
          refine v_bipush (v := 46) hC dX11_readsText_48 (by decide) ?_
          refine v_icmp_ne hC dX11_readsText_50 (tgt := 57) (by decide) (fun h50 => ?_) (fun h50 => ?_)
          · refine v_iconst (v := 0) hC dX11_readsText_57 (by decide) ?_
            refine v_ist1 hC dX11_readsText_58 (by decide) (kk := ?_)
            refine v_aload_n hC dX11_readsText_59 rfl rfl ?_
            refine v_dup hC dX11_readsText_60 rfl ?_
            refine gf_11_9 hC ht1 mw_4_129 dX11_readsText_61 ?_
            rw [hat2]
            refine v_iload_n hC dX11_readsText_64 rfl rfl ?_
            refine v_if_eq hC dX11_readsText_65 (tgt := 72) (by decide) (fun _ => ?_) (fun hx => absurd hx (by decide))
            refine v_iconst (v := 0) hC dX11_readsText_72 (by decide) ?_
            refine v_iadd hC dX11_readsText_73 ?_
            first
              | rw [show nI i2 + 1 = nI (i2 + 1) from (nI_succ _).symm]
              | rw [Int32.add_zero]
            refine pf_11_9 hC ht1 mw_4_129 dX11_readsText_74 ?_
            refine v_goto hC dX11_readsText_77 (tgt := 12) (by decide) ?_
            refine v_iload_n hC dX11_readsText_12 rfl rfl ?_
            refine v_if_eq hC dX11_readsText_13 (tgt := 80) (by decide) (fun _ => ?_) (fun hx => absurd hx (by decide))
            refine v_aload_n hC dX11_readsText_80 rfl rfl ?_
            refine gf_11_9 hC ht1 mw_4_129 dX11_readsText_81 ?_
            rw [i_se]
            refine v_aload_n hC dX11_readsText_84 rfl rfl ?_
            refine gf_11_6 hC ht1 mw_4_126 dX11_readsText_85 ?_
            rw [show m_i (s_i (s_e (s_e M bi bl) bi2 bl2) 285 h 0 (nI i2)) 282 h 0 = nI t from (i_sk (by decide)).trans hT2.2.1]
            refine v_icmp_ge hC dX11_readsText_88 (tgt := 98) (by decide) (fun h88 => ?_) (fun h88 => ?_)
            · have hit4 := lp_ge h88
              refine v_bipush (v := (-5)) hC dX11_readsText_98 (by decide) ?_
              refine v_iret hC dX11_readsText_100 ?_
              have hie : i2 = t := by omega
              have hlen := pS_k hps2
              have esg : sgT tc t = gs ++ [ws ++ [w]] := by
                unfold sgT
                rw [← hie, hps2]
              refine ⟨hRR.tr (Rd.si (Or.inr rfl)), Or.inr ⟨by rw [← hie]; exact flt_ok hps2 hw0, rfl, ?_⟩⟩
              rw [esg]
              refine ⟨(i_sk (by decide)).trans (hrs2.trans (by rw [List.length_append]; rfl)), by rw [List.length_append]; show gs.length + 1 ≤ 30; omega, by rw [List.length_append]; show 1 ≤ gs.length + 1; omega, fun a ha => ?_⟩
              rw [gD_app]
              by_cases q : a = gs.length
              · rw [if_pos q, q]; exact hsg2
              · rw [if_neg q]
                rw [List.length_append] at ha
                have ha2 : a < gs.length + 1 := ha
                exact (hsg a (by omega)).congr (fun b hb2 => hbl2 _ (by omega))
            · have hit4 := lp_lt h88
              refine v_aload_n hC dX11_readsText_91 rfl rfl ?_
              refine gf_11_9 hC ht1 mw_4_129 dX11_readsText_92 ?_
              rw [i_se]
              refine v_goto hC dX11_readsText_95 (tgt := 100) (by decide) ?_
              refine v_iret hC dX11_readsText_100 ?_
              exact ⟨hRR.tr (Rd.si (Or.inr rfl)), Or.inl ⟨i2, flt_at hit4 hps2 (pz_n (fun z => hlt2.elim (fun q => by have := z.2.2; omega) (fun q => q ⟨hit4, z.1, z.2.1⟩)) (fun z => hbk2.elim (fun q => by have := z.2.2; omega) (fun q => q ⟨hit4, z.1⟩)) (fun z => by
                first
                  | exact h50 z.1
                  | omega)), rfl, by omega⟩⟩
          · refine v_iconst (v := 1) hC dX11_readsText_53 (by decide) ?_
            refine v_goto hC dX11_readsText_54 (tgt := 58) (by decide) ?_
            refine v_ist1 hC dX11_readsText_58 (by decide) (kk := ?_)
            refine v_aload_n hC dX11_readsText_59 rfl rfl ?_
            refine v_dup hC dX11_readsText_60 rfl ?_
            refine gf_11_9 hC ht1 mw_4_129 dX11_readsText_61 ?_
            rw [hat2]
            refine v_iload_n hC dX11_readsText_64 rfl rfl ?_
            refine v_if_eq hC dX11_readsText_65 (tgt := 72) (by decide) (fun hx => absurd hx (by decide)) (fun _ => ?_)
            refine v_iconst (v := 1) hC dX11_readsText_68 (by decide) ?_
            refine v_goto hC dX11_readsText_69 (tgt := 73) (by decide) ?_
            refine v_iadd hC dX11_readsText_73 ?_
            first
              | rw [show nI i2 + 1 = nI (i2 + 1) from (nI_succ _).symm]
              | rw [Int32.add_zero]
            refine pf_11_9 hC ht1 mw_4_129 dX11_readsText_74 ?_
            refine v_goto hC dX11_readsText_77 (tgt := 12) (by decide) ?_
            refine v_iload_n hC dX11_readsText_12 rfl rfl ?_
            refine v_if_eq hC dX11_readsText_13 (tgt := 80) (by decide) (fun hx => absurd hx (by decide)) (fun _ => ?_)
            exact ih (i2 + 1) (gs ++ [ws ++ [w]]) _ (by rw [List.length_append]; show gs.length + 1 + j = 32; omega) (hRR.tr (Rd.si (Or.inr rfl))) i_se ((i_sk (by decide)).trans (hrs2.trans (by rw [List.length_append]; rfl))) ((pS_s hps2).trans (by rw [h50]; exact pz_d hw0)) (by omega) (fun a ha => by
              rw [gD_app]
              by_cases q : a = gs.length
              · rw [if_pos q, q]; exact hsg2
              · rw [if_neg q]
                rw [List.length_append] at ha
                have ha2 : a < gs.length + 1 := ha
                exact (hsg a (by omega)).congr (fun b hb2 => hbl2 _ (by omega)))
  refine v_aload_n hC dX11_readsText_0 rfl rfl ?_
  refine v_iconst (v := 0) hC dX11_readsText_1 (by decide) ?_
  refine pf_11_9 hC ht mw_4_129 dX11_readsText_2 ?_
  refine v_aload_n hC dX11_readsText_5 rfl rfl ?_
  refine v_iconst (v := 0) hC dX11_readsText_6 (by decide) ?_
  refine pf_11_8 hC ht mw_4_128 dX11_readsText_7 ?_
  refine v_iconst (v := 1) hC dX11_readsText_10 (by decide) ?_
  refine v_ist1 hC dX11_readsText_11 (by decide) (kk := ?_)
  refine v_iload_n hC dX11_readsText_12 rfl rfl ?_
  refine v_if_eq hC dX11_readsText_13 (tgt := 80) (by decide) (fun hx => absurd hx (by decide)) (fun _ => ?_)
  exact loop 32 0 [] _ (by rfl) ((Rd.si (Or.inr rfl)).tr (Rd.si (Or.inl rfl))) ((i_sk (by decide)).trans i_se) i_se rfl (Nat.zero_le _) (fun a ha => absurd ha (Nat.not_lt_zero a))
