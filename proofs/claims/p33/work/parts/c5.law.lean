theorem rm_c {a : Nat} (h : a ≤ 641887) : a ≤ room_1.cells := h
theorem rm_s {a : Nat} (h : a ≤ 7176587) : a ≤ room_1.slots := h
theorem gt_n4 {N i : Nat} (hN : N ≤ 2048) (hi : i ≤ 4096) : nI N - 4 < nI i ↔ ¬ i + 4 ≤ N := by
  rw [Int32.lt_iff_toInt_lt, Int32.toInt_sub, nI_toInt (by omega), nI_toInt (by omega), show (4 : Int32).toInt = 4 from rfl, Int.bmod_eq_of_le (by omega) (by omega)]
  omega
set_option maxHeartbeats 4000000 in
theorem lw_c0 {p : Program} {l : Launch} {e : Env} {s : State} {m : MethodId} {below : List Frame} {meth : Method} {c : Code} {G : Gd} {M : Me} {nm : String} {b h1 n1 h2 N K t : Nat} {xs : Nat → Int32} {x : Xs} {tc : Nat → Int32} (hC : Cx p m c s #[.ref b] meth cL_law 4 "MatchBureauLaw" nm ret G) (hlo : g_lo G = s.heap.size) (hX : va_X b N xs s (g_H G)) (hb : b < g_lo G) (hN : N ≤ 2048) (hi : 4 * K + 4 ≤ N) (J : IV K x t tc M h1 n1 h2) (cont : ∀ (x2 : Xs) (t2 : Nat) (tc2 : Nat → Int32) (M2 : Me), IV (K + 1) x2 t2 tc2 M2 h1 n1 h2 → V p l e room_1 s m #[.ref b] below meth c 4 G (lw_Z below #[.ref b] s) M2 (600 + 36 * (K + 1)) (14296 + 852 * (K + 1)) 1100 [some (.ref b), some (.ref h1), some (.ref h2), some (.int (nI (4 * K)))] []) : V p l e room_1 s m #[.ref b] below meth c 4 G (lw_Z below #[.ref b] s) M (600 + 36 * K) (14296 + 852 * K) 176 [some (.ref b), some (.ref h1), some (.ref h2), some (.int (nI (4 * K)))] [] := by
  have J0 := J
  obtain ⟨hW, hB, hT, hX0, hA, hR, hF⟩ := J0
  have hK : K < 512 := by omega
  have w := hF.1
  have hcap := hX0.2.1.1.1
  have hz := w.z
  have hO := w.o.1
  have hI := w.o.2
  have hD6 := w.d
  have hQ := w.q
  have hE := w.e
  have hBb := w.b.1
  have hY := w.b.2.1
  have hS := w.f.s
  have hAa := w.f.a
  have hV := w.f.v
  have hKk := w.f.k
  have hTt := w.t
  have hJj := w.jj (by omega)
  have hzh : ∀ j, j < x_n x → hzU (x_h x j) := fun j hj => (hF.2.1 j hj).z
  have hzs : x_f x = 1 → hzU (x_s x) := fun q => (hF.2.2 q).z
  refine v_aload_n hC dL_law_176 rfl rfl ?_
  refine v_aload_n hC dL_law_177 rfl rfl ?_
  refine v_iload_n hC dL_law_178 rfl rfl ?_
  refine v_iconst (v := 1) hC dL_law_179 (by decide) ?_
  refine v_iadd hC dL_law_180 ?_
  rw [show nI (4 * K) + 1 = nI (4 * K + 1) from nI_add _ 1]
  refine v_sld hC hX hb (j := 4 * K + 1) (ix_e rfl (by omega) (by omega)) dL_law_181 ?_
  refine cVi1 hC (c_X10_addPerson hW hB hz) yv_X10_addPerson rfl hB.1.1.1 mw_2_94 ⟨Nat.le_of_ble_eq_true rfl, Nat.le_of_ble_eq_true rfl⟩ ⟨rm_c (by omega), rm_s (by omega)⟩ (Nat.le_of_ble_eq_true rfl) dL_law_182 (fun r182 M185 hq => ?_)
  obtain ⟨rfl, hB2, hTk, hCf, hW2⟩ := hq
  have hT2 := hTk _ _ hT
  have hX2 := hX0.cf hR hCf
  have hA2 := hA.cf hR hCf
  refine v_pop hC dL_law_185 rfl ?_
  refine v_aload_n hC dL_law_186 rfl rfl ?_
  refine v_aload_n hC dL_law_187 rfl rfl ?_
  refine v_iload_n hC dL_law_188 rfl rfl ?_
  refine v_iconst (v := 1) hC dL_law_189 (by decide) ?_
  refine v_iadd hC dL_law_190 ?_
  rw [show nI (4 * K) + 1 = nI (4 * K + 1) from nI_add _ 1]
  refine v_sld hC hX hb (j := 4 * K + 1) (ix_e rfl (by omega) (by omega)) dL_law_191 ?_
  refine cVi1 hC (c_X11_addPerson hW2 hX2 hKk) yv_X11_addPerson rfl hX2.1 mw_4_177 ⟨Nat.le_of_ble_eq_true rfl, Nat.le_of_ble_eq_true rfl⟩ ⟨rm_c (by omega), rm_s (by omega)⟩ (Nat.le_of_ble_eq_true rfl) dL_law_192 (fun r192 M195 hq => ?_)
  obtain ⟨rfl, hX3, hOn, hW3, hTa⟩ := hq
  have hA3 := hTa _ _ hA2
  refine v_pop hC dL_law_195 rfl ?_
  refine v_goto hC dL_law_196 (tgt := 1100) (by decide) ?_
  refine v_wide (k := 600 + 36 * (K + 1)) (n := 14296 + 852 * (K + 1)) (by omega) (by omega) ?_
  exact cont _ _ _ _ (J.act hB2 hT2 hCf hX3 hOn hW3 hA3 (hF.act (fun v hv => wf_addPerson w hv)))
set_option maxHeartbeats 4000000 in
theorem lw_c1 {p : Program} {l : Launch} {e : Env} {s : State} {m : MethodId} {below : List Frame} {meth : Method} {c : Code} {G : Gd} {M : Me} {nm : String} {b h1 n1 h2 N K t : Nat} {xs : Nat → Int32} {x : Xs} {tc : Nat → Int32} (hC : Cx p m c s #[.ref b] meth cL_law 4 "MatchBureauLaw" nm ret G) (hlo : g_lo G = s.heap.size) (hX : va_X b N xs s (g_H G)) (hb : b < g_lo G) (hN : N ≤ 2048) (hi : 4 * K + 4 ≤ N) (J : IV K x t tc M h1 n1 h2) (cont : ∀ (x2 : Xs) (t2 : Nat) (tc2 : Nat → Int32) (M2 : Me), IV (K + 1) x2 t2 tc2 M2 h1 n1 h2 → V p l e room_1 s m #[.ref b] below meth c 4 G (lw_Z below #[.ref b] s) M2 (600 + 36 * (K + 1)) (14296 + 852 * (K + 1)) 1100 [some (.ref b), some (.ref h1), some (.ref h2), some (.int (nI (4 * K)))] []) : V p l e room_1 s m #[.ref b] below meth c 4 G (lw_Z below #[.ref b] s) M (600 + 36 * K) (14296 + 852 * K) 199 [some (.ref b), some (.ref h1), some (.ref h2), some (.int (nI (4 * K)))] [] := by
  have J0 := J
  obtain ⟨hW, hB, hT, hX0, hA, hR, hF⟩ := J0
  have hK : K < 512 := by omega
  have w := hF.1
  have hcap := hX0.2.1.1.1
  have hz := w.z
  have hO := w.o.1
  have hI := w.o.2
  have hD6 := w.d
  have hQ := w.q
  have hE := w.e
  have hBb := w.b.1
  have hY := w.b.2.1
  have hS := w.f.s
  have hAa := w.f.a
  have hV := w.f.v
  have hKk := w.f.k
  have hTt := w.t
  have hJj := w.jj (by omega)
  have hzh : ∀ j, j < x_n x → hzU (x_h x j) := fun j hj => (hF.2.1 j hj).z
  have hzs : x_f x = 1 → hzU (x_s x) := fun q => (hF.2.2 q).z
  refine v_aload_n hC dL_law_199 rfl rfl ?_
  refine v_aload_n hC dL_law_200 rfl rfl ?_
  refine v_iload_n hC dL_law_201 rfl rfl ?_
  refine v_iconst (v := 1) hC dL_law_202 (by decide) ?_
  refine v_iadd hC dL_law_203 ?_
  rw [show nI (4 * K) + 1 = nI (4 * K + 1) from nI_add _ 1]
  refine v_sld hC hX hb (j := 4 * K + 1) (ix_e rfl (by omega) (by omega)) dL_law_204 ?_
  refine v_aload_n hC dL_law_205 rfl rfl ?_
  refine v_iload_n hC dL_law_206 rfl rfl ?_
  refine v_iconst (v := 2) hC dL_law_207 (by decide) ?_
  refine v_iadd hC dL_law_208 ?_
  rw [show nI (4 * K) + 2 = nI (4 * K + 2) from nI_add _ 2]
  refine v_sld hC hX hb (j := 4 * K + 2) (ix_e rfl (by omega) (by omega)) dL_law_209 ?_
  refine v_aload_n hC dL_law_210 rfl rfl ?_
  refine v_iload_n hC dL_law_211 rfl rfl ?_
  refine v_iconst (v := 3) hC dL_law_212 (by decide) ?_
  refine v_iadd hC dL_law_213 ?_
  rw [show nI (4 * K) + 3 = nI (4 * K + 3) from nI_add _ 3]
  refine v_sld hC hX hb (j := 4 * K + 3) (ix_e rfl (by omega) (by omega)) dL_law_214 ?_
  refine v_if_eq hC dL_law_215 (tgt := 222) (by decide) (fun hbz => ?_) (fun hbz => ?_)
  · refine v_iconst (v := 0) hC dL_law_222 (by decide) ?_
    refine cVi3 hC (c_X10_bar hW hB hz) yv_X10_bar rfl hB.1.1.1 mw_2_139 ⟨Nat.le_of_ble_eq_true rfl, Nat.le_of_ble_eq_true rfl⟩ ⟨rm_c (by omega), rm_s (by omega)⟩ (Nat.le_of_ble_eq_true rfl) dL_law_223 (fun r223 M226 hq => ?_)
    obtain ⟨rfl, hB2, hTk, hCf, hW2⟩ := hq
    have hT2 := hTk _ _ hT
    have hX2 := hX0.cf hR hCf
    have hA2 := hA.cf hR hCf
    refine v_pop hC dL_law_226 rfl ?_
    refine v_aload_n hC dL_law_227 rfl rfl ?_
    refine v_aload_n hC dL_law_228 rfl rfl ?_
    refine v_iload_n hC dL_law_229 rfl rfl ?_
    refine v_iconst (v := 1) hC dL_law_230 (by decide) ?_
    refine v_iadd hC dL_law_231 ?_
    rw [show nI (4 * K) + 1 = nI (4 * K + 1) from nI_add _ 1]
    refine v_sld hC hX hb (j := 4 * K + 1) (ix_e rfl (by omega) (by omega)) dL_law_232 ?_
    refine v_aload_n hC dL_law_233 rfl rfl ?_
    refine v_iload_n hC dL_law_234 rfl rfl ?_
    refine v_iconst (v := 2) hC dL_law_235 (by decide) ?_
    refine v_iadd hC dL_law_236 ?_
    rw [show nI (4 * K) + 2 = nI (4 * K + 2) from nI_add _ 2]
    refine v_sld hC hX hb (j := 4 * K + 2) (ix_e rfl (by omega) (by omega)) dL_law_237 ?_
    refine v_aload_n hC dL_law_238 rfl rfl ?_
    refine v_iload_n hC dL_law_239 rfl rfl ?_
    refine v_iconst (v := 3) hC dL_law_240 (by decide) ?_
    refine v_iadd hC dL_law_241 ?_
    rw [show nI (4 * K) + 3 = nI (4 * K + 3) from nI_add _ 3]
    refine v_sld hC hX hb (j := 4 * K + 3) (ix_e rfl (by omega) (by omega)) dL_law_242 ?_
    refine v_if_eq hC dL_law_243 (tgt := 250) (by decide) (fun _ => ?_) (fun hbn => absurd hbz hbn)
    refine v_iconst (v := 0) hC dL_law_250 (by decide) ?_
    refine cVi3 hC (c_X11_bar hW2 hX2 hBb hY (Or.inl rfl)) yv_X11_bar rfl hX2.1 mw_4_190 ⟨Nat.le_of_ble_eq_true rfl, Nat.le_of_ble_eq_true rfl⟩ ⟨rm_c (by omega), rm_s (by omega)⟩ (Nat.le_of_ble_eq_true rfl) dL_law_251 (fun r251 M254 hq => ?_)
    obtain ⟨rfl, hX3, hOn, hW3, hTa⟩ := hq
    have hA3 := hTa _ _ hA2
    refine v_pop hC dL_law_254 rfl ?_
    refine v_goto hC dL_law_255 (tgt := 1100) (by decide) ?_
    refine v_wide (k := 600 + 36 * (K + 1)) (n := 14296 + 852 * (K + 1)) (by omega) (by omega) ?_
    exact cont _ _ _ _ (J.act hB2 hT2 hCf hX3 hOn hW3 hA3 (hF.act (fun v hv => wf_bar w hcap (Or.inl rfl) hv)))
  · refine v_iconst (v := 1) hC dL_law_218 (by decide) ?_
    refine v_goto hC dL_law_219 (tgt := 223) (by decide) ?_
    refine cVi3 hC (c_X10_bar hW hB hz) yv_X10_bar rfl hB.1.1.1 mw_2_139 ⟨Nat.le_of_ble_eq_true rfl, Nat.le_of_ble_eq_true rfl⟩ ⟨rm_c (by omega), rm_s (by omega)⟩ (Nat.le_of_ble_eq_true rfl) dL_law_223 (fun r223 M226 hq => ?_)
    obtain ⟨rfl, hB2, hTk, hCf, hW2⟩ := hq
    have hT2 := hTk _ _ hT
    have hX2 := hX0.cf hR hCf
    have hA2 := hA.cf hR hCf
    refine v_pop hC dL_law_226 rfl ?_
    refine v_aload_n hC dL_law_227 rfl rfl ?_
    refine v_aload_n hC dL_law_228 rfl rfl ?_
    refine v_iload_n hC dL_law_229 rfl rfl ?_
    refine v_iconst (v := 1) hC dL_law_230 (by decide) ?_
    refine v_iadd hC dL_law_231 ?_
    rw [show nI (4 * K) + 1 = nI (4 * K + 1) from nI_add _ 1]
    refine v_sld hC hX hb (j := 4 * K + 1) (ix_e rfl (by omega) (by omega)) dL_law_232 ?_
    refine v_aload_n hC dL_law_233 rfl rfl ?_
    refine v_iload_n hC dL_law_234 rfl rfl ?_
    refine v_iconst (v := 2) hC dL_law_235 (by decide) ?_
    refine v_iadd hC dL_law_236 ?_
    rw [show nI (4 * K) + 2 = nI (4 * K + 2) from nI_add _ 2]
    refine v_sld hC hX hb (j := 4 * K + 2) (ix_e rfl (by omega) (by omega)) dL_law_237 ?_
    refine v_aload_n hC dL_law_238 rfl rfl ?_
    refine v_iload_n hC dL_law_239 rfl rfl ?_
    refine v_iconst (v := 3) hC dL_law_240 (by decide) ?_
    refine v_iadd hC dL_law_241 ?_
    rw [show nI (4 * K) + 3 = nI (4 * K + 3) from nI_add _ 3]
    refine v_sld hC hX hb (j := 4 * K + 3) (ix_e rfl (by omega) (by omega)) dL_law_242 ?_
    refine v_if_eq hC dL_law_243 (tgt := 250) (by decide) (fun hbn => absurd hbn hbz) (fun _ => ?_)
    refine v_iconst (v := 1) hC dL_law_246 (by decide) ?_
    refine v_goto hC dL_law_247 (tgt := 251) (by decide) ?_
    refine cVi3 hC (c_X11_bar hW2 hX2 hBb hY (Or.inr rfl)) yv_X11_bar rfl hX2.1 mw_4_190 ⟨Nat.le_of_ble_eq_true rfl, Nat.le_of_ble_eq_true rfl⟩ ⟨rm_c (by omega), rm_s (by omega)⟩ (Nat.le_of_ble_eq_true rfl) dL_law_251 (fun r251 M254 hq => ?_)
    obtain ⟨rfl, hX3, hOn, hW3, hTa⟩ := hq
    have hA3 := hTa _ _ hA2
    refine v_pop hC dL_law_254 rfl ?_
    refine v_goto hC dL_law_255 (tgt := 1100) (by decide) ?_
    refine v_wide (k := 600 + 36 * (K + 1)) (n := 14296 + 852 * (K + 1)) (by omega) (by omega) ?_
    exact cont _ _ _ _ (J.act hB2 hT2 hCf hX3 hOn hW3 hA3 (hF.act (fun v hv => wf_bar w hcap (Or.inr rfl) hv)))
set_option maxHeartbeats 4000000 in
theorem lw_c2 {p : Program} {l : Launch} {e : Env} {s : State} {m : MethodId} {below : List Frame} {meth : Method} {c : Code} {G : Gd} {M : Me} {nm : String} {b h1 n1 h2 N K t : Nat} {xs : Nat → Int32} {x : Xs} {tc : Nat → Int32} (hC : Cx p m c s #[.ref b] meth cL_law 4 "MatchBureauLaw" nm ret G) (hlo : g_lo G = s.heap.size) (hX : va_X b N xs s (g_H G)) (hb : b < g_lo G) (hN : N ≤ 2048) (hi : 4 * K + 4 ≤ N) (J : IV K x t tc M h1 n1 h2) (cont : ∀ (x2 : Xs) (t2 : Nat) (tc2 : Nat → Int32) (M2 : Me), IV (K + 1) x2 t2 tc2 M2 h1 n1 h2 → V p l e room_1 s m #[.ref b] below meth c 4 G (lw_Z below #[.ref b] s) M2 (600 + 36 * (K + 1)) (14296 + 852 * (K + 1)) 1100 [some (.ref b), some (.ref h1), some (.ref h2), some (.int (nI (4 * K)))] []) : V p l e room_1 s m #[.ref b] below meth c 4 G (lw_Z below #[.ref b] s) M (600 + 36 * K) (14296 + 852 * K) 258 [some (.ref b), some (.ref h1), some (.ref h2), some (.int (nI (4 * K)))] [] := by
  have J0 := J
  obtain ⟨hW, hB, hT, hX0, hA, hR, hF⟩ := J0
  have hK : K < 512 := by omega
  have w := hF.1
  have hcap := hX0.2.1.1.1
  have hz := w.z
  have hO := w.o.1
  have hI := w.o.2
  have hD6 := w.d
  have hQ := w.q
  have hE := w.e
  have hBb := w.b.1
  have hY := w.b.2.1
  have hS := w.f.s
  have hAa := w.f.a
  have hV := w.f.v
  have hKk := w.f.k
  have hTt := w.t
  have hJj := w.jj (by omega)
  have hzh : ∀ j, j < x_n x → hzU (x_h x j) := fun j hj => (hF.2.1 j hj).z
  have hzs : x_f x = 1 → hzU (x_s x) := fun q => (hF.2.2 q).z
  refine v_aload_n hC dL_law_258 rfl rfl ?_
  refine v_aload_n hC dL_law_259 rfl rfl ?_
  refine v_iload_n hC dL_law_260 rfl rfl ?_
  refine v_iconst (v := 1) hC dL_law_261 (by decide) ?_
  refine v_iadd hC dL_law_262 ?_
  rw [show nI (4 * K) + 1 = nI (4 * K + 1) from nI_add _ 1]
  refine v_sld hC hX hb (j := 4 * K + 1) (ix_e rfl (by omega) (by omega)) dL_law_263 ?_
  refine v_aload_n hC dL_law_264 rfl rfl ?_
  refine v_iload_n hC dL_law_265 rfl rfl ?_
  refine v_iconst (v := 2) hC dL_law_266 (by decide) ?_
  refine v_iadd hC dL_law_267 ?_
  rw [show nI (4 * K) + 2 = nI (4 * K + 2) from nI_add _ 2]
  refine v_sld hC hX hb (j := 4 * K + 2) (ix_e rfl (by omega) (by omega)) dL_law_268 ?_
  refine cVi2 hC (c_X10_setShare hW hB hz) yv_X10_setShare rfl hB.1.1.1 mw_2_161 ⟨Nat.le_of_ble_eq_true rfl, Nat.le_of_ble_eq_true rfl⟩ ⟨rm_c (by omega), rm_s (by omega)⟩ (Nat.le_of_ble_eq_true rfl) dL_law_269 (fun r269 M272 hq => ?_)
  obtain ⟨rfl, hB2, hTk, hCf, hW2⟩ := hq
  have hT2 := hTk _ _ hT
  have hX2 := hX0.cf hR hCf
  have hA2 := hA.cf hR hCf
  refine v_pop hC dL_law_272 rfl ?_
  refine v_aload_n hC dL_law_273 rfl rfl ?_
  refine v_aload_n hC dL_law_274 rfl rfl ?_
  refine v_iload_n hC dL_law_275 rfl rfl ?_
  refine v_iconst (v := 1) hC dL_law_276 (by decide) ?_
  refine v_iadd hC dL_law_277 ?_
  rw [show nI (4 * K) + 1 = nI (4 * K + 1) from nI_add _ 1]
  refine v_sld hC hX hb (j := 4 * K + 1) (ix_e rfl (by omega) (by omega)) dL_law_278 ?_
  refine v_aload_n hC dL_law_279 rfl rfl ?_
  refine v_iload_n hC dL_law_280 rfl rfl ?_
  refine v_iconst (v := 2) hC dL_law_281 (by decide) ?_
  refine v_iadd hC dL_law_282 ?_
  rw [show nI (4 * K) + 2 = nI (4 * K + 2) from nI_add _ 2]
  refine v_sld hC hX hb (j := 4 * K + 2) (ix_e rfl (by omega) (by omega)) dL_law_283 ?_
  refine cVi2 hC (c_X11_setShare hW2 hX2) yv_X11_setShare rfl hX2.1 mw_4_205 ⟨Nat.le_of_ble_eq_true rfl, Nat.le_of_ble_eq_true rfl⟩ ⟨rm_c (by omega), rm_s (by omega)⟩ (Nat.le_of_ble_eq_true rfl) dL_law_284 (fun r284 M287 hq => ?_)
  obtain ⟨rfl, hX3, hOn, hW3, hTa⟩ := hq
  have hA3 := hTa _ _ hA2
  refine v_pop hC dL_law_287 rfl ?_
  refine v_goto hC dL_law_288 (tgt := 1100) (by decide) ?_
  refine v_wide (k := 600 + 36 * (K + 1)) (n := 14296 + 852 * (K + 1)) (by omega) (by omega) ?_
  exact cont _ _ _ _ (J.act hB2 hT2 hCf hX3 hOn hW3 hA3 (hF.act (fun v hv => wf_setShare w hv)))
set_option maxHeartbeats 4000000 in
theorem lw_c3 {p : Program} {l : Launch} {e : Env} {s : State} {m : MethodId} {below : List Frame} {meth : Method} {c : Code} {G : Gd} {M : Me} {nm : String} {b h1 n1 h2 N K t : Nat} {xs : Nat → Int32} {x : Xs} {tc : Nat → Int32} (hC : Cx p m c s #[.ref b] meth cL_law 4 "MatchBureauLaw" nm ret G) (hlo : g_lo G = s.heap.size) (hX : va_X b N xs s (g_H G)) (hb : b < g_lo G) (hN : N ≤ 2048) (hi : 4 * K + 4 ≤ N) (J : IV K x t tc M h1 n1 h2) (cont : ∀ (x2 : Xs) (t2 : Nat) (tc2 : Nat → Int32) (M2 : Me), IV (K + 1) x2 t2 tc2 M2 h1 n1 h2 → V p l e room_1 s m #[.ref b] below meth c 4 G (lw_Z below #[.ref b] s) M2 (600 + 36 * (K + 1)) (14296 + 852 * (K + 1)) 1100 [some (.ref b), some (.ref h1), some (.ref h2), some (.int (nI (4 * K)))] []) : V p l e room_1 s m #[.ref b] below meth c 4 G (lw_Z below #[.ref b] s) M (600 + 36 * K) (14296 + 852 * K) 291 [some (.ref b), some (.ref h1), some (.ref h2), some (.int (nI (4 * K)))] [] := by
  have J0 := J
  obtain ⟨hW, hB, hT, hX0, hA, hR, hF⟩ := J0
  have hK : K < 512 := by omega
  have w := hF.1
  have hcap := hX0.2.1.1.1
  have hz := w.z
  have hO := w.o.1
  have hI := w.o.2
  have hD6 := w.d
  have hQ := w.q
  have hE := w.e
  have hBb := w.b.1
  have hY := w.b.2.1
  have hS := w.f.s
  have hAa := w.f.a
  have hV := w.f.v
  have hKk := w.f.k
  have hTt := w.t
  have hJj := w.jj (by omega)
  have hzh : ∀ j, j < x_n x → hzU (x_h x j) := fun j hj => (hF.2.1 j hj).z
  have hzs : x_f x = 1 → hzU (x_s x) := fun q => (hF.2.2 q).z
  refine v_aload_n hC dL_law_291 rfl rfl ?_
  refine v_aload_n hC dL_law_292 rfl rfl ?_
  refine v_iload_n hC dL_law_293 rfl rfl ?_
  refine v_iconst (v := 1) hC dL_law_294 (by decide) ?_
  refine v_iadd hC dL_law_295 ?_
  rw [show nI (4 * K) + 1 = nI (4 * K + 1) from nI_add _ 1]
  refine v_sld hC hX hb (j := 4 * K + 1) (ix_e rfl (by omega) (by omega)) dL_law_296 ?_
  refine v_i2c hC dL_law_297 ?_
  refine cVi1 hC (c_X10_type hW hB hT (pk_nc _)) yv_X10_type rfl hB.1.1.1 mw_2_168 ⟨Nat.le_of_ble_eq_true rfl, Nat.le_of_ble_eq_true rfl⟩ ⟨rm_c (by omega), rm_s (by omega)⟩ (Nat.le_of_ble_eq_true rfl) dL_law_298 (fun r298 M301 hq => ?_)
  obtain ⟨rfl, hB2, hT2, hCf, hW2⟩ := hq
  have hX2 := hX0.cf hR hCf
  have hA2 := hA.cf hR hCf
  refine v_pop hC dL_law_301 rfl ?_
  refine v_aload_n hC dL_law_302 rfl rfl ?_
  refine v_aload_n hC dL_law_303 rfl rfl ?_
  refine v_iload_n hC dL_law_304 rfl rfl ?_
  refine v_iconst (v := 1) hC dL_law_305 (by decide) ?_
  refine v_iadd hC dL_law_306 ?_
  rw [show nI (4 * K) + 1 = nI (4 * K + 1) from nI_add _ 1]
  refine v_sld hC hX hb (j := 4 * K + 1) (ix_e rfl (by omega) (by omega)) dL_law_307 ?_
  refine v_i2c hC dL_law_308 ?_
  refine cVi1 hC (c_X11_type hW2 hX2 hA2 (pk_nc _)) yv_X11_type rfl hX2.1 mw_4_209 ⟨Nat.le_of_ble_eq_true rfl, Nat.le_of_ble_eq_true rfl⟩ ⟨rm_c (by omega), rm_s (by omega)⟩ (Nat.le_of_ble_eq_true rfl) dL_law_309 (fun r309 M312 hq => ?_)
  obtain ⟨rfl, hX3, hA3, hOn, hW3⟩ := hq
  refine v_pop hC dL_law_312 rfl ?_
  refine v_goto hC dL_law_313 (tgt := 1100) (by decide) ?_
  refine v_wide (k := 600 + 36 * (K + 1)) (n := 14296 + 852 * (K + 1)) (by omega) (by omega) ?_
  exact cont _ _ _ _ (J.act hB2 hT2 hCf hX3 hOn hW3 hA3 (hF.up (by omega)))
set_option maxHeartbeats 4000000 in
theorem lw_c4 {p : Program} {l : Launch} {e : Env} {s : State} {m : MethodId} {below : List Frame} {meth : Method} {c : Code} {G : Gd} {M : Me} {nm : String} {b h1 n1 h2 N K t : Nat} {xs : Nat → Int32} {x : Xs} {tc : Nat → Int32} (hC : Cx p m c s #[.ref b] meth cL_law 4 "MatchBureauLaw" nm ret G) (hlo : g_lo G = s.heap.size) (hX : va_X b N xs s (g_H G)) (hb : b < g_lo G) (hN : N ≤ 2048) (hi : 4 * K + 4 ≤ N) (J : IV K x t tc M h1 n1 h2) (cont : ∀ (x2 : Xs) (t2 : Nat) (tc2 : Nat → Int32) (M2 : Me), IV (K + 1) x2 t2 tc2 M2 h1 n1 h2 → V p l e room_1 s m #[.ref b] below meth c 4 G (lw_Z below #[.ref b] s) M2 (600 + 36 * (K + 1)) (14296 + 852 * (K + 1)) 1100 [some (.ref b), some (.ref h1), some (.ref h2), some (.int (nI (4 * K)))] []) : V p l e room_1 s m #[.ref b] below meth c 4 G (lw_Z below #[.ref b] s) M (600 + 36 * K) (14296 + 852 * K) 316 [some (.ref b), some (.ref h1), some (.ref h2), some (.int (nI (4 * K)))] [] := by
  have J0 := J
  obtain ⟨hW, hB, hT, hX0, hA, hR, hF⟩ := J0
  have hK : K < 512 := by omega
  have w := hF.1
  have hcap := hX0.2.1.1.1
  have hz := w.z
  have hO := w.o.1
  have hI := w.o.2
  have hD6 := w.d
  have hQ := w.q
  have hE := w.e
  have hBb := w.b.1
  have hY := w.b.2.1
  have hS := w.f.s
  have hAa := w.f.a
  have hV := w.f.v
  have hKk := w.f.k
  have hTt := w.t
  have hJj := w.jj (by omega)
  have hzh : ∀ j, j < x_n x → hzU (x_h x j) := fun j hj => (hF.2.1 j hj).z
  have hzs : x_f x = 1 → hzU (x_s x) := fun q => (hF.2.2 q).z
  refine v_aload_n hC dL_law_316 rfl rfl ?_
  refine cVi0 hC (c_X10_clearText hW hB hT) yv_X10_clearText rfl hB.1.1.1 mw_2_176 ⟨Nat.le_of_ble_eq_true rfl, Nat.le_of_ble_eq_true rfl⟩ ⟨rm_c (by omega), rm_s (by omega)⟩ (Nat.le_of_ble_eq_true rfl) dL_law_317 (fun r317 M320 hq => ?_)
  obtain ⟨rfl, hB2, hT2, hCf, hW2⟩ := hq
  have hX2 := hX0.cf hR hCf
  have hA2 := hA.cf hR hCf
  refine v_pop hC dL_law_320 rfl ?_
  refine v_aload_n hC dL_law_321 rfl rfl ?_
  refine cVi0 hC (c_X11_clearText hW2 hX2 hA2) yv_X11_clearText rfl hX2.1 mw_4_213 ⟨Nat.le_of_ble_eq_true rfl, Nat.le_of_ble_eq_true rfl⟩ ⟨rm_c (by omega), rm_s (by omega)⟩ (Nat.le_of_ble_eq_true rfl) dL_law_322 (fun r322 M325 hq => ?_)
  obtain ⟨rfl, hX3, hA3, hOn, hW3⟩ := hq
  refine v_pop hC dL_law_325 rfl ?_
  refine v_goto hC dL_law_326 (tgt := 1100) (by decide) ?_
  refine v_wide (k := 600 + 36 * (K + 1)) (n := 14296 + 852 * (K + 1)) (by omega) (by omega) ?_
  exact cont _ _ _ _ (J.act hB2 hT2 hCf hX3 hOn hW3 hA3 (hF.up (by omega)))
set_option maxHeartbeats 4000000 in
theorem lw_c5 {p : Program} {l : Launch} {e : Env} {s : State} {m : MethodId} {below : List Frame} {meth : Method} {c : Code} {G : Gd} {M : Me} {nm : String} {b h1 n1 h2 N K t : Nat} {xs : Nat → Int32} {x : Xs} {tc : Nat → Int32} (hC : Cx p m c s #[.ref b] meth cL_law 4 "MatchBureauLaw" nm ret G) (hlo : g_lo G = s.heap.size) (hX : va_X b N xs s (g_H G)) (hb : b < g_lo G) (hN : N ≤ 2048) (hi : 4 * K + 4 ≤ N) (J : IV K x t tc M h1 n1 h2) (cont : ∀ (x2 : Xs) (t2 : Nat) (tc2 : Nat → Int32) (M2 : Me), IV (K + 1) x2 t2 tc2 M2 h1 n1 h2 → V p l e room_1 s m #[.ref b] below meth c 4 G (lw_Z below #[.ref b] s) M2 (600 + 36 * (K + 1)) (14296 + 852 * (K + 1)) 1100 [some (.ref b), some (.ref h1), some (.ref h2), some (.int (nI (4 * K)))] []) : V p l e room_1 s m #[.ref b] below meth c 4 G (lw_Z below #[.ref b] s) M (600 + 36 * K) (14296 + 852 * K) 329 [some (.ref b), some (.ref h1), some (.ref h2), some (.int (nI (4 * K)))] [] := by
  have J0 := J
  obtain ⟨hW, hB, hT, hX0, hA, hR, hF⟩ := J0
  have hK : K < 512 := by omega
  have w := hF.1
  have hcap := hX0.2.1.1.1
  have hz := w.z
  have hO := w.o.1
  have hI := w.o.2
  have hD6 := w.d
  have hQ := w.q
  have hE := w.e
  have hBb := w.b.1
  have hY := w.b.2.1
  have hS := w.f.s
  have hAa := w.f.a
  have hV := w.f.v
  have hKk := w.f.k
  have hTt := w.t
  have hJj := w.jj (by omega)
  have hzh : ∀ j, j < x_n x → hzU (x_h x j) := fun j hj => (hF.2.1 j hj).z
  have hzs : x_f x = 1 → hzU (x_s x) := fun q => (hF.2.2 q).z
  refine v_aload_n hC dL_law_329 rfl rfl ?_
  refine cVi0 hC (c_X10_newFile hW hB hz) yv_X10_newFile rfl hB.1.1.1 mw_2_180 ⟨Nat.le_of_ble_eq_true rfl, Nat.le_of_ble_eq_true rfl⟩ ⟨rm_c (by omega), rm_s (by omega)⟩ (Nat.le_of_ble_eq_true rfl) dL_law_330 (fun r330 M333 hq => ?_)
  obtain ⟨rfl, hB2, hTk, hCf, hW2⟩ := hq
  have hT2 := hTk _ _ hT
  have hX2 := hX0.cf hR hCf
  have hA2 := hA.cf hR hCf
  refine v_pop hC dL_law_333 rfl ?_
  refine v_aload_n hC dL_law_334 rfl rfl ?_
  refine cVi0 hC (c_X11_newFile hW2 hX2) yv_X11_newFile rfl hX2.1 mw_4_217 ⟨Nat.le_of_ble_eq_true rfl, Nat.le_of_ble_eq_true rfl⟩ ⟨rm_c (by omega), rm_s (by omega)⟩ (Nat.le_of_ble_eq_true rfl) dL_law_335 (fun r335 M338 hq => ?_)
  obtain ⟨rfl, hX3, hOn, hW3, hTa⟩ := hq
  have hA3 := hTa _ _ hA2
  refine v_pop hC dL_law_338 rfl ?_
  refine v_goto hC dL_law_339 (tgt := 1100) (by decide) ?_
  refine v_wide (k := 600 + 36 * (K + 1)) (n := 14296 + 852 * (K + 1)) (by omega) (by omega) ?_
  exact cont _ _ _ _ (J.act hB2 hT2 hCf hX3 hOn hW3 hA3 (hF.act (fun v hv => wf_newFile w hv)))
set_option maxHeartbeats 4000000 in
theorem lw_c6 {p : Program} {l : Launch} {e : Env} {s : State} {m : MethodId} {below : List Frame} {meth : Method} {c : Code} {G : Gd} {M : Me} {nm : String} {b h1 n1 h2 N K t : Nat} {xs : Nat → Int32} {x : Xs} {tc : Nat → Int32} (hC : Cx p m c s #[.ref b] meth cL_law 4 "MatchBureauLaw" nm ret G) (hlo : g_lo G = s.heap.size) (hX : va_X b N xs s (g_H G)) (hb : b < g_lo G) (hN : N ≤ 2048) (hi : 4 * K + 4 ≤ N) (J : IV K x t tc M h1 n1 h2) (cont : ∀ (x2 : Xs) (t2 : Nat) (tc2 : Nat → Int32) (M2 : Me), IV (K + 1) x2 t2 tc2 M2 h1 n1 h2 → V p l e room_1 s m #[.ref b] below meth c 4 G (lw_Z below #[.ref b] s) M2 (600 + 36 * (K + 1)) (14296 + 852 * (K + 1)) 1100 [some (.ref b), some (.ref h1), some (.ref h2), some (.int (nI (4 * K)))] []) : V p l e room_1 s m #[.ref b] below meth c 4 G (lw_Z below #[.ref b] s) M (600 + 36 * K) (14296 + 852 * K) 342 [some (.ref b), some (.ref h1), some (.ref h2), some (.int (nI (4 * K)))] [] := by
  have J0 := J
  obtain ⟨hW, hB, hT, hX0, hA, hR, hF⟩ := J0
  have hK : K < 512 := by omega
  have w := hF.1
  have hcap := hX0.2.1.1.1
  have hz := w.z
  have hO := w.o.1
  have hI := w.o.2
  have hD6 := w.d
  have hQ := w.q
  have hE := w.e
  have hBb := w.b.1
  have hY := w.b.2.1
  have hS := w.f.s
  have hAa := w.f.a
  have hV := w.f.v
  have hKk := w.f.k
  have hTt := w.t
  have hJj := w.jj (by omega)
  have hzh : ∀ j, j < x_n x → hzU (x_h x j) := fun j hj => (hF.2.1 j hj).z
  have hzs : x_f x = 1 → hzU (x_s x) := fun q => (hF.2.2 q).z
  refine v_aload_n hC dL_law_342 rfl rfl ?_
  refine v_aload_n hC dL_law_343 rfl rfl ?_
  refine v_iload_n hC dL_law_344 rfl rfl ?_
  refine v_iconst (v := 1) hC dL_law_345 (by decide) ?_
  refine v_iadd hC dL_law_346 ?_
  rw [show nI (4 * K) + 1 = nI (4 * K + 1) from nI_add _ 1]
  refine v_sld hC hX hb (j := 4 * K + 1) (ix_e rfl (by omega) (by omega)) dL_law_347 ?_
  refine cVi1 hC (c_X10_readSegments hW hB hz hT) yv_X10_readSegments rfl hB.1.1.1 mw_2_189 ⟨Nat.le_of_ble_eq_true rfl, Nat.le_of_ble_eq_true rfl⟩ ⟨rm_c (by omega), rm_s (by omega)⟩ (Nat.le_of_ble_eq_true rfl) dL_law_348 (fun r348 M351 hq => ?_)
  obtain ⟨rfl, hB2, hTk, hCf, hW2⟩ := hq
  have hT2 := hTk _ _ hT
  have hX2 := hX0.cf hR hCf
  have hA2 := hA.cf hR hCf
  refine v_pop hC dL_law_351 rfl ?_
  refine v_aload_n hC dL_law_352 rfl rfl ?_
  refine v_aload_n hC dL_law_353 rfl rfl ?_
  refine v_iload_n hC dL_law_354 rfl rfl ?_
  refine v_iconst (v := 1) hC dL_law_355 (by decide) ?_
  refine v_iadd hC dL_law_356 ?_
  rw [show nI (4 * K) + 1 = nI (4 * K + 1) from nI_add _ 1]
  refine v_sld hC hX hb (j := 4 * K + 1) (ix_e rfl (by omega) (by omega)) dL_law_357 ?_
  refine cVi1 hC (c_X11_readSegments hW2 hX2 hA2) yv_X11_readSegments rfl hX2.1 mw_4_226 ⟨Nat.le_of_ble_eq_true rfl, Nat.le_of_ble_eq_true rfl⟩ ⟨rm_c (by omega), rm_s (by omega)⟩ (Nat.le_of_ble_eq_true rfl) dL_law_358 (fun r358 M361 hq => ?_)
  obtain ⟨rfl, hX3, hOn, hW3, hTa⟩ := hq
  have hA3 := hTa _ _ hA2
  refine v_pop hC dL_law_361 rfl ?_
  refine v_goto hC dL_law_362 (tgt := 1100) (by decide) ?_
  refine v_wide (k := 600 + 36 * (K + 1)) (n := 14296 + 852 * (K + 1)) (by omega) (by omega) ?_
  exact cont _ _ _ _ (J.act hB2 hT2 hCf hX3 hOn hW3 hA3 (hF.act (fun v hv => wf_readSegments w hv)))
set_option maxHeartbeats 4000000 in
theorem lw_c7 {p : Program} {l : Launch} {e : Env} {s : State} {m : MethodId} {below : List Frame} {meth : Method} {c : Code} {G : Gd} {M : Me} {nm : String} {b h1 n1 h2 N K t : Nat} {xs : Nat → Int32} {x : Xs} {tc : Nat → Int32} (hC : Cx p m c s #[.ref b] meth cL_law 4 "MatchBureauLaw" nm ret G) (hlo : g_lo G = s.heap.size) (hX : va_X b N xs s (g_H G)) (hb : b < g_lo G) (hN : N ≤ 2048) (hi : 4 * K + 4 ≤ N) (J : IV K x t tc M h1 n1 h2) (cont : ∀ (x2 : Xs) (t2 : Nat) (tc2 : Nat → Int32) (M2 : Me), IV (K + 1) x2 t2 tc2 M2 h1 n1 h2 → V p l e room_1 s m #[.ref b] below meth c 4 G (lw_Z below #[.ref b] s) M2 (600 + 36 * (K + 1)) (14296 + 852 * (K + 1)) 1100 [some (.ref b), some (.ref h1), some (.ref h2), some (.int (nI (4 * K)))] []) : V p l e room_1 s m #[.ref b] below meth c 4 G (lw_Z below #[.ref b] s) M (600 + 36 * K) (14296 + 852 * K) 365 [some (.ref b), some (.ref h1), some (.ref h2), some (.int (nI (4 * K)))] [] := by
  have J0 := J
  obtain ⟨hW, hB, hT, hX0, hA, hR, hF⟩ := J0
  have hK : K < 512 := by omega
  have w := hF.1
  have hcap := hX0.2.1.1.1
  have hz := w.z
  have hO := w.o.1
  have hI := w.o.2
  have hD6 := w.d
  have hQ := w.q
  have hE := w.e
  have hBb := w.b.1
  have hY := w.b.2.1
  have hS := w.f.s
  have hAa := w.f.a
  have hV := w.f.v
  have hKk := w.f.k
  have hTt := w.t
  have hJj := w.jj (by omega)
  have hzh : ∀ j, j < x_n x → hzU (x_h x j) := fun j hj => (hF.2.1 j hj).z
  have hzs : x_f x = 1 → hzU (x_s x) := fun q => (hF.2.2 q).z
  refine v_aload_n hC dL_law_365 rfl rfl ?_
  refine v_aload_n hC dL_law_366 rfl rfl ?_
  refine v_iload_n hC dL_law_367 rfl rfl ?_
  refine v_iconst (v := 1) hC dL_law_368 (by decide) ?_
  refine v_iadd hC dL_law_369 ?_
  rw [show nI (4 * K) + 1 = nI (4 * K + 1) from nI_add _ 1]
  refine v_sld hC hX hb (j := 4 * K + 1) (ix_e rfl (by omega) (by omega)) dL_law_370 ?_
  refine cVi1 hC (c_X10_remember hW hB hz hT) yv_X10_remember rfl hB.1.1.1 mw_2_222 ⟨Nat.le_of_ble_eq_true rfl, Nat.le_of_ble_eq_true rfl⟩ ⟨rm_c (by omega), rm_s (by omega)⟩ (Nat.le_of_ble_eq_true rfl) dL_law_371 (fun r371 M374 hq => ?_)
  obtain ⟨rfl, hB2, hTk, hCf, hW2⟩ := hq
  have hT2 := hTk _ _ hT
  have hX2 := hX0.cf hR hCf
  have hA2 := hA.cf hR hCf
  refine v_pop hC dL_law_374 rfl ?_
  refine v_aload_n hC dL_law_375 rfl rfl ?_
  refine v_aload_n hC dL_law_376 rfl rfl ?_
  refine v_iload_n hC dL_law_377 rfl rfl ?_
  refine v_iconst (v := 1) hC dL_law_378 (by decide) ?_
  refine v_iadd hC dL_law_379 ?_
  rw [show nI (4 * K) + 1 = nI (4 * K + 1) from nI_add _ 1]
  refine v_sld hC hX hb (j := 4 * K + 1) (ix_e rfl (by omega) (by omega)) dL_law_380 ?_
  refine cVi1 hC (c_X11_remember hW2 hX2 hA2) yv_X11_remember rfl hX2.1 mw_5_27 ⟨Nat.le_of_ble_eq_true rfl, Nat.le_of_ble_eq_true rfl⟩ ⟨rm_c (by omega), rm_s (by omega)⟩ (Nat.le_of_ble_eq_true rfl) dL_law_381 (fun r381 M384 hq => ?_)
  obtain ⟨rfl, hX3, hOn, hW3, hTa⟩ := hq
  have hA3 := hTa _ _ hA2
  refine v_pop hC dL_law_384 rfl ?_
  refine v_goto hC dL_law_385 (tgt := 1100) (by decide) ?_
  refine v_wide (k := 600 + 36 * (K + 1)) (n := 14296 + 852 * (K + 1)) (by omega) (by omega) ?_
  exact cont _ _ _ _ (J.act hB2 hT2 hCf hX3 hOn hW3 hA3 (hF.act (fun v hv => wf_remember w hv)))
set_option maxHeartbeats 4000000 in
theorem lw_c8 {p : Program} {l : Launch} {e : Env} {s : State} {m : MethodId} {below : List Frame} {meth : Method} {c : Code} {G : Gd} {M : Me} {nm : String} {b h1 n1 h2 N K t : Nat} {xs : Nat → Int32} {x : Xs} {tc : Nat → Int32} (hC : Cx p m c s #[.ref b] meth cL_law 4 "MatchBureauLaw" nm ret G) (hlo : g_lo G = s.heap.size) (hX : va_X b N xs s (g_H G)) (hb : b < g_lo G) (hN : N ≤ 2048) (hi : 4 * K + 4 ≤ N) (J : IV K x t tc M h1 n1 h2) (cont : ∀ (x2 : Xs) (t2 : Nat) (tc2 : Nat → Int32) (M2 : Me), IV (K + 1) x2 t2 tc2 M2 h1 n1 h2 → V p l e room_1 s m #[.ref b] below meth c 4 G (lw_Z below #[.ref b] s) M2 (600 + 36 * (K + 1)) (14296 + 852 * (K + 1)) 1100 [some (.ref b), some (.ref h1), some (.ref h2), some (.int (nI (4 * K)))] []) : V p l e room_1 s m #[.ref b] below meth c 4 G (lw_Z below #[.ref b] s) M (600 + 36 * K) (14296 + 852 * K) 388 [some (.ref b), some (.ref h1), some (.ref h2), some (.int (nI (4 * K)))] [] := by
  have J0 := J
  obtain ⟨hW, hB, hT, hX0, hA, hR, hF⟩ := J0
  have hK : K < 512 := by omega
  have w := hF.1
  have hcap := hX0.2.1.1.1
  have hz := w.z
  have hO := w.o.1
  have hI := w.o.2
  have hD6 := w.d
  have hQ := w.q
  have hE := w.e
  have hBb := w.b.1
  have hY := w.b.2.1
  have hS := w.f.s
  have hAa := w.f.a
  have hV := w.f.v
  have hKk := w.f.k
  have hTt := w.t
  have hJj := w.jj (by omega)
  have hzh : ∀ j, j < x_n x → hzU (x_h x j) := fun j hj => (hF.2.1 j hj).z
  have hzs : x_f x = 1 → hzU (x_s x) := fun q => (hF.2.2 q).z
  refine v_aload_n hC dL_law_388 rfl rfl ?_
  refine v_aload_n hC dL_law_389 rfl rfl ?_
  refine v_iload_n hC dL_law_390 rfl rfl ?_
  refine v_iconst (v := 1) hC dL_law_391 (by decide) ?_
  refine v_iadd hC dL_law_392 ?_
  rw [show nI (4 * K) + 1 = nI (4 * K + 1) from nI_add _ 1]
  refine v_sld hC hX hb (j := 4 * K + 1) (ix_e rfl (by omega) (by omega)) dL_law_393 ?_
  refine v_aload_n hC dL_law_394 rfl rfl ?_
  refine v_iload_n hC dL_law_395 rfl rfl ?_
  refine v_iconst (v := 2) hC dL_law_396 (by decide) ?_
  refine v_iadd hC dL_law_397 ?_
  rw [show nI (4 * K) + 2 = nI (4 * K + 2) from nI_add _ 2]
  refine v_sld hC hX hb (j := 4 * K + 2) (ix_e rfl (by omega) (by omega)) dL_law_398 ?_
  refine cVi2 hC (c_X10_swapFiles hW hB hz hO hI) yv_X10_swapFiles rfl hB.1.1.1 mw_3_6 ⟨Nat.le_of_ble_eq_true rfl, Nat.le_of_ble_eq_true rfl⟩ ⟨rm_c (by omega), rm_s (by omega)⟩ (Nat.le_of_ble_eq_true rfl) dL_law_399 (fun r399 M402 hq => ?_)
  obtain ⟨rfl, hB2, hTk, hCf, hW2⟩ := hq
  have hT2 := hTk _ _ hT
  have hX2 := hX0.cf hR hCf
  have hA2 := hA.cf hR hCf
  refine v_pop hC dL_law_402 rfl ?_
  refine v_aload_n hC dL_law_403 rfl rfl ?_
  refine v_aload_n hC dL_law_404 rfl rfl ?_
  refine v_iload_n hC dL_law_405 rfl rfl ?_
  refine v_iconst (v := 1) hC dL_law_406 (by decide) ?_
  refine v_iadd hC dL_law_407 ?_
  rw [show nI (4 * K) + 1 = nI (4 * K + 1) from nI_add _ 1]
  refine v_sld hC hX hb (j := 4 * K + 1) (ix_e rfl (by omega) (by omega)) dL_law_408 ?_
  refine v_aload_n hC dL_law_409 rfl rfl ?_
  refine v_iload_n hC dL_law_410 rfl rfl ?_
  refine v_iconst (v := 2) hC dL_law_411 (by decide) ?_
  refine v_iadd hC dL_law_412 ?_
  rw [show nI (4 * K) + 2 = nI (4 * K + 2) from nI_add _ 2]
  refine v_sld hC hX hb (j := 4 * K + 2) (ix_e rfl (by omega) (by omega)) dL_law_413 ?_
  refine cVi2 hC (c_X11_swapFiles hW2 hX2 hO) yv_X11_swapFiles rfl hX2.1 mw_5_43 ⟨Nat.le_of_ble_eq_true rfl, Nat.le_of_ble_eq_true rfl⟩ ⟨rm_c (by omega), rm_s (by omega)⟩ (Nat.le_of_ble_eq_true rfl) dL_law_414 (fun r414 M417 hq => ?_)
  obtain ⟨rfl, hX3, hOn, hW3, hTa⟩ := hq
  have hA3 := hTa _ _ hA2
  refine v_pop hC dL_law_417 rfl ?_
  refine v_goto hC dL_law_418 (tgt := 1100) (by decide) ?_
  refine v_wide (k := 600 + 36 * (K + 1)) (n := 14296 + 852 * (K + 1)) (by omega) (by omega) ?_
  exact cont _ _ _ _ (J.act hB2 hT2 hCf hX3 hOn hW3 hA3 (hF.act (fun v hv => wf_swapFiles w hcap hv)))
set_option maxHeartbeats 4000000 in
theorem lw_c9 {p : Program} {l : Launch} {e : Env} {s : State} {m : MethodId} {below : List Frame} {meth : Method} {c : Code} {G : Gd} {M : Me} {nm : String} {b h1 n1 h2 N K t : Nat} {xs : Nat → Int32} {x : Xs} {tc : Nat → Int32} (hC : Cx p m c s #[.ref b] meth cL_law 4 "MatchBureauLaw" nm ret G) (hlo : g_lo G = s.heap.size) (hX : va_X b N xs s (g_H G)) (hb : b < g_lo G) (hN : N ≤ 2048) (hi : 4 * K + 4 ≤ N) (J : IV K x t tc M h1 n1 h2) (cont : ∀ (x2 : Xs) (t2 : Nat) (tc2 : Nat → Int32) (M2 : Me), IV (K + 1) x2 t2 tc2 M2 h1 n1 h2 → V p l e room_1 s m #[.ref b] below meth c 4 G (lw_Z below #[.ref b] s) M2 (600 + 36 * (K + 1)) (14296 + 852 * (K + 1)) 1100 [some (.ref b), some (.ref h1), some (.ref h2), some (.int (nI (4 * K)))] []) : V p l e room_1 s m #[.ref b] below meth c 4 G (lw_Z below #[.ref b] s) M (600 + 36 * K) (14296 + 852 * K) 421 [some (.ref b), some (.ref h1), some (.ref h2), some (.int (nI (4 * K)))] [] := by
  have J0 := J
  obtain ⟨hW, hB, hT, hX0, hA, hR, hF⟩ := J0
  have hK : K < 512 := by omega
  have w := hF.1
  have hcap := hX0.2.1.1.1
  have hz := w.z
  have hO := w.o.1
  have hI := w.o.2
  have hD6 := w.d
  have hQ := w.q
  have hE := w.e
  have hBb := w.b.1
  have hY := w.b.2.1
  have hS := w.f.s
  have hAa := w.f.a
  have hV := w.f.v
  have hKk := w.f.k
  have hTt := w.t
  have hJj := w.jj (by omega)
  have hzh : ∀ j, j < x_n x → hzU (x_h x j) := fun j hj => (hF.2.1 j hj).z
  have hzs : x_f x = 1 → hzU (x_s x) := fun q => (hF.2.2 q).z
  refine v_aload_n hC dL_law_421 rfl rfl ?_
  refine v_aload_n hC dL_law_422 rfl rfl ?_
  refine v_iload_n hC dL_law_423 rfl rfl ?_
  refine v_iconst (v := 1) hC dL_law_424 (by decide) ?_
  refine v_iadd hC dL_law_425 ?_
  rw [show nI (4 * K) + 1 = nI (4 * K + 1) from nI_add _ 1]
  refine v_sld hC hX hb (j := 4 * K + 1) (ix_e rfl (by omega) (by omega)) dL_law_426 ?_
  refine cVi1 hC (c_X10_withdraw hW hB hz) yv_X10_withdraw rfl hB.1.1.1 mw_3_18 ⟨Nat.le_of_ble_eq_true rfl, Nat.le_of_ble_eq_true rfl⟩ ⟨rm_c (by omega), rm_s (by omega)⟩ (Nat.le_of_ble_eq_true rfl) dL_law_427 (fun r427 M430 hq => ?_)
  obtain ⟨rfl, hB2, hTk, hCf, hW2⟩ := hq
  have hT2 := hTk _ _ hT
  have hX2 := hX0.cf hR hCf
  have hA2 := hA.cf hR hCf
  refine v_pop hC dL_law_430 rfl ?_
  refine v_aload_n hC dL_law_431 rfl rfl ?_
  refine v_aload_n hC dL_law_432 rfl rfl ?_
  refine v_iload_n hC dL_law_433 rfl rfl ?_
  refine v_iconst (v := 1) hC dL_law_434 (by decide) ?_
  refine v_iadd hC dL_law_435 ?_
  rw [show nI (4 * K) + 1 = nI (4 * K + 1) from nI_add _ 1]
  refine v_sld hC hX hb (j := 4 * K + 1) (ix_e rfl (by omega) (by omega)) dL_law_436 ?_
  refine cVi1 hC (c_X11_withdraw hW2 hX2 hS hTt) yv_X11_withdraw rfl hX2.1 mw_5_55 ⟨Nat.le_of_ble_eq_true rfl, Nat.le_of_ble_eq_true rfl⟩ ⟨rm_c (by omega), rm_s (by omega)⟩ (Nat.le_of_ble_eq_true rfl) dL_law_437 (fun r437 M440 hq => ?_)
  obtain ⟨rfl, hX3, hOn, hW3, hTa⟩ := hq
  have hA3 := hTa _ _ hA2
  refine v_pop hC dL_law_440 rfl ?_
  refine v_goto hC dL_law_441 (tgt := 1100) (by decide) ?_
  refine v_wide (k := 600 + 36 * (K + 1)) (n := 14296 + 852 * (K + 1)) (by omega) (by omega) ?_
  exact cont _ _ _ _ (J.act hB2 hT2 hCf hX3 hOn hW3 hA3 (hF.act (fun v hv => wf_withdraw w hv)))
set_option maxHeartbeats 4000000 in
theorem lw_c10 {p : Program} {l : Launch} {e : Env} {s : State} {m : MethodId} {below : List Frame} {meth : Method} {c : Code} {G : Gd} {M : Me} {nm : String} {b h1 n1 h2 N K t : Nat} {xs : Nat → Int32} {x : Xs} {tc : Nat → Int32} (hC : Cx p m c s #[.ref b] meth cL_law 4 "MatchBureauLaw" nm ret G) (hlo : g_lo G = s.heap.size) (hX : va_X b N xs s (g_H G)) (hb : b < g_lo G) (hN : N ≤ 2048) (hi : 4 * K + 4 ≤ N) (J : IV K x t tc M h1 n1 h2) (cont : ∀ (x2 : Xs) (t2 : Nat) (tc2 : Nat → Int32) (M2 : Me), IV (K + 1) x2 t2 tc2 M2 h1 n1 h2 → V p l e room_1 s m #[.ref b] below meth c 4 G (lw_Z below #[.ref b] s) M2 (600 + 36 * (K + 1)) (14296 + 852 * (K + 1)) 1100 [some (.ref b), some (.ref h1), some (.ref h2), some (.int (nI (4 * K)))] []) : V p l e room_1 s m #[.ref b] below meth c 4 G (lw_Z below #[.ref b] s) M (600 + 36 * K) (14296 + 852 * K) 444 [some (.ref b), some (.ref h1), some (.ref h2), some (.int (nI (4 * K)))] [] := by
  have J0 := J
  obtain ⟨hW, hB, hT, hX0, hA, hR, hF⟩ := J0
  have hK : K < 512 := by omega
  have w := hF.1
  have hcap := hX0.2.1.1.1
  have hz := w.z
  have hO := w.o.1
  have hI := w.o.2
  have hD6 := w.d
  have hQ := w.q
  have hE := w.e
  have hBb := w.b.1
  have hY := w.b.2.1
  have hS := w.f.s
  have hAa := w.f.a
  have hV := w.f.v
  have hKk := w.f.k
  have hTt := w.t
  have hJj := w.jj (by omega)
  have hzh : ∀ j, j < x_n x → hzU (x_h x j) := fun j hj => (hF.2.1 j hj).z
  have hzs : x_f x = 1 → hzU (x_s x) := fun q => (hF.2.2 q).z
  refine v_aload_n hC dL_law_444 rfl rfl ?_
  refine v_aload_n hC dL_law_445 rfl rfl ?_
  refine v_iload_n hC dL_law_446 rfl rfl ?_
  refine v_iconst (v := 1) hC dL_law_447 (by decide) ?_
  refine v_iadd hC dL_law_448 ?_
  rw [show nI (4 * K) + 1 = nI (4 * K + 1) from nI_add _ 1]
  refine v_sld hC hX hb (j := 4 * K + 1) (ix_e rfl (by omega) (by omega)) dL_law_449 ?_
  refine v_aload_n hC dL_law_450 rfl rfl ?_
  refine v_iload_n hC dL_law_451 rfl rfl ?_
  refine v_iconst (v := 2) hC dL_law_452 (by decide) ?_
  refine v_iadd hC dL_law_453 ?_
  rw [show nI (4 * K) + 2 = nI (4 * K + 2) from nI_add _ 2]
  refine v_sld hC hX hb (j := 4 * K + 2) (ix_e rfl (by omega) (by omega)) dL_law_454 ?_
  refine cVi2 hC (c_X10_take hW hB hz hO) yv_X10_take rfl hB.1.1.1 mw_3_34 ⟨Nat.le_of_ble_eq_true rfl, Nat.le_of_ble_eq_true rfl⟩ ⟨rm_c (by omega), rm_s (by omega)⟩ (Nat.le_of_ble_eq_true rfl) dL_law_455 (fun r455 M458 hq => ?_)
  obtain ⟨rfl, hB2, hTk, hCf, hW2⟩ := hq
  have hT2 := hTk _ _ hT
  have hX2 := hX0.cf hR hCf
  have hA2 := hA.cf hR hCf
  refine v_pop hC dL_law_458 rfl ?_
  refine v_aload_n hC dL_law_459 rfl rfl ?_
  refine v_aload_n hC dL_law_460 rfl rfl ?_
  refine v_iload_n hC dL_law_461 rfl rfl ?_
  refine v_iconst (v := 1) hC dL_law_462 (by decide) ?_
  refine v_iadd hC dL_law_463 ?_
  rw [show nI (4 * K) + 1 = nI (4 * K + 1) from nI_add _ 1]
  refine v_sld hC hX hb (j := 4 * K + 1) (ix_e rfl (by omega) (by omega)) dL_law_464 ?_
  refine v_aload_n hC dL_law_465 rfl rfl ?_
  refine v_iload_n hC dL_law_466 rfl rfl ?_
  refine v_iconst (v := 2) hC dL_law_467 (by decide) ?_
  refine v_iadd hC dL_law_468 ?_
  rw [show nI (4 * K) + 2 = nI (4 * K + 2) from nI_add _ 2]
  refine v_sld hC hX hb (j := 4 * K + 2) (ix_e rfl (by omega) (by omega)) dL_law_469 ?_
  refine cVi2 hC (c_X11_take hW2 hX2 hO hS hTt hE) yv_X11_take rfl hX2.1 mw_5_72 ⟨Nat.le_of_ble_eq_true rfl, Nat.le_of_ble_eq_true rfl⟩ ⟨rm_c (by omega), rm_s (by omega)⟩ (Nat.le_of_ble_eq_true rfl) dL_law_470 (fun r470 M473 hq => ?_)
  obtain ⟨rfl, hX3, hOn, hW3, hTa⟩ := hq
  have hA3 := hTa _ _ hA2
  refine v_pop hC dL_law_473 rfl ?_
  refine v_goto hC dL_law_474 (tgt := 1100) (by decide) ?_
  refine v_wide (k := 600 + 36 * (K + 1)) (n := 14296 + 852 * (K + 1)) (by omega) (by omega) ?_
  exact cont _ _ _ _ (J.act hB2 hT2 hCf hX3 hOn hW3 hA3 (hF.act (fun v hv => wf_take w hcap hv)))
set_option maxHeartbeats 4000000 in
theorem lw_c11 {p : Program} {l : Launch} {e : Env} {s : State} {m : MethodId} {below : List Frame} {meth : Method} {c : Code} {G : Gd} {M : Me} {nm : String} {b h1 n1 h2 N K t : Nat} {xs : Nat → Int32} {x : Xs} {tc : Nat → Int32} (hC : Cx p m c s #[.ref b] meth cL_law 4 "MatchBureauLaw" nm ret G) (hlo : g_lo G = s.heap.size) (hX : va_X b N xs s (g_H G)) (hb : b < g_lo G) (hN : N ≤ 2048) (hi : 4 * K + 4 ≤ N) (J : IV K x t tc M h1 n1 h2) (cont : ∀ (x2 : Xs) (t2 : Nat) (tc2 : Nat → Int32) (M2 : Me), IV (K + 1) x2 t2 tc2 M2 h1 n1 h2 → V p l e room_1 s m #[.ref b] below meth c 4 G (lw_Z below #[.ref b] s) M2 (600 + 36 * (K + 1)) (14296 + 852 * (K + 1)) 1100 [some (.ref b), some (.ref h1), some (.ref h2), some (.int (nI (4 * K)))] []) : V p l e room_1 s m #[.ref b] below meth c 4 G (lw_Z below #[.ref b] s) M (600 + 36 * K) (14296 + 852 * K) 477 [some (.ref b), some (.ref h1), some (.ref h2), some (.int (nI (4 * K)))] [] := by
  have J0 := J
  obtain ⟨hW, hB, hT, hX0, hA, hR, hF⟩ := J0
  have hK : K < 512 := by omega
  have w := hF.1
  have hcap := hX0.2.1.1.1
  have hz := w.z
  have hO := w.o.1
  have hI := w.o.2
  have hD6 := w.d
  have hQ := w.q
  have hE := w.e
  have hBb := w.b.1
  have hY := w.b.2.1
  have hS := w.f.s
  have hAa := w.f.a
  have hV := w.f.v
  have hKk := w.f.k
  have hTt := w.t
  have hJj := w.jj (by omega)
  have hzh : ∀ j, j < x_n x → hzU (x_h x j) := fun j hj => (hF.2.1 j hj).z
  have hzs : x_f x = 1 → hzU (x_s x) := fun q => (hF.2.2 q).z
  refine v_aload_n hC dL_law_477 rfl rfl ?_
  refine v_aload_n hC dL_law_478 rfl rfl ?_
  refine v_iload_n hC dL_law_479 rfl rfl ?_
  refine v_iconst (v := 1) hC dL_law_480 (by decide) ?_
  refine v_iadd hC dL_law_481 ?_
  rw [show nI (4 * K) + 1 = nI (4 * K + 1) from nI_add _ 1]
  refine v_sld hC hX hb (j := 4 * K + 1) (ix_e rfl (by omega) (by omega)) dL_law_482 ?_
  refine v_aload_n hC dL_law_483 rfl rfl ?_
  refine v_iload_n hC dL_law_484 rfl rfl ?_
  refine v_iconst (v := 2) hC dL_law_485 (by decide) ?_
  refine v_iadd hC dL_law_486 ?_
  rw [show nI (4 * K) + 2 = nI (4 * K + 2) from nI_add _ 2]
  refine v_sld hC hX hb (j := 4 * K + 2) (ix_e rfl (by omega) (by omega)) dL_law_487 ?_
  refine v_aload_n hC dL_law_488 rfl rfl ?_
  refine v_iload_n hC dL_law_489 rfl rfl ?_
  refine v_iconst (v := 3) hC dL_law_490 (by decide) ?_
  refine v_iadd hC dL_law_491 ?_
  rw [show nI (4 * K) + 3 = nI (4 * K + 3) from nI_add _ 3]
  refine v_sld hC hX hb (j := 4 * K + 3) (ix_e rfl (by omega) (by omega)) dL_law_492 ?_
  refine cVi3 hC (c_X10_translate hW hB hz) yv_X10_translate rfl hB.1.1.1 mw_3_89 ⟨Nat.le_of_ble_eq_true rfl, Nat.le_of_ble_eq_true rfl⟩ ⟨rm_c (by omega), rm_s (by omega)⟩ (Nat.le_of_ble_eq_true rfl) dL_law_493 (fun r493 M496 hq => ?_)
  obtain ⟨rfl, hB2, hTk, hCf, hW2⟩ := hq
  have hT2 := hTk _ _ hT
  have hX2 := hX0.cf hR hCf
  have hA2 := hA.cf hR hCf
  refine v_pop hC dL_law_496 rfl ?_
  refine v_aload_n hC dL_law_497 rfl rfl ?_
  refine v_aload_n hC dL_law_498 rfl rfl ?_
  refine v_iload_n hC dL_law_499 rfl rfl ?_
  refine v_iconst (v := 1) hC dL_law_500 (by decide) ?_
  refine v_iadd hC dL_law_501 ?_
  rw [show nI (4 * K) + 1 = nI (4 * K + 1) from nI_add _ 1]
  refine v_sld hC hX hb (j := 4 * K + 1) (ix_e rfl (by omega) (by omega)) dL_law_502 ?_
  refine v_aload_n hC dL_law_503 rfl rfl ?_
  refine v_iload_n hC dL_law_504 rfl rfl ?_
  refine v_iconst (v := 2) hC dL_law_505 (by decide) ?_
  refine v_iadd hC dL_law_506 ?_
  rw [show nI (4 * K) + 2 = nI (4 * K + 2) from nI_add _ 2]
  refine v_sld hC hX hb (j := 4 * K + 2) (ix_e rfl (by omega) (by omega)) dL_law_507 ?_
  refine v_aload_n hC dL_law_508 rfl rfl ?_
  refine v_iload_n hC dL_law_509 rfl rfl ?_
  refine v_iconst (v := 3) hC dL_law_510 (by decide) ?_
  refine v_iadd hC dL_law_511 ?_
  rw [show nI (4 * K) + 3 = nI (4 * K + 3) from nI_add _ 3]
  refine v_sld hC hX hb (j := 4 * K + 3) (ix_e rfl (by omega) (by omega)) dL_law_512 ?_
  refine cVi3 hC (c_X11_translate hW2 hX2 hz hTt) yv_X11_translate rfl hX2.1 mw_5_119 ⟨Nat.le_of_ble_eq_true rfl, Nat.le_of_ble_eq_true rfl⟩ ⟨rm_c (by omega), rm_s (by omega)⟩ (Nat.le_of_ble_eq_true rfl) dL_law_513 (fun r513 M516 hq => ?_)
  obtain ⟨rfl, hX3, hOn, hW3, hTa⟩ := hq
  have hA3 := hTa _ _ hA2
  refine v_pop hC dL_law_516 rfl ?_
  refine v_goto hC dL_law_517 (tgt := 1100) (by decide) ?_
  refine v_wide (k := 600 + 36 * (K + 1)) (n := 14296 + 852 * (K + 1)) (by omega) (by omega) ?_
  exact cont _ _ _ _ (J.act hB2 hT2 hCf hX3 hOn hW3 hA3 (hF.act (fun v hv => wf_translate w hv)))
set_option maxHeartbeats 4000000 in
theorem lw_c12 {p : Program} {l : Launch} {e : Env} {s : State} {m : MethodId} {below : List Frame} {meth : Method} {c : Code} {G : Gd} {M : Me} {nm : String} {b h1 n1 h2 N K t : Nat} {xs : Nat → Int32} {x : Xs} {tc : Nat → Int32} (hC : Cx p m c s #[.ref b] meth cL_law 4 "MatchBureauLaw" nm ret G) (hlo : g_lo G = s.heap.size) (hX : va_X b N xs s (g_H G)) (hb : b < g_lo G) (hN : N ≤ 2048) (hi : 4 * K + 4 ≤ N) (J : IV K x t tc M h1 n1 h2) (cont : ∀ (x2 : Xs) (t2 : Nat) (tc2 : Nat → Int32) (M2 : Me), IV (K + 1) x2 t2 tc2 M2 h1 n1 h2 → V p l e room_1 s m #[.ref b] below meth c 4 G (lw_Z below #[.ref b] s) M2 (600 + 36 * (K + 1)) (14296 + 852 * (K + 1)) 1100 [some (.ref b), some (.ref h1), some (.ref h2), some (.int (nI (4 * K)))] []) : V p l e room_1 s m #[.ref b] below meth c 4 G (lw_Z below #[.ref b] s) M (600 + 36 * K) (14296 + 852 * K) 520 [some (.ref b), some (.ref h1), some (.ref h2), some (.int (nI (4 * K)))] [] := by
  have J0 := J
  obtain ⟨hW, hB, hT, hX0, hA, hR, hF⟩ := J0
  have hK : K < 512 := by omega
  have w := hF.1
  have hcap := hX0.2.1.1.1
  have hz := w.z
  have hO := w.o.1
  have hI := w.o.2
  have hD6 := w.d
  have hQ := w.q
  have hE := w.e
  have hBb := w.b.1
  have hY := w.b.2.1
  have hS := w.f.s
  have hAa := w.f.a
  have hV := w.f.v
  have hKk := w.f.k
  have hTt := w.t
  have hJj := w.jj (by omega)
  have hzh : ∀ j, j < x_n x → hzU (x_h x j) := fun j hj => (hF.2.1 j hj).z
  have hzs : x_f x = 1 → hzU (x_s x) := fun q => (hF.2.2 q).z
  refine v_aload_n hC dL_law_520 rfl rfl ?_
  refine v_aload_n hC dL_law_521 rfl rfl ?_
  refine v_iload_n hC dL_law_522 rfl rfl ?_
  refine v_iconst (v := 1) hC dL_law_523 (by decide) ?_
  refine v_iadd hC dL_law_524 ?_
  rw [show nI (4 * K) + 1 = nI (4 * K + 1) from nI_add _ 1]
  refine v_sld hC hX hb (j := 4 * K + 1) (ix_e rfl (by omega) (by omega)) dL_law_525 ?_
  refine v_aload_n hC dL_law_526 rfl rfl ?_
  refine v_iload_n hC dL_law_527 rfl rfl ?_
  refine v_iconst (v := 2) hC dL_law_528 (by decide) ?_
  refine v_iadd hC dL_law_529 ?_
  rw [show nI (4 * K) + 2 = nI (4 * K + 2) from nI_add _ 2]
  refine v_sld hC hX hb (j := 4 * K + 2) (ix_e rfl (by omega) (by omega)) dL_law_530 ?_
  refine cVi2 hC (c_X10_review hW hB hz) yv_X10_review rfl hB.1.1.1 mw_3_132 ⟨Nat.le_of_ble_eq_true rfl, Nat.le_of_ble_eq_true rfl⟩ ⟨rm_c (by omega), rm_s (by omega)⟩ (Nat.le_of_ble_eq_true rfl) dL_law_531 (fun r531 M534 hq => ?_)
  obtain ⟨rfl, hB2, hTk, hCf, hW2⟩ := hq
  have hT2 := hTk _ _ hT
  have hX2 := hX0.cf hR hCf
  have hA2 := hA.cf hR hCf
  refine v_pop hC dL_law_534 rfl ?_
  refine v_aload_n hC dL_law_535 rfl rfl ?_
  refine v_aload_n hC dL_law_536 rfl rfl ?_
  refine v_iload_n hC dL_law_537 rfl rfl ?_
  refine v_iconst (v := 1) hC dL_law_538 (by decide) ?_
  refine v_iadd hC dL_law_539 ?_
  rw [show nI (4 * K) + 1 = nI (4 * K + 1) from nI_add _ 1]
  refine v_sld hC hX hb (j := 4 * K + 1) (ix_e rfl (by omega) (by omega)) dL_law_540 ?_
  refine v_aload_n hC dL_law_541 rfl rfl ?_
  refine v_iload_n hC dL_law_542 rfl rfl ?_
  refine v_iconst (v := 2) hC dL_law_543 (by decide) ?_
  refine v_iadd hC dL_law_544 ?_
  rw [show nI (4 * K) + 2 = nI (4 * K + 2) from nI_add _ 2]
  refine v_sld hC hX hb (j := 4 * K + 2) (ix_e rfl (by omega) (by omega)) dL_law_545 ?_
  refine cVi2 hC (c_X11_review hW2 hX2 hBb hTt hAa) yv_X11_review rfl hX2.1 mw_5_147 ⟨Nat.le_of_ble_eq_true rfl, Nat.le_of_ble_eq_true rfl⟩ ⟨rm_c (by omega), rm_s (by omega)⟩ (Nat.le_of_ble_eq_true rfl) dL_law_546 (fun r546 M549 hq => ?_)
  obtain ⟨rfl, hX3, hOn, hW3, hTa⟩ := hq
  have hA3 := hTa _ _ hA2
  refine v_pop hC dL_law_549 rfl ?_
  refine v_goto hC dL_law_550 (tgt := 1100) (by decide) ?_
  refine v_wide (k := 600 + 36 * (K + 1)) (n := 14296 + 852 * (K + 1)) (by omega) (by omega) ?_
  exact cont _ _ _ _ (J.act hB2 hT2 hCf hX3 hOn hW3 hA3 (hF.act (fun v hv => wf_review w hcap hv)))
set_option maxHeartbeats 4000000 in
theorem lw_c13 {p : Program} {l : Launch} {e : Env} {s : State} {m : MethodId} {below : List Frame} {meth : Method} {c : Code} {G : Gd} {M : Me} {nm : String} {b h1 n1 h2 N K t : Nat} {xs : Nat → Int32} {x : Xs} {tc : Nat → Int32} (hC : Cx p m c s #[.ref b] meth cL_law 4 "MatchBureauLaw" nm ret G) (hlo : g_lo G = s.heap.size) (hX : va_X b N xs s (g_H G)) (hb : b < g_lo G) (hN : N ≤ 2048) (hi : 4 * K + 4 ≤ N) (J : IV K x t tc M h1 n1 h2) (cont : ∀ (x2 : Xs) (t2 : Nat) (tc2 : Nat → Int32) (M2 : Me), IV (K + 1) x2 t2 tc2 M2 h1 n1 h2 → V p l e room_1 s m #[.ref b] below meth c 4 G (lw_Z below #[.ref b] s) M2 (600 + 36 * (K + 1)) (14296 + 852 * (K + 1)) 1100 [some (.ref b), some (.ref h1), some (.ref h2), some (.int (nI (4 * K)))] []) : V p l e room_1 s m #[.ref b] below meth c 4 G (lw_Z below #[.ref b] s) M (600 + 36 * K) (14296 + 852 * K) 553 [some (.ref b), some (.ref h1), some (.ref h2), some (.int (nI (4 * K)))] [] := by
  have J0 := J
  obtain ⟨hW, hB, hT, hX0, hA, hR, hF⟩ := J0
  have hK : K < 512 := by omega
  have w := hF.1
  have hcap := hX0.2.1.1.1
  have hz := w.z
  have hO := w.o.1
  have hI := w.o.2
  have hD6 := w.d
  have hQ := w.q
  have hE := w.e
  have hBb := w.b.1
  have hY := w.b.2.1
  have hS := w.f.s
  have hAa := w.f.a
  have hV := w.f.v
  have hKk := w.f.k
  have hTt := w.t
  have hJj := w.jj (by omega)
  have hzh : ∀ j, j < x_n x → hzU (x_h x j) := fun j hj => (hF.2.1 j hj).z
  have hzs : x_f x = 1 → hzU (x_s x) := fun q => (hF.2.2 q).z
  refine v_aload_n hC dL_law_553 rfl rfl ?_
  refine v_aload_n hC dL_law_554 rfl rfl ?_
  refine v_iload_n hC dL_law_555 rfl rfl ?_
  refine v_iconst (v := 1) hC dL_law_556 (by decide) ?_
  refine v_iadd hC dL_law_557 ?_
  rw [show nI (4 * K) + 1 = nI (4 * K + 1) from nI_add _ 1]
  refine v_sld hC hX hb (j := 4 * K + 1) (ix_e rfl (by omega) (by omega)) dL_law_558 ?_
  refine v_aload_n hC dL_law_559 rfl rfl ?_
  refine v_iload_n hC dL_law_560 rfl rfl ?_
  refine v_iconst (v := 2) hC dL_law_561 (by decide) ?_
  refine v_iadd hC dL_law_562 ?_
  rw [show nI (4 * K) + 2 = nI (4 * K + 2) from nI_add _ 2]
  refine v_sld hC hX hb (j := 4 * K + 2) (ix_e rfl (by omega) (by omega)) dL_law_563 ?_
  refine cVi2 hC (c_X10_reject hW hB hz) yv_X10_reject rfl hB.1.1.1 mw_3_155 ⟨Nat.le_of_ble_eq_true rfl, Nat.le_of_ble_eq_true rfl⟩ ⟨rm_c (by omega), rm_s (by omega)⟩ (Nat.le_of_ble_eq_true rfl) dL_law_564 (fun r564 M567 hq => ?_)
  obtain ⟨rfl, hB2, hTk, hCf, hW2⟩ := hq
  have hT2 := hTk _ _ hT
  have hX2 := hX0.cf hR hCf
  have hA2 := hA.cf hR hCf
  refine v_pop hC dL_law_567 rfl ?_
  refine v_aload_n hC dL_law_568 rfl rfl ?_
  refine v_aload_n hC dL_law_569 rfl rfl ?_
  refine v_iload_n hC dL_law_570 rfl rfl ?_
  refine v_iconst (v := 1) hC dL_law_571 (by decide) ?_
  refine v_iadd hC dL_law_572 ?_
  rw [show nI (4 * K) + 1 = nI (4 * K + 1) from nI_add _ 1]
  refine v_sld hC hX hb (j := 4 * K + 1) (ix_e rfl (by omega) (by omega)) dL_law_573 ?_
  refine v_aload_n hC dL_law_574 rfl rfl ?_
  refine v_iload_n hC dL_law_575 rfl rfl ?_
  refine v_iconst (v := 2) hC dL_law_576 (by decide) ?_
  refine v_iadd hC dL_law_577 ?_
  rw [show nI (4 * K) + 2 = nI (4 * K + 2) from nI_add _ 2]
  refine v_sld hC hX hb (j := 4 * K + 2) (ix_e rfl (by omega) (by omega)) dL_law_578 ?_
  refine cVi2 hC (c_X11_reject hW2 hX2 hJj) yv_X11_reject rfl hX2.1 mw_5_164 ⟨Nat.le_of_ble_eq_true rfl, Nat.le_of_ble_eq_true rfl⟩ ⟨rm_c (by omega), rm_s (by omega)⟩ (Nat.le_of_ble_eq_true rfl) dL_law_579 (fun r579 M582 hq => ?_)
  obtain ⟨rfl, hX3, hOn, hW3, hTa⟩ := hq
  have hA3 := hTa _ _ hA2
  refine v_pop hC dL_law_582 rfl ?_
  refine v_goto hC dL_law_583 (tgt := 1100) (by decide) ?_
  refine v_wide (k := 600 + 36 * (K + 1)) (n := 14296 + 852 * (K + 1)) (by omega) (by omega) ?_
  exact cont _ _ _ _ (J.act hB2 hT2 hCf hX3 hOn hW3 hA3 (hF.act (fun v hv => wf_reject w hcap (by omega) hv)))
set_option maxHeartbeats 4000000 in
theorem lw_c14 {p : Program} {l : Launch} {e : Env} {s : State} {m : MethodId} {below : List Frame} {meth : Method} {c : Code} {G : Gd} {M : Me} {nm : String} {b h1 n1 h2 N K t : Nat} {xs : Nat → Int32} {x : Xs} {tc : Nat → Int32} (hC : Cx p m c s #[.ref b] meth cL_law 4 "MatchBureauLaw" nm ret G) (hlo : g_lo G = s.heap.size) (hX : va_X b N xs s (g_H G)) (hb : b < g_lo G) (hN : N ≤ 2048) (hi : 4 * K + 4 ≤ N) (J : IV K x t tc M h1 n1 h2) (cont : ∀ (x2 : Xs) (t2 : Nat) (tc2 : Nat → Int32) (M2 : Me), IV (K + 1) x2 t2 tc2 M2 h1 n1 h2 → V p l e room_1 s m #[.ref b] below meth c 4 G (lw_Z below #[.ref b] s) M2 (600 + 36 * (K + 1)) (14296 + 852 * (K + 1)) 1100 [some (.ref b), some (.ref h1), some (.ref h2), some (.int (nI (4 * K)))] []) : V p l e room_1 s m #[.ref b] below meth c 4 G (lw_Z below #[.ref b] s) M (600 + 36 * K) (14296 + 852 * K) 586 [some (.ref b), some (.ref h1), some (.ref h2), some (.int (nI (4 * K)))] [] := by
  have J0 := J
  obtain ⟨hW, hB, hT, hX0, hA, hR, hF⟩ := J0
  have hK : K < 512 := by omega
  have w := hF.1
  have hcap := hX0.2.1.1.1
  have hz := w.z
  have hO := w.o.1
  have hI := w.o.2
  have hD6 := w.d
  have hQ := w.q
  have hE := w.e
  have hBb := w.b.1
  have hY := w.b.2.1
  have hS := w.f.s
  have hAa := w.f.a
  have hV := w.f.v
  have hKk := w.f.k
  have hTt := w.t
  have hJj := w.jj (by omega)
  have hzh : ∀ j, j < x_n x → hzU (x_h x j) := fun j hj => (hF.2.1 j hj).z
  have hzs : x_f x = 1 → hzU (x_s x) := fun q => (hF.2.2 q).z
  refine v_aload_n hC dL_law_586 rfl rfl ?_
  refine v_aload_n hC dL_law_587 rfl rfl ?_
  refine v_iload_n hC dL_law_588 rfl rfl ?_
  refine v_iconst (v := 1) hC dL_law_589 (by decide) ?_
  refine v_iadd hC dL_law_590 ?_
  rw [show nI (4 * K) + 1 = nI (4 * K + 1) from nI_add _ 1]
  refine v_sld hC hX hb (j := 4 * K + 1) (ix_e rfl (by omega) (by omega)) dL_law_591 ?_
  refine cVi1 hC (c_X10_deliver hW hB hz) yv_X10_deliver rfl hB.1.1.1 mw_3_159 ⟨Nat.le_of_ble_eq_true rfl, Nat.le_of_ble_eq_true rfl⟩ ⟨rm_c (by omega), rm_s (by omega)⟩ (Nat.le_of_ble_eq_true rfl) dL_law_592 (fun r592 M595 hq => ?_)
  obtain ⟨rfl, hB2, hTk, hCf, hW2⟩ := hq
  have hT2 := hTk _ _ hT
  have hX2 := hX0.cf hR hCf
  have hA2 := hA.cf hR hCf
  refine v_pop hC dL_law_595 rfl ?_
  refine v_aload_n hC dL_law_596 rfl rfl ?_
  refine v_aload_n hC dL_law_597 rfl rfl ?_
  refine v_iload_n hC dL_law_598 rfl rfl ?_
  refine v_iconst (v := 1) hC dL_law_599 (by decide) ?_
  refine v_iadd hC dL_law_600 ?_
  rw [show nI (4 * K) + 1 = nI (4 * K + 1) from nI_add _ 1]
  refine v_sld hC hX hb (j := 4 * K + 1) (ix_e rfl (by omega) (by omega)) dL_law_601 ?_
  refine cVi1 hC (c_X11_deliver hW2 hX2 hS hV) yv_X11_deliver rfl hX2.1 mw_5_168 ⟨Nat.le_of_ble_eq_true rfl, Nat.le_of_ble_eq_true rfl⟩ ⟨rm_c (by omega), rm_s (by omega)⟩ (Nat.le_of_ble_eq_true rfl) dL_law_602 (fun r602 M605 hq => ?_)
  obtain ⟨rfl, hX3, hOn, hW3, hTa⟩ := hq
  have hA3 := hTa _ _ hA2
  refine v_pop hC dL_law_605 rfl ?_
  refine v_goto hC dL_law_606 (tgt := 1100) (by decide) ?_
  refine v_wide (k := 600 + 36 * (K + 1)) (n := 14296 + 852 * (K + 1)) (by omega) (by omega) ?_
  exact cont _ _ _ _ (J.act hB2 hT2 hCf hX3 hOn hW3 hA3 (hF.act (fun v hv => wf_deliver w hcap hv)))
set_option maxHeartbeats 4000000 in
theorem lw_c15 {p : Program} {l : Launch} {e : Env} {s : State} {m : MethodId} {below : List Frame} {meth : Method} {c : Code} {G : Gd} {M : Me} {nm : String} {b h1 n1 h2 N K t : Nat} {xs : Nat → Int32} {x : Xs} {tc : Nat → Int32} (hC : Cx p m c s #[.ref b] meth cL_law 4 "MatchBureauLaw" nm ret G) (hlo : g_lo G = s.heap.size) (hX : va_X b N xs s (g_H G)) (hb : b < g_lo G) (hN : N ≤ 2048) (hi : 4 * K + 4 ≤ N) (J : IV K x t tc M h1 n1 h2) (cont : ∀ (x2 : Xs) (t2 : Nat) (tc2 : Nat → Int32) (M2 : Me), IV (K + 1) x2 t2 tc2 M2 h1 n1 h2 → V p l e room_1 s m #[.ref b] below meth c 4 G (lw_Z below #[.ref b] s) M2 (600 + 36 * (K + 1)) (14296 + 852 * (K + 1)) 1100 [some (.ref b), some (.ref h1), some (.ref h2), some (.int (nI (4 * K)))] []) : V p l e room_1 s m #[.ref b] below meth c 4 G (lw_Z below #[.ref b] s) M (600 + 36 * K) (14296 + 852 * K) 609 [some (.ref b), some (.ref h1), some (.ref h2), some (.int (nI (4 * K)))] [] := by
  have J0 := J
  obtain ⟨hW, hB, hT, hX0, hA, hR, hF⟩ := J0
  have hK : K < 512 := by omega
  have w := hF.1
  have hcap := hX0.2.1.1.1
  have hz := w.z
  have hO := w.o.1
  have hI := w.o.2
  have hD6 := w.d
  have hQ := w.q
  have hE := w.e
  have hBb := w.b.1
  have hY := w.b.2.1
  have hS := w.f.s
  have hAa := w.f.a
  have hV := w.f.v
  have hKk := w.f.k
  have hTt := w.t
  have hJj := w.jj (by omega)
  have hzh : ∀ j, j < x_n x → hzU (x_h x j) := fun j hj => (hF.2.1 j hj).z
  have hzs : x_f x = 1 → hzU (x_s x) := fun q => (hF.2.2 q).z
  refine v_aload_n hC dL_law_609 rfl rfl ?_
  refine v_aload_n hC dL_law_610 rfl rfl ?_
  refine v_iload_n hC dL_law_611 rfl rfl ?_
  refine v_iconst (v := 1) hC dL_law_612 (by decide) ?_
  refine v_iadd hC dL_law_613 ?_
  rw [show nI (4 * K) + 1 = nI (4 * K + 1) from nI_add _ 1]
  refine v_sld hC hX hb (j := 4 * K + 1) (ix_e rfl (by omega) (by omega)) dL_law_614 ?_
  refine v_aload_n hC dL_law_615 rfl rfl ?_
  refine v_iload_n hC dL_law_616 rfl rfl ?_
  refine v_iconst (v := 2) hC dL_law_617 (by decide) ?_
  refine v_iadd hC dL_law_618 ?_
  rw [show nI (4 * K) + 2 = nI (4 * K + 2) from nI_add _ 2]
  refine v_sld hC hX hb (j := 4 * K + 2) (ix_e rfl (by omega) (by omega)) dL_law_619 ?_
  refine cVi2 hC (c_X10_settle hW hB hz hD6) yv_X10_settle rfl hB.1.1.1 mw_3_175 ⟨Nat.le_of_ble_eq_true rfl, Nat.le_of_ble_eq_true rfl⟩ ⟨rm_c (by omega), rm_s (by omega)⟩ (Nat.le_of_ble_eq_true rfl) dL_law_620 (fun r620 M623 hq => ?_)
  obtain ⟨rfl, hB2, hTk, hCf, hW2⟩ := hq
  have hT2 := hTk _ _ hT
  have hX2 := hX0.cf hR hCf
  have hA2 := hA.cf hR hCf
  refine v_pop hC dL_law_623 rfl ?_
  refine v_aload_n hC dL_law_624 rfl rfl ?_
  refine v_aload_n hC dL_law_625 rfl rfl ?_
  refine v_iload_n hC dL_law_626 rfl rfl ?_
  refine v_iconst (v := 1) hC dL_law_627 (by decide) ?_
  refine v_iadd hC dL_law_628 ?_
  rw [show nI (4 * K) + 1 = nI (4 * K + 1) from nI_add _ 1]
  refine v_sld hC hX hb (j := 4 * K + 1) (ix_e rfl (by omega) (by omega)) dL_law_629 ?_
  refine v_aload_n hC dL_law_630 rfl rfl ?_
  refine v_iload_n hC dL_law_631 rfl rfl ?_
  refine v_iconst (v := 2) hC dL_law_632 (by decide) ?_
  refine v_iadd hC dL_law_633 ?_
  rw [show nI (4 * K) + 2 = nI (4 * K + 2) from nI_add _ 2]
  refine v_sld hC hX hb (j := 4 * K + 2) (ix_e rfl (by omega) (by omega)) dL_law_634 ?_
  refine cVi2 hC (c_X11_settle hW2 hX2 hS hTt hD6 hQ) yv_X11_settle rfl hX2.1 mw_5_181 ⟨Nat.le_of_ble_eq_true rfl, Nat.le_of_ble_eq_true rfl⟩ ⟨rm_c (by omega), rm_s (by omega)⟩ (Nat.le_of_ble_eq_true rfl) dL_law_635 (fun r635 M638 hq => ?_)
  obtain ⟨rfl, hX3, hOn, hW3, hTa⟩ := hq
  have hA3 := hTa _ _ hA2
  refine v_pop hC dL_law_638 rfl ?_
  refine v_goto hC dL_law_639 (tgt := 1100) (by decide) ?_
  refine v_wide (k := 600 + 36 * (K + 1)) (n := 14296 + 852 * (K + 1)) (by omega) (by omega) ?_
  exact cont _ _ _ _ (J.act hB2 hT2 hCf hX3 hOn hW3 hA3 (hF.act (fun v hv => wf_settle w hcap hv)))
set_option maxHeartbeats 4000000 in
theorem lw_c16 {p : Program} {l : Launch} {e : Env} {s : State} {m : MethodId} {below : List Frame} {meth : Method} {c : Code} {G : Gd} {M : Me} {nm : String} {b h1 n1 h2 N K t : Nat} {xs : Nat → Int32} {x : Xs} {tc : Nat → Int32} (hC : Cx p m c s #[.ref b] meth cL_law 4 "MatchBureauLaw" nm ret G) (hlo : g_lo G = s.heap.size) (hX : va_X b N xs s (g_H G)) (hb : b < g_lo G) (hN : N ≤ 2048) (hi : 4 * K + 4 ≤ N) (J : IV K x t tc M h1 n1 h2) (cont : ∀ (x2 : Xs) (t2 : Nat) (tc2 : Nat → Int32) (M2 : Me), IV (K + 1) x2 t2 tc2 M2 h1 n1 h2 → V p l e room_1 s m #[.ref b] below meth c 4 G (lw_Z below #[.ref b] s) M2 (600 + 36 * (K + 1)) (14296 + 852 * (K + 1)) 1100 [some (.ref b), some (.ref h1), some (.ref h2), some (.int (nI (4 * K)))] []) : V p l e room_1 s m #[.ref b] below meth c 4 G (lw_Z below #[.ref b] s) M (600 + 36 * K) (14296 + 852 * K) 642 [some (.ref b), some (.ref h1), some (.ref h2), some (.int (nI (4 * K)))] [] := by
  have J0 := J
  obtain ⟨hW, hB, hT, hX0, hA, hR, hF⟩ := J0
  have hK : K < 512 := by omega
  have w := hF.1
  have hcap := hX0.2.1.1.1
  have hz := w.z
  have hO := w.o.1
  have hI := w.o.2
  have hD6 := w.d
  have hQ := w.q
  have hE := w.e
  have hBb := w.b.1
  have hY := w.b.2.1
  have hS := w.f.s
  have hAa := w.f.a
  have hV := w.f.v
  have hKk := w.f.k
  have hTt := w.t
  have hJj := w.jj (by omega)
  have hzh : ∀ j, j < x_n x → hzU (x_h x j) := fun j hj => (hF.2.1 j hj).z
  have hzs : x_f x = 1 → hzU (x_s x) := fun q => (hF.2.2 q).z
  refine v_aload_n hC dL_law_642 rfl rfl ?_
  refine cVi0 hC (c_X10_undo hW hB hzh) yv_X10_undo rfl hB.1.1.1 mw_3_193 ⟨Nat.le_of_ble_eq_true rfl, Nat.le_of_ble_eq_true rfl⟩ ⟨rm_c (by omega), rm_s (by omega)⟩ (Nat.le_of_ble_eq_true rfl) dL_law_643 (fun r643 M646 hq => ?_)
  obtain ⟨rfl, hB2, hTk, hCf, hW2⟩ := hq
  have hT2 := hTk _ _ hT
  have hX2 := hX0.cf hR hCf
  have hA2 := hA.cf hR hCf
  refine v_pop hC dL_law_646 rfl ?_
  refine v_aload_n hC dL_law_647 rfl rfl ?_
  refine cVi0 hC (c_X11_undo hW2 hX2) yv_X11_undo rfl hX2.1 mw_4_157 ⟨Nat.le_of_ble_eq_true rfl, Nat.le_of_ble_eq_true rfl⟩ ⟨rm_c (by omega), rm_s (by omega)⟩ (Nat.le_of_ble_eq_true rfl) dL_law_648 (fun r648 M651 hq => ?_)
  obtain ⟨rfl, hX3, hOn, hW3, hTa⟩ := hq
  have hA3 := hTa _ _ hA2
  refine v_pop hC dL_law_651 rfl ?_
  refine v_goto hC dL_law_652 (tgt := 1100) (by decide) ?_
  refine v_wide (k := 600 + 36 * (K + 1)) (n := 14296 + 852 * (K + 1)) (by omega) (by omega) ?_
  exact cont _ _ _ _ (J.act hB2 hT2 hCf hX3 hOn hW3 hA3 hF.pop)
set_option maxHeartbeats 4000000 in
theorem lw_c17 {p : Program} {l : Launch} {e : Env} {s : State} {m : MethodId} {below : List Frame} {meth : Method} {c : Code} {G : Gd} {M : Me} {nm : String} {b h1 n1 h2 N K t : Nat} {xs : Nat → Int32} {x : Xs} {tc : Nat → Int32} (hC : Cx p m c s #[.ref b] meth cL_law 4 "MatchBureauLaw" nm ret G) (hlo : g_lo G = s.heap.size) (hX : va_X b N xs s (g_H G)) (hb : b < g_lo G) (hN : N ≤ 2048) (hi : 4 * K + 4 ≤ N) (J : IV K x t tc M h1 n1 h2) (cont : ∀ (x2 : Xs) (t2 : Nat) (tc2 : Nat → Int32) (M2 : Me), IV (K + 1) x2 t2 tc2 M2 h1 n1 h2 → V p l e room_1 s m #[.ref b] below meth c 4 G (lw_Z below #[.ref b] s) M2 (600 + 36 * (K + 1)) (14296 + 852 * (K + 1)) 1100 [some (.ref b), some (.ref h1), some (.ref h2), some (.int (nI (4 * K)))] []) : V p l e room_1 s m #[.ref b] below meth c 4 G (lw_Z below #[.ref b] s) M (600 + 36 * K) (14296 + 852 * K) 655 [some (.ref b), some (.ref h1), some (.ref h2), some (.int (nI (4 * K)))] [] := by
  have J0 := J
  obtain ⟨hW, hB, hT, hX0, hA, hR, hF⟩ := J0
  have hK : K < 512 := by omega
  have w := hF.1
  have hcap := hX0.2.1.1.1
  have hz := w.z
  have hO := w.o.1
  have hI := w.o.2
  have hD6 := w.d
  have hQ := w.q
  have hE := w.e
  have hBb := w.b.1
  have hY := w.b.2.1
  have hS := w.f.s
  have hAa := w.f.a
  have hV := w.f.v
  have hKk := w.f.k
  have hTt := w.t
  have hJj := w.jj (by omega)
  have hzh : ∀ j, j < x_n x → hzU (x_h x j) := fun j hj => (hF.2.1 j hj).z
  have hzs : x_f x = 1 → hzU (x_s x) := fun q => (hF.2.2 q).z
  refine v_aload_n hC dL_law_655 rfl rfl ?_
  refine cVi0 hC (c_X10_keep hW hB hz) yv_X10_keep rfl hB.1.1.1 mw_3_201 ⟨Nat.le_of_ble_eq_true rfl, Nat.le_of_ble_eq_true rfl⟩ ⟨rm_c (by omega), rm_s (by omega)⟩ (Nat.le_of_ble_eq_true rfl) dL_law_656 (fun r656 M659 hq => ?_)
  obtain ⟨rfl, hB2, hTk, hCf, hW2⟩ := hq
  have hT2 := hTk _ _ hT
  have hX2 := hX0.cf hR hCf
  have hA2 := hA.cf hR hCf
  refine v_pop hC dL_law_659 rfl ?_
  refine v_aload_n hC dL_law_660 rfl rfl ?_
  refine cVi0 hC (c_X11_keep hW2 hX2) yv_X11_keep rfl hX2.1 mw_4_161 ⟨Nat.le_of_ble_eq_true rfl, Nat.le_of_ble_eq_true rfl⟩ ⟨rm_c (by omega), rm_s (by omega)⟩ (Nat.le_of_ble_eq_true rfl) dL_law_661 (fun r661 M664 hq => ?_)
  obtain ⟨rfl, hX3, hOn, hW3, hTa⟩ := hq
  have hA3 := hTa _ _ hA2
  refine v_pop hC dL_law_664 rfl ?_
  refine v_goto hC dL_law_665 (tgt := 1100) (by decide) ?_
  refine v_wide (k := 600 + 36 * (K + 1)) (n := 14296 + 852 * (K + 1)) (by omega) (by omega) ?_
  exact cont _ _ _ _ (J.act hB2 hT2 hCf hX3 hOn hW3 hA3 hF.keep)
set_option maxHeartbeats 4000000 in
theorem lw_c18 {p : Program} {l : Launch} {e : Env} {s : State} {m : MethodId} {below : List Frame} {meth : Method} {c : Code} {G : Gd} {M : Me} {nm : String} {b h1 n1 h2 N K t : Nat} {xs : Nat → Int32} {x : Xs} {tc : Nat → Int32} (hC : Cx p m c s #[.ref b] meth cL_law 4 "MatchBureauLaw" nm ret G) (hlo : g_lo G = s.heap.size) (hX : va_X b N xs s (g_H G)) (hb : b < g_lo G) (hN : N ≤ 2048) (hi : 4 * K + 4 ≤ N) (J : IV K x t tc M h1 n1 h2) (cont : ∀ (x2 : Xs) (t2 : Nat) (tc2 : Nat → Int32) (M2 : Me), IV (K + 1) x2 t2 tc2 M2 h1 n1 h2 → V p l e room_1 s m #[.ref b] below meth c 4 G (lw_Z below #[.ref b] s) M2 (600 + 36 * (K + 1)) (14296 + 852 * (K + 1)) 1100 [some (.ref b), some (.ref h1), some (.ref h2), some (.int (nI (4 * K)))] []) : V p l e room_1 s m #[.ref b] below meth c 4 G (lw_Z below #[.ref b] s) M (600 + 36 * K) (14296 + 852 * K) 668 [some (.ref b), some (.ref h1), some (.ref h2), some (.int (nI (4 * K)))] [] := by
  have J0 := J
  obtain ⟨hW, hB, hT, hX0, hA, hR, hF⟩ := J0
  have hK : K < 512 := by omega
  have w := hF.1
  have hcap := hX0.2.1.1.1
  have hz := w.z
  have hO := w.o.1
  have hI := w.o.2
  have hD6 := w.d
  have hQ := w.q
  have hE := w.e
  have hBb := w.b.1
  have hY := w.b.2.1
  have hS := w.f.s
  have hAa := w.f.a
  have hV := w.f.v
  have hKk := w.f.k
  have hTt := w.t
  have hJj := w.jj (by omega)
  have hzh : ∀ j, j < x_n x → hzU (x_h x j) := fun j hj => (hF.2.1 j hj).z
  have hzs : x_f x = 1 → hzU (x_s x) := fun q => (hF.2.2 q).z
  refine v_aload_n hC dL_law_668 rfl rfl ?_
  refine cVi0 hC (c_X10_restore hW hB hz hzs) yv_X10_restore rfl hB.1.1.1 mw_3_206 ⟨Nat.le_of_ble_eq_true rfl, Nat.le_of_ble_eq_true rfl⟩ ⟨rm_c (by omega), rm_s (by omega)⟩ (Nat.le_of_ble_eq_true rfl) dL_law_669 (fun r669 M672 hq => ?_)
  obtain ⟨rfl, hB2, hTk, hCf, hW2⟩ := hq
  have hT2 := hTk _ _ hT
  have hX2 := hX0.cf hR hCf
  have hA2 := hA.cf hR hCf
  refine v_pop hC dL_law_672 rfl ?_
  refine v_aload_n hC dL_law_673 rfl rfl ?_
  refine cVi0 hC (c_X11_restore hW2 hX2) yv_X11_restore rfl hX2.1 mw_4_169 ⟨Nat.le_of_ble_eq_true rfl, Nat.le_of_ble_eq_true rfl⟩ ⟨rm_c (by omega), rm_s (by omega)⟩ (Nat.le_of_ble_eq_true rfl) dL_law_674 (fun r674 M677 hq => ?_)
  obtain ⟨rfl, hX3, hOn, hW3, hTa⟩ := hq
  have hA3 := hTa _ _ hA2
  refine v_pop hC dL_law_677 rfl ?_
  refine v_goto hC dL_law_678 (tgt := 1100) (by decide) ?_
  refine v_wide (k := 600 + 36 * (K + 1)) (n := 14296 + 852 * (K + 1)) (by omega) (by omega) ?_
  exact cont _ _ _ _ (J.act hB2 hT2 hCf hX3 hOn hW3 hA3 (hF.rest hX0.2.2.2.2.1))
set_option maxHeartbeats 4000000 in
theorem lw_c19 {p : Program} {l : Launch} {e : Env} {s : State} {m : MethodId} {below : List Frame} {meth : Method} {c : Code} {G : Gd} {M : Me} {nm : String} {b h1 n1 h2 N K t : Nat} {xs : Nat → Int32} {x : Xs} {tc : Nat → Int32} (hC : Cx p m c s #[.ref b] meth cL_law 4 "MatchBureauLaw" nm ret G) (hlo : g_lo G = s.heap.size) (hX : va_X b N xs s (g_H G)) (hb : b < g_lo G) (hN : N ≤ 2048) (hi : 4 * K + 4 ≤ N) (J : IV K x t tc M h1 n1 h2) (cont : ∀ (x2 : Xs) (t2 : Nat) (tc2 : Nat → Int32) (M2 : Me), IV (K + 1) x2 t2 tc2 M2 h1 n1 h2 → V p l e room_1 s m #[.ref b] below meth c 4 G (lw_Z below #[.ref b] s) M2 (600 + 36 * (K + 1)) (14296 + 852 * (K + 1)) 1100 [some (.ref b), some (.ref h1), some (.ref h2), some (.int (nI (4 * K)))] []) : V p l e room_1 s m #[.ref b] below meth c 4 G (lw_Z below #[.ref b] s) M (600 + 36 * K) (14296 + 852 * K) 681 [some (.ref b), some (.ref h1), some (.ref h2), some (.int (nI (4 * K)))] [] := by
  have J0 := J
  obtain ⟨hW, hB, hT, hX0, hA, hR, hF⟩ := J0
  have hK : K < 512 := by omega
  have w := hF.1
  have hcap := hX0.2.1.1.1
  have hz := w.z
  have hO := w.o.1
  have hI := w.o.2
  have hD6 := w.d
  have hQ := w.q
  have hE := w.e
  have hBb := w.b.1
  have hY := w.b.2.1
  have hS := w.f.s
  have hAa := w.f.a
  have hV := w.f.v
  have hKk := w.f.k
  have hTt := w.t
  have hJj := w.jj (by omega)
  have hzh : ∀ j, j < x_n x → hzU (x_h x j) := fun j hj => (hF.2.1 j hj).z
  have hzs : x_f x = 1 → hzU (x_s x) := fun q => (hF.2.2 q).z
  refine v_aload_n hC dL_law_681 rfl rfl ?_
  refine v_aload_n hC dL_law_682 rfl rfl ?_
  refine v_iload_n hC dL_law_683 rfl rfl ?_
  refine v_iconst (v := 1) hC dL_law_684 (by decide) ?_
  refine v_iadd hC dL_law_685 ?_
  rw [show nI (4 * K) + 1 = nI (4 * K + 1) from nI_add _ 1]
  refine v_sld hC hX hb (j := 4 * K + 1) (ix_e rfl (by omega) (by omega)) dL_law_686 ?_
  refine v_aload_n hC dL_law_687 rfl rfl ?_
  refine v_iload_n hC dL_law_688 rfl rfl ?_
  refine v_iconst (v := 2) hC dL_law_689 (by decide) ?_
  refine v_iadd hC dL_law_690 ?_
  rw [show nI (4 * K) + 2 = nI (4 * K + 2) from nI_add _ 2]
  refine v_sld hC hX hb (j := 4 * K + 2) (ix_e rfl (by omega) (by omega)) dL_law_691 ?_
  refine cVi2 hC (c_X10_person hW hB) yv_X10_person rfl hB.1.1.1 mw_3_210 ⟨Nat.le_of_ble_eq_true rfl, Nat.le_of_ble_eq_true rfl⟩ ⟨rm_c (by omega), rm_s (by omega)⟩ (Nat.le_of_ble_eq_true rfl) dL_law_692 (fun r692 M695 hq => ?_)
  obtain ⟨rfl, hbx⟩ := hq
  have hB2 := hB.bx hbx
  have hT2 := hT.bx hbx
  have hW2 := hW.bx hbx
  have hCf : Cf M M695 h1 n1 := Bx.cf hbx
  have hX2 := hX0.cf hR hCf
  have hA2 := hA.cf hR hCf
  refine v_pop hC dL_law_695 rfl ?_
  refine v_aload_n hC dL_law_696 rfl rfl ?_
  refine v_aload_n hC dL_law_697 rfl rfl ?_
  refine v_iload_n hC dL_law_698 rfl rfl ?_
  refine v_iconst (v := 1) hC dL_law_699 (by decide) ?_
  refine v_iadd hC dL_law_700 ?_
  rw [show nI (4 * K) + 1 = nI (4 * K + 1) from nI_add _ 1]
  refine v_sld hC hX hb (j := 4 * K + 1) (ix_e rfl (by omega) (by omega)) dL_law_701 ?_
  refine v_aload_n hC dL_law_702 rfl rfl ?_
  refine v_iload_n hC dL_law_703 rfl rfl ?_
  refine v_iconst (v := 2) hC dL_law_704 (by decide) ?_
  refine v_iadd hC dL_law_705 ?_
  rw [show nI (4 * K) + 2 = nI (4 * K + 2) from nI_add _ 2]
  refine v_sld hC hX hb (j := 4 * K + 2) (ix_e rfl (by omega) (by omega)) dL_law_706 ?_
  have ht2 := hX2.1
  have hL := hX2.2.1.1
  have hP := hX2.2.1.2
  refine cVi2 hC (c_X11_person hW2 ht2 hL hP) yv_X11_person rfl hX2.1 mw_5_193 ⟨Nat.le_of_ble_eq_true rfl, Nat.le_of_ble_eq_true rfl⟩ ⟨rm_c (by omega), rm_s (by omega)⟩ (Nat.le_of_ble_eq_true rfl) dL_law_707 (fun r707 M710 hq => ?_)
  obtain ⟨rfl, hbd⟩ := hq
  have hX3 := hX2.bd hbd
  have hA3 := hA2.bd hbd
  have hW3 := hW2.bd hbd
  have hOn := On.bd hbd
  refine v_pop hC dL_law_710 rfl ?_
  refine v_goto hC dL_law_711 (tgt := 1100) (by decide) ?_
  refine v_wide (k := 600 + 36 * (K + 1)) (n := 14296 + 852 * (K + 1)) (by omega) (by omega) ?_
  exact cont _ _ _ _ (J.act hB2 hT2 hCf hX3 hOn hW3 hA3 (hF.up (by omega)))
set_option maxHeartbeats 4000000 in
theorem lw_c20 {p : Program} {l : Launch} {e : Env} {s : State} {m : MethodId} {below : List Frame} {meth : Method} {c : Code} {G : Gd} {M : Me} {nm : String} {b h1 n1 h2 N K t : Nat} {xs : Nat → Int32} {x : Xs} {tc : Nat → Int32} (hC : Cx p m c s #[.ref b] meth cL_law 4 "MatchBureauLaw" nm ret G) (hlo : g_lo G = s.heap.size) (hX : va_X b N xs s (g_H G)) (hb : b < g_lo G) (hN : N ≤ 2048) (hi : 4 * K + 4 ≤ N) (J : IV K x t tc M h1 n1 h2) (cont : ∀ (x2 : Xs) (t2 : Nat) (tc2 : Nat → Int32) (M2 : Me), IV (K + 1) x2 t2 tc2 M2 h1 n1 h2 → V p l e room_1 s m #[.ref b] below meth c 4 G (lw_Z below #[.ref b] s) M2 (600 + 36 * (K + 1)) (14296 + 852 * (K + 1)) 1100 [some (.ref b), some (.ref h1), some (.ref h2), some (.int (nI (4 * K)))] []) : V p l e room_1 s m #[.ref b] below meth c 4 G (lw_Z below #[.ref b] s) M (600 + 36 * K) (14296 + 852 * K) 714 [some (.ref b), some (.ref h1), some (.ref h2), some (.int (nI (4 * K)))] [] := by
  have J0 := J
  obtain ⟨hW, hB, hT, hX0, hA, hR, hF⟩ := J0
  have hK : K < 512 := by omega
  have w := hF.1
  have hcap := hX0.2.1.1.1
  have hz := w.z
  have hO := w.o.1
  have hI := w.o.2
  have hD6 := w.d
  have hQ := w.q
  have hE := w.e
  have hBb := w.b.1
  have hY := w.b.2.1
  have hS := w.f.s
  have hAa := w.f.a
  have hV := w.f.v
  have hKk := w.f.k
  have hTt := w.t
  have hJj := w.jj (by omega)
  have hzh : ∀ j, j < x_n x → hzU (x_h x j) := fun j hj => (hF.2.1 j hj).z
  have hzs : x_f x = 1 → hzU (x_s x) := fun q => (hF.2.2 q).z
  refine v_aload_n hC dL_law_714 rfl rfl ?_
  refine v_aload_n hC dL_law_715 rfl rfl ?_
  refine v_iload_n hC dL_law_716 rfl rfl ?_
  refine v_iconst (v := 1) hC dL_law_717 (by decide) ?_
  refine v_iadd hC dL_law_718 ?_
  rw [show nI (4 * K) + 1 = nI (4 * K + 1) from nI_add _ 1]
  refine v_sld hC hX hb (j := 4 * K + 1) (ix_e rfl (by omega) (by omega)) dL_law_719 ?_
  refine v_aload_n hC dL_law_720 rfl rfl ?_
  refine v_iload_n hC dL_law_721 rfl rfl ?_
  refine v_iconst (v := 2) hC dL_law_722 (by decide) ?_
  refine v_iadd hC dL_law_723 ?_
  rw [show nI (4 * K) + 2 = nI (4 * K + 2) from nI_add _ 2]
  refine v_sld hC hX hb (j := 4 * K + 2) (ix_e rfl (by omega) (by omega)) dL_law_724 ?_
  refine cVi2 hC (c_X10_file hW hB) yv_X10_file rfl hB.1.1.1 mw_4_4 ⟨Nat.le_of_ble_eq_true rfl, Nat.le_of_ble_eq_true rfl⟩ ⟨rm_c (by omega), rm_s (by omega)⟩ (Nat.le_of_ble_eq_true rfl) dL_law_725 (fun r725 M728 hq => ?_)
  have hm2 := hq.symm
  clear hq
  subst hm2
  have hB2 := hB
  have hT2 := hT
  have hW2 := hW
  have hCf : Cf M M h1 n1 := Cf.rf
  have hX2 := hX0.cf hR hCf
  have hA2 := hA.cf hR hCf
  refine v_pop hC dL_law_728 rfl ?_
  refine v_aload_n hC dL_law_729 rfl rfl ?_
  refine v_aload_n hC dL_law_730 rfl rfl ?_
  refine v_iload_n hC dL_law_731 rfl rfl ?_
  refine v_iconst (v := 1) hC dL_law_732 (by decide) ?_
  refine v_iadd hC dL_law_733 ?_
  rw [show nI (4 * K) + 1 = nI (4 * K + 1) from nI_add _ 1]
  refine v_sld hC hX hb (j := 4 * K + 1) (ix_e rfl (by omega) (by omega)) dL_law_734 ?_
  refine v_aload_n hC dL_law_735 rfl rfl ?_
  refine v_iload_n hC dL_law_736 rfl rfl ?_
  refine v_iconst (v := 2) hC dL_law_737 (by decide) ?_
  refine v_iadd hC dL_law_738 ?_
  rw [show nI (4 * K) + 2 = nI (4 * K + 2) from nI_add _ 2]
  refine v_sld hC hX hb (j := 4 * K + 2) (ix_e rfl (by omega) (by omega)) dL_law_739 ?_
  have ht2 := hX2.1
  have hL := hX2.2.1.1
  have hP := hX2.2.1.2
  refine cVi2 hC (c_X11_file hW2 ht2 hL hO hS hTt) yv_X11_file rfl hX2.1 mw_5_201 ⟨Nat.le_of_ble_eq_true rfl, Nat.le_of_ble_eq_true rfl⟩ ⟨rm_c (by omega), rm_s (by omega)⟩ (Nat.le_of_ble_eq_true rfl) dL_law_740 (fun r740 M743 hq => ?_)
  have hm2 := hq.symm
  clear hq
  subst hm2
  have hX3 := hX2
  have hA3 := hA2
  have hW3 := hW2
  have hOn : On M M := On.rf
  refine v_pop hC dL_law_743 rfl ?_
  refine v_goto hC dL_law_744 (tgt := 1100) (by decide) ?_
  refine v_wide (k := 600 + 36 * (K + 1)) (n := 14296 + 852 * (K + 1)) (by omega) (by omega) ?_
  exact cont _ _ _ _ (J.act hB2 hT2 hCf hX3 hOn hW3 hA3 (hF.up (by omega)))
set_option maxHeartbeats 4000000 in
theorem lw_c21 {p : Program} {l : Launch} {e : Env} {s : State} {m : MethodId} {below : List Frame} {meth : Method} {c : Code} {G : Gd} {M : Me} {nm : String} {b h1 n1 h2 N K t : Nat} {xs : Nat → Int32} {x : Xs} {tc : Nat → Int32} (hC : Cx p m c s #[.ref b] meth cL_law 4 "MatchBureauLaw" nm ret G) (hlo : g_lo G = s.heap.size) (hX : va_X b N xs s (g_H G)) (hb : b < g_lo G) (hN : N ≤ 2048) (hi : 4 * K + 4 ≤ N) (J : IV K x t tc M h1 n1 h2) (cont : ∀ (x2 : Xs) (t2 : Nat) (tc2 : Nat → Int32) (M2 : Me), IV (K + 1) x2 t2 tc2 M2 h1 n1 h2 → V p l e room_1 s m #[.ref b] below meth c 4 G (lw_Z below #[.ref b] s) M2 (600 + 36 * (K + 1)) (14296 + 852 * (K + 1)) 1100 [some (.ref b), some (.ref h1), some (.ref h2), some (.int (nI (4 * K)))] []) : V p l e room_1 s m #[.ref b] below meth c 4 G (lw_Z below #[.ref b] s) M (600 + 36 * K) (14296 + 852 * K) 747 [some (.ref b), some (.ref h1), some (.ref h2), some (.int (nI (4 * K)))] [] := by
  have J0 := J
  obtain ⟨hW, hB, hT, hX0, hA, hR, hF⟩ := J0
  have hK : K < 512 := by omega
  have w := hF.1
  have hcap := hX0.2.1.1.1
  have hz := w.z
  have hO := w.o.1
  have hI := w.o.2
  have hD6 := w.d
  have hQ := w.q
  have hE := w.e
  have hBb := w.b.1
  have hY := w.b.2.1
  have hS := w.f.s
  have hAa := w.f.a
  have hV := w.f.v
  have hKk := w.f.k
  have hTt := w.t
  have hJj := w.jj (by omega)
  have hzh : ∀ j, j < x_n x → hzU (x_h x j) := fun j hj => (hF.2.1 j hj).z
  have hzs : x_f x = 1 → hzU (x_s x) := fun q => (hF.2.2 q).z
  refine v_aload_n hC dL_law_747 rfl rfl ?_
  refine v_aload_n hC dL_law_748 rfl rfl ?_
  refine v_iload_n hC dL_law_749 rfl rfl ?_
  refine v_iconst (v := 1) hC dL_law_750 (by decide) ?_
  refine v_iadd hC dL_law_751 ?_
  rw [show nI (4 * K) + 1 = nI (4 * K + 1) from nI_add _ 1]
  refine v_sld hC hX hb (j := 4 * K + 1) (ix_e rfl (by omega) (by omega)) dL_law_752 ?_
  refine v_aload_n hC dL_law_753 rfl rfl ?_
  refine v_iload_n hC dL_law_754 rfl rfl ?_
  refine v_iconst (v := 2) hC dL_law_755 (by decide) ?_
  refine v_iadd hC dL_law_756 ?_
  rw [show nI (4 * K) + 2 = nI (4 * K + 2) from nI_add _ 2]
  refine v_sld hC hX hb (j := 4 * K + 2) (ix_e rfl (by omega) (by omega)) dL_law_757 ?_
  refine v_aload_n hC dL_law_758 rfl rfl ?_
  refine v_iload_n hC dL_law_759 rfl rfl ?_
  refine v_iconst (v := 3) hC dL_law_760 (by decide) ?_
  refine v_iadd hC dL_law_761 ?_
  rw [show nI (4 * K) + 3 = nI (4 * K + 3) from nI_add _ 3]
  refine v_sld hC hX hb (j := 4 * K + 3) (ix_e rfl (by omega) (by omega)) dL_law_762 ?_
  refine cVi3 hC (c_X10_segment hW hB hO) yv_X10_segment rfl hB.1.1.1 mw_4_9 ⟨Nat.le_of_ble_eq_true rfl, Nat.le_of_ble_eq_true rfl⟩ ⟨rm_c (by omega), rm_s (by omega)⟩ (Nat.le_of_ble_eq_true rfl) dL_law_763 (fun r763 M766 hq => ?_)
  obtain ⟨rfl, hbx⟩ := hq
  have hB2 := hB.bx hbx
  have hT2 := hT.bx hbx
  have hW2 := hW.bx hbx
  have hCf : Cf M M766 h1 n1 := Bx.cf hbx
  have hX2 := hX0.cf hR hCf
  have hA2 := hA.cf hR hCf
  refine v_pop hC dL_law_766 rfl ?_
  refine v_aload_n hC dL_law_767 rfl rfl ?_
  refine v_aload_n hC dL_law_768 rfl rfl ?_
  refine v_iload_n hC dL_law_769 rfl rfl ?_
  refine v_iconst (v := 1) hC dL_law_770 (by decide) ?_
  refine v_iadd hC dL_law_771 ?_
  rw [show nI (4 * K) + 1 = nI (4 * K + 1) from nI_add _ 1]
  refine v_sld hC hX hb (j := 4 * K + 1) (ix_e rfl (by omega) (by omega)) dL_law_772 ?_
  refine v_aload_n hC dL_law_773 rfl rfl ?_
  refine v_iload_n hC dL_law_774 rfl rfl ?_
  refine v_iconst (v := 2) hC dL_law_775 (by decide) ?_
  refine v_iadd hC dL_law_776 ?_
  rw [show nI (4 * K) + 2 = nI (4 * K + 2) from nI_add _ 2]
  refine v_sld hC hX hb (j := 4 * K + 2) (ix_e rfl (by omega) (by omega)) dL_law_777 ?_
  refine v_aload_n hC dL_law_778 rfl rfl ?_
  refine v_iload_n hC dL_law_779 rfl rfl ?_
  refine v_iconst (v := 3) hC dL_law_780 (by decide) ?_
  refine v_iadd hC dL_law_781 ?_
  rw [show nI (4 * K) + 3 = nI (4 * K + 3) from nI_add _ 3]
  refine v_sld hC hX hb (j := 4 * K + 3) (ix_e rfl (by omega) (by omega)) dL_law_782 ?_
  have ht2 := hX2.1
  have hL := hX2.2.1.1
  have hP := hX2.2.1.2
  refine cVi3 hC (c_X11_segment hW2 ht2 hL hO hS) yv_X11_segment rfl hX2.1 mw_5_205 ⟨Nat.le_of_ble_eq_true rfl, Nat.le_of_ble_eq_true rfl⟩ ⟨rm_c (by omega), rm_s (by omega)⟩ (Nat.le_of_ble_eq_true rfl) dL_law_783 (fun r783 M786 hq => ?_)
  obtain ⟨rfl, hbd⟩ := hq
  have hX3 := hX2.bd hbd
  have hA3 := hA2.bd hbd
  have hW3 := hW2.bd hbd
  have hOn := On.bd hbd
  refine v_pop hC dL_law_786 rfl ?_
  refine v_goto hC dL_law_787 (tgt := 1100) (by decide) ?_
  refine v_wide (k := 600 + 36 * (K + 1)) (n := 14296 + 852 * (K + 1)) (by omega) (by omega) ?_
  exact cont _ _ _ _ (J.act hB2 hT2 hCf hX3 hOn hW3 hA3 (hF.up (by omega)))
set_option maxHeartbeats 4000000 in
theorem lw_c22 {p : Program} {l : Launch} {e : Env} {s : State} {m : MethodId} {below : List Frame} {meth : Method} {c : Code} {G : Gd} {M : Me} {nm : String} {b h1 n1 h2 N K t : Nat} {xs : Nat → Int32} {x : Xs} {tc : Nat → Int32} (hC : Cx p m c s #[.ref b] meth cL_law 4 "MatchBureauLaw" nm ret G) (hlo : g_lo G = s.heap.size) (hX : va_X b N xs s (g_H G)) (hb : b < g_lo G) (hN : N ≤ 2048) (hi : 4 * K + 4 ≤ N) (J : IV K x t tc M h1 n1 h2) (cont : ∀ (x2 : Xs) (t2 : Nat) (tc2 : Nat → Int32) (M2 : Me), IV (K + 1) x2 t2 tc2 M2 h1 n1 h2 → V p l e room_1 s m #[.ref b] below meth c 4 G (lw_Z below #[.ref b] s) M2 (600 + 36 * (K + 1)) (14296 + 852 * (K + 1)) 1100 [some (.ref b), some (.ref h1), some (.ref h2), some (.int (nI (4 * K)))] []) : V p l e room_1 s m #[.ref b] below meth c 4 G (lw_Z below #[.ref b] s) M (600 + 36 * K) (14296 + 852 * K) 790 [some (.ref b), some (.ref h1), some (.ref h2), some (.int (nI (4 * K)))] [] := by
  have J0 := J
  obtain ⟨hW, hB, hT, hX0, hA, hR, hF⟩ := J0
  have hK : K < 512 := by omega
  have w := hF.1
  have hcap := hX0.2.1.1.1
  have hz := w.z
  have hO := w.o.1
  have hI := w.o.2
  have hD6 := w.d
  have hQ := w.q
  have hE := w.e
  have hBb := w.b.1
  have hY := w.b.2.1
  have hS := w.f.s
  have hAa := w.f.a
  have hV := w.f.v
  have hKk := w.f.k
  have hTt := w.t
  have hJj := w.jj (by omega)
  have hzh : ∀ j, j < x_n x → hzU (x_h x j) := fun j hj => (hF.2.1 j hj).z
  have hzs : x_f x = 1 → hzU (x_s x) := fun q => (hF.2.2 q).z
  refine v_aload_n hC dL_law_790 rfl rfl ?_
  refine v_aload_n hC dL_law_791 rfl rfl ?_
  refine v_iload_n hC dL_law_792 rfl rfl ?_
  refine v_iconst (v := 1) hC dL_law_793 (by decide) ?_
  refine v_iadd hC dL_law_794 ?_
  rw [show nI (4 * K) + 1 = nI (4 * K + 1) from nI_add _ 1]
  refine v_sld hC hX hb (j := 4 * K + 1) (ix_e rfl (by omega) (by omega)) dL_law_795 ?_
  refine v_aload_n hC dL_law_796 rfl rfl ?_
  refine v_iload_n hC dL_law_797 rfl rfl ?_
  refine v_iconst (v := 2) hC dL_law_798 (by decide) ?_
  refine v_iadd hC dL_law_799 ?_
  rw [show nI (4 * K) + 2 = nI (4 * K + 2) from nI_add _ 2]
  refine v_sld hC hX hb (j := 4 * K + 2) (ix_e rfl (by omega) (by omega)) dL_law_800 ?_
  refine v_aload_n hC dL_law_801 rfl rfl ?_
  refine v_iload_n hC dL_law_802 rfl rfl ?_
  refine v_iconst (v := 3) hC dL_law_803 (by decide) ?_
  refine v_iadd hC dL_law_804 ?_
  rw [show nI (4 * K) + 3 = nI (4 * K + 3) from nI_add _ 3]
  refine v_sld hC hX hb (j := 4 * K + 3) (ix_e rfl (by omega) (by omega)) dL_law_805 ?_
  refine cVi3 hC (c_X10_charAt hW hB) yv_X10_charAt rfl hB.1.1.1 mw_4_21 ⟨Nat.le_of_ble_eq_true rfl, Nat.le_of_ble_eq_true rfl⟩ ⟨rm_c (by omega), rm_s (by omega)⟩ (Nat.le_of_ble_eq_true rfl) dL_law_806 (fun r806 M809 hq => ?_)
  obtain ⟨rfl, hbx⟩ := hq
  have hB2 := hB.bx hbx
  have hT2 := hT.bx hbx
  have hW2 := hW.bx hbx
  have hCf : Cf M M809 h1 n1 := Bx.cf hbx
  have hX2 := hX0.cf hR hCf
  have hA2 := hA.cf hR hCf
  refine v_pop hC dL_law_809 rfl ?_
  refine v_aload_n hC dL_law_810 rfl rfl ?_
  refine v_aload_n hC dL_law_811 rfl rfl ?_
  refine v_iload_n hC dL_law_812 rfl rfl ?_
  refine v_iconst (v := 1) hC dL_law_813 (by decide) ?_
  refine v_iadd hC dL_law_814 ?_
  rw [show nI (4 * K) + 1 = nI (4 * K + 1) from nI_add _ 1]
  refine v_sld hC hX hb (j := 4 * K + 1) (ix_e rfl (by omega) (by omega)) dL_law_815 ?_
  refine v_aload_n hC dL_law_816 rfl rfl ?_
  refine v_iload_n hC dL_law_817 rfl rfl ?_
  refine v_iconst (v := 2) hC dL_law_818 (by decide) ?_
  refine v_iadd hC dL_law_819 ?_
  rw [show nI (4 * K) + 2 = nI (4 * K + 2) from nI_add _ 2]
  refine v_sld hC hX hb (j := 4 * K + 2) (ix_e rfl (by omega) (by omega)) dL_law_820 ?_
  refine v_aload_n hC dL_law_821 rfl rfl ?_
  refine v_iload_n hC dL_law_822 rfl rfl ?_
  refine v_iconst (v := 3) hC dL_law_823 (by decide) ?_
  refine v_iadd hC dL_law_824 ?_
  rw [show nI (4 * K) + 3 = nI (4 * K + 3) from nI_add _ 3]
  refine v_sld hC hX hb (j := 4 * K + 3) (ix_e rfl (by omega) (by omega)) dL_law_825 ?_
  have ht2 := hX2.1
  have hL := hX2.2.1.1
  have hP := hX2.2.1.2
  refine cVi3 hC (c_X11_charAt hW2 ht2 hL) yv_X11_charAt rfl hX2.1 mw_5_213 ⟨Nat.le_of_ble_eq_true rfl, Nat.le_of_ble_eq_true rfl⟩ ⟨rm_c (by omega), rm_s (by omega)⟩ (Nat.le_of_ble_eq_true rfl) dL_law_826 (fun r826 M829 hq => ?_)
  obtain ⟨rfl, hbd⟩ := hq
  have hX3 := hX2.bd hbd
  have hA3 := hA2.bd hbd
  have hW3 := hW2.bd hbd
  have hOn := On.bd hbd
  refine v_pop hC dL_law_829 rfl ?_
  refine v_goto hC dL_law_830 (tgt := 1100) (by decide) ?_
  refine v_wide (k := 600 + 36 * (K + 1)) (n := 14296 + 852 * (K + 1)) (by omega) (by omega) ?_
  exact cont _ _ _ _ (J.act hB2 hT2 hCf hX3 hOn hW3 hA3 (hF.up (by omega)))
set_option maxHeartbeats 4000000 in
theorem lw_c23 {p : Program} {l : Launch} {e : Env} {s : State} {m : MethodId} {below : List Frame} {meth : Method} {c : Code} {G : Gd} {M : Me} {nm : String} {b h1 n1 h2 N K t : Nat} {xs : Nat → Int32} {x : Xs} {tc : Nat → Int32} (hC : Cx p m c s #[.ref b] meth cL_law 4 "MatchBureauLaw" nm ret G) (hlo : g_lo G = s.heap.size) (hX : va_X b N xs s (g_H G)) (hb : b < g_lo G) (hN : N ≤ 2048) (hi : 4 * K + 4 ≤ N) (J : IV K x t tc M h1 n1 h2) (cont : ∀ (x2 : Xs) (t2 : Nat) (tc2 : Nat → Int32) (M2 : Me), IV (K + 1) x2 t2 tc2 M2 h1 n1 h2 → V p l e room_1 s m #[.ref b] below meth c 4 G (lw_Z below #[.ref b] s) M2 (600 + 36 * (K + 1)) (14296 + 852 * (K + 1)) 1100 [some (.ref b), some (.ref h1), some (.ref h2), some (.int (nI (4 * K)))] []) : V p l e room_1 s m #[.ref b] below meth c 4 G (lw_Z below #[.ref b] s) M (600 + 36 * K) (14296 + 852 * K) 833 [some (.ref b), some (.ref h1), some (.ref h2), some (.int (nI (4 * K)))] [] := by
  have J0 := J
  obtain ⟨hW, hB, hT, hX0, hA, hR, hF⟩ := J0
  have hK : K < 512 := by omega
  have w := hF.1
  have hcap := hX0.2.1.1.1
  have hz := w.z
  have hO := w.o.1
  have hI := w.o.2
  have hD6 := w.d
  have hQ := w.q
  have hE := w.e
  have hBb := w.b.1
  have hY := w.b.2.1
  have hS := w.f.s
  have hAa := w.f.a
  have hV := w.f.v
  have hKk := w.f.k
  have hTt := w.t
  have hJj := w.jj (by omega)
  have hzh : ∀ j, j < x_n x → hzU (x_h x j) := fun j hj => (hF.2.1 j hj).z
  have hzs : x_f x = 1 → hzU (x_s x) := fun q => (hF.2.2 q).z
  refine v_aload_n hC dL_law_833 rfl rfl ?_
  refine v_aload_n hC dL_law_834 rfl rfl ?_
  refine v_iload_n hC dL_law_835 rfl rfl ?_
  refine v_iconst (v := 1) hC dL_law_836 (by decide) ?_
  refine v_iadd hC dL_law_837 ?_
  rw [show nI (4 * K) + 1 = nI (4 * K + 1) from nI_add _ 1]
  refine v_sld hC hX hb (j := 4 * K + 1) (ix_e rfl (by omega) (by omega)) dL_law_838 ?_
  refine v_aload_n hC dL_law_839 rfl rfl ?_
  refine v_iload_n hC dL_law_840 rfl rfl ?_
  refine v_iconst (v := 2) hC dL_law_841 (by decide) ?_
  refine v_iadd hC dL_law_842 ?_
  rw [show nI (4 * K) + 2 = nI (4 * K + 2) from nI_add _ 2]
  refine v_sld hC hX hb (j := 4 * K + 2) (ix_e rfl (by omega) (by omega)) dL_law_843 ?_
  refine v_aload_n hC dL_law_844 rfl rfl ?_
  refine v_iload_n hC dL_law_845 rfl rfl ?_
  refine v_iconst (v := 3) hC dL_law_846 (by decide) ?_
  refine v_iadd hC dL_law_847 ?_
  rw [show nI (4 * K) + 3 = nI (4 * K + 3) from nI_add _ 3]
  refine v_sld hC hX hb (j := 4 * K + 3) (ix_e rfl (by omega) (by omega)) dL_law_848 ?_
  refine cVi3 hC (c_X10_distance hW hB) yv_X10_distance rfl hB.1.1.1 mw_4_25 ⟨Nat.le_of_ble_eq_true rfl, Nat.le_of_ble_eq_true rfl⟩ ⟨rm_c (by omega), rm_s (by omega)⟩ (Nat.le_of_ble_eq_true rfl) dL_law_849 (fun r849 M852 hq => ?_)
  obtain ⟨rfl, hbx⟩ := hq
  have hB2 := hB.bx hbx
  have hT2 := hT.bx hbx
  have hW2 := hW.bx hbx
  have hCf : Cf M M852 h1 n1 := Bx.cf hbx
  have hX2 := hX0.cf hR hCf
  have hA2 := hA.cf hR hCf
  refine v_pop hC dL_law_852 rfl ?_
  refine v_aload_n hC dL_law_853 rfl rfl ?_
  refine v_aload_n hC dL_law_854 rfl rfl ?_
  refine v_iload_n hC dL_law_855 rfl rfl ?_
  refine v_iconst (v := 1) hC dL_law_856 (by decide) ?_
  refine v_iadd hC dL_law_857 ?_
  rw [show nI (4 * K) + 1 = nI (4 * K + 1) from nI_add _ 1]
  refine v_sld hC hX hb (j := 4 * K + 1) (ix_e rfl (by omega) (by omega)) dL_law_858 ?_
  refine v_aload_n hC dL_law_859 rfl rfl ?_
  refine v_iload_n hC dL_law_860 rfl rfl ?_
  refine v_iconst (v := 2) hC dL_law_861 (by decide) ?_
  refine v_iadd hC dL_law_862 ?_
  rw [show nI (4 * K) + 2 = nI (4 * K + 2) from nI_add _ 2]
  refine v_sld hC hX hb (j := 4 * K + 2) (ix_e rfl (by omega) (by omega)) dL_law_863 ?_
  refine v_aload_n hC dL_law_864 rfl rfl ?_
  refine v_iload_n hC dL_law_865 rfl rfl ?_
  refine v_iconst (v := 3) hC dL_law_866 (by decide) ?_
  refine v_iadd hC dL_law_867 ?_
  rw [show nI (4 * K) + 3 = nI (4 * K + 3) from nI_add _ 3]
  refine v_sld hC hX hb (j := 4 * K + 3) (ix_e rfl (by omega) (by omega)) dL_law_868 ?_
  have ht2 := hX2.1
  have hL := hX2.2.1.1
  have hP := hX2.2.1.2
  refine cVi3 hC (c_X11_distance hW2 ht2 hL) yv_X11_distance rfl hX2.1 mw_5_223 ⟨Nat.le_of_ble_eq_true rfl, Nat.le_of_ble_eq_true rfl⟩ ⟨rm_c (by omega), rm_s (by omega)⟩ (Nat.le_of_ble_eq_true rfl) dL_law_869 (fun r869 M872 hq => ?_)
  obtain ⟨rfl, hbd⟩ := hq
  have hX3 := hX2.bd hbd
  have hA3 := hA2.bd hbd
  have hW3 := hW2.bd hbd
  have hOn := On.bd hbd
  refine v_pop hC dL_law_872 rfl ?_
  refine v_goto hC dL_law_873 (tgt := 1100) (by decide) ?_
  refine v_wide (k := 600 + 36 * (K + 1)) (n := 14296 + 852 * (K + 1)) (by omega) (by omega) ?_
  exact cont _ _ _ _ (J.act hB2 hT2 hCf hX3 hOn hW3 hA3 (hF.up (by omega)))
set_option maxHeartbeats 4000000 in
theorem lw_c24 {p : Program} {l : Launch} {e : Env} {s : State} {m : MethodId} {below : List Frame} {meth : Method} {c : Code} {G : Gd} {M : Me} {nm : String} {b h1 n1 h2 N K t : Nat} {xs : Nat → Int32} {x : Xs} {tc : Nat → Int32} (hC : Cx p m c s #[.ref b] meth cL_law 4 "MatchBureauLaw" nm ret G) (hlo : g_lo G = s.heap.size) (hX : va_X b N xs s (g_H G)) (hb : b < g_lo G) (hN : N ≤ 2048) (hi : 4 * K + 4 ≤ N) (J : IV K x t tc M h1 n1 h2) (cont : ∀ (x2 : Xs) (t2 : Nat) (tc2 : Nat → Int32) (M2 : Me), IV (K + 1) x2 t2 tc2 M2 h1 n1 h2 → V p l e room_1 s m #[.ref b] below meth c 4 G (lw_Z below #[.ref b] s) M2 (600 + 36 * (K + 1)) (14296 + 852 * (K + 1)) 1100 [some (.ref b), some (.ref h1), some (.ref h2), some (.int (nI (4 * K)))] []) : V p l e room_1 s m #[.ref b] below meth c 4 G (lw_Z below #[.ref b] s) M (600 + 36 * K) (14296 + 852 * K) 876 [some (.ref b), some (.ref h1), some (.ref h2), some (.int (nI (4 * K)))] [] := by
  have J0 := J
  obtain ⟨hW, hB, hT, hX0, hA, hR, hF⟩ := J0
  have hK : K < 512 := by omega
  have w := hF.1
  have hcap := hX0.2.1.1.1
  have hz := w.z
  have hO := w.o.1
  have hI := w.o.2
  have hD6 := w.d
  have hQ := w.q
  have hE := w.e
  have hBb := w.b.1
  have hY := w.b.2.1
  have hS := w.f.s
  have hAa := w.f.a
  have hV := w.f.v
  have hKk := w.f.k
  have hTt := w.t
  have hJj := w.jj (by omega)
  have hzh : ∀ j, j < x_n x → hzU (x_h x j) := fun j hj => (hF.2.1 j hj).z
  have hzs : x_f x = 1 → hzU (x_s x) := fun q => (hF.2.2 q).z
  refine v_aload_n hC dL_law_876 rfl rfl ?_
  refine v_aload_n hC dL_law_877 rfl rfl ?_
  refine v_iload_n hC dL_law_878 rfl rfl ?_
  refine v_iconst (v := 1) hC dL_law_879 (by decide) ?_
  refine v_iadd hC dL_law_880 ?_
  rw [show nI (4 * K) + 1 = nI (4 * K + 1) from nI_add _ 1]
  refine v_sld hC hX hb (j := 4 * K + 1) (ix_e rfl (by omega) (by omega)) dL_law_881 ?_
  refine v_aload_n hC dL_law_882 rfl rfl ?_
  refine v_iload_n hC dL_law_883 rfl rfl ?_
  refine v_iconst (v := 2) hC dL_law_884 (by decide) ?_
  refine v_iadd hC dL_law_885 ?_
  rw [show nI (4 * K) + 2 = nI (4 * K + 2) from nI_add _ 2]
  refine v_sld hC hX hb (j := 4 * K + 2) (ix_e rfl (by omega) (by omega)) dL_law_886 ?_
  refine cVi2 hC (c_X10_wordsIn hW hB hO) yv_X10_wordsIn rfl hB.1.1.1 mw_4_35 ⟨Nat.le_of_ble_eq_true rfl, Nat.le_of_ble_eq_true rfl⟩ ⟨rm_c (by omega), rm_s (by omega)⟩ (Nat.le_of_ble_eq_true rfl) dL_law_887 (fun r887 M890 hq => ?_)
  obtain ⟨rfl, hbx⟩ := hq
  have hB2 := hB.bx hbx
  have hT2 := hT.bx hbx
  have hW2 := hW.bx hbx
  have hCf : Cf M M890 h1 n1 := Bx.cf hbx
  have hX2 := hX0.cf hR hCf
  have hA2 := hA.cf hR hCf
  refine v_pop hC dL_law_890 rfl ?_
  refine v_aload_n hC dL_law_891 rfl rfl ?_
  refine v_aload_n hC dL_law_892 rfl rfl ?_
  refine v_iload_n hC dL_law_893 rfl rfl ?_
  refine v_iconst (v := 1) hC dL_law_894 (by decide) ?_
  refine v_iadd hC dL_law_895 ?_
  rw [show nI (4 * K) + 1 = nI (4 * K + 1) from nI_add _ 1]
  refine v_sld hC hX hb (j := 4 * K + 1) (ix_e rfl (by omega) (by omega)) dL_law_896 ?_
  refine v_aload_n hC dL_law_897 rfl rfl ?_
  refine v_iload_n hC dL_law_898 rfl rfl ?_
  refine v_iconst (v := 2) hC dL_law_899 (by decide) ?_
  refine v_iadd hC dL_law_900 ?_
  rw [show nI (4 * K) + 2 = nI (4 * K + 2) from nI_add _ 2]
  refine v_sld hC hX hb (j := 4 * K + 2) (ix_e rfl (by omega) (by omega)) dL_law_901 ?_
  have ht2 := hX2.1
  have hL := hX2.2.1.1
  have hP := hX2.2.1.2
  refine cVi2 hC (c_X11_wordsIn hW2 ht2 hL hO hS) yv_X11_wordsIn rfl hX2.1 mw_5_231 ⟨Nat.le_of_ble_eq_true rfl, Nat.le_of_ble_eq_true rfl⟩ ⟨rm_c (by omega), rm_s (by omega)⟩ (Nat.le_of_ble_eq_true rfl) dL_law_902 (fun r902 M905 hq => ?_)
  obtain ⟨rfl, hbd⟩ := hq
  have hX3 := hX2.bd hbd
  have hA3 := hA2.bd hbd
  have hW3 := hW2.bd hbd
  have hOn := On.bd hbd
  refine v_pop hC dL_law_905 rfl ?_
  refine v_goto hC dL_law_906 (tgt := 1100) (by decide) ?_
  refine v_wide (k := 600 + 36 * (K + 1)) (n := 14296 + 852 * (K + 1)) (by omega) (by omega) ?_
  exact cont _ _ _ _ (J.act hB2 hT2 hCf hX3 hOn hW3 hA3 (hF.up (by omega)))
set_option maxHeartbeats 4000000 in
theorem lw_c25 {p : Program} {l : Launch} {e : Env} {s : State} {m : MethodId} {below : List Frame} {meth : Method} {c : Code} {G : Gd} {M : Me} {nm : String} {b h1 n1 h2 N K t : Nat} {xs : Nat → Int32} {x : Xs} {tc : Nat → Int32} (hC : Cx p m c s #[.ref b] meth cL_law 4 "MatchBureauLaw" nm ret G) (hlo : g_lo G = s.heap.size) (hX : va_X b N xs s (g_H G)) (hb : b < g_lo G) (hN : N ≤ 2048) (hi : 4 * K + 4 ≤ N) (J : IV K x t tc M h1 n1 h2) (cont : ∀ (x2 : Xs) (t2 : Nat) (tc2 : Nat → Int32) (M2 : Me), IV (K + 1) x2 t2 tc2 M2 h1 n1 h2 → V p l e room_1 s m #[.ref b] below meth c 4 G (lw_Z below #[.ref b] s) M2 (600 + 36 * (K + 1)) (14296 + 852 * (K + 1)) 1100 [some (.ref b), some (.ref h1), some (.ref h2), some (.int (nI (4 * K)))] []) : V p l e room_1 s m #[.ref b] below meth c 4 G (lw_Z below #[.ref b] s) M (600 + 36 * K) (14296 + 852 * K) 909 [some (.ref b), some (.ref h1), some (.ref h2), some (.int (nI (4 * K)))] [] := by
  have J0 := J
  obtain ⟨hW, hB, hT, hX0, hA, hR, hF⟩ := J0
  have hK : K < 512 := by omega
  have w := hF.1
  have hcap := hX0.2.1.1.1
  have hz := w.z
  have hO := w.o.1
  have hI := w.o.2
  have hD6 := w.d
  have hQ := w.q
  have hE := w.e
  have hBb := w.b.1
  have hY := w.b.2.1
  have hS := w.f.s
  have hAa := w.f.a
  have hV := w.f.v
  have hKk := w.f.k
  have hTt := w.t
  have hJj := w.jj (by omega)
  have hzh : ∀ j, j < x_n x → hzU (x_h x j) := fun j hj => (hF.2.1 j hj).z
  have hzs : x_f x = 1 → hzU (x_s x) := fun q => (hF.2.2 q).z
  refine v_aload_n hC dL_law_909 rfl rfl ?_
  refine v_aload_n hC dL_law_910 rfl rfl ?_
  refine v_iload_n hC dL_law_911 rfl rfl ?_
  refine v_iconst (v := 1) hC dL_law_912 (by decide) ?_
  refine v_iadd hC dL_law_913 ?_
  rw [show nI (4 * K) + 1 = nI (4 * K + 1) from nI_add _ 1]
  refine v_sld hC hX hb (j := 4 * K + 1) (ix_e rfl (by omega) (by omega)) dL_law_914 ?_
  refine cVi1 hC (c_X10_allWords hW hB hO) yv_X10_allWords rfl hB.1.1.1 mw_4_40 ⟨Nat.le_of_ble_eq_true rfl, Nat.le_of_ble_eq_true rfl⟩ ⟨rm_c (by omega), rm_s (by omega)⟩ (Nat.le_of_ble_eq_true rfl) dL_law_915 (fun r915 M918 hq => ?_)
  obtain ⟨rfl, hbx⟩ := hq
  have hB2 := hB.bx hbx
  have hT2 := hT.bx hbx
  have hW2 := hW.bx hbx
  have hCf : Cf M M918 h1 n1 := Bx.cf hbx
  have hX2 := hX0.cf hR hCf
  have hA2 := hA.cf hR hCf
  refine v_pop hC dL_law_918 rfl ?_
  refine v_aload_n hC dL_law_919 rfl rfl ?_
  refine v_aload_n hC dL_law_920 rfl rfl ?_
  refine v_iload_n hC dL_law_921 rfl rfl ?_
  refine v_iconst (v := 1) hC dL_law_922 (by decide) ?_
  refine v_iadd hC dL_law_923 ?_
  rw [show nI (4 * K) + 1 = nI (4 * K + 1) from nI_add _ 1]
  refine v_sld hC hX hb (j := 4 * K + 1) (ix_e rfl (by omega) (by omega)) dL_law_924 ?_
  have ht2 := hX2.1
  have hL := hX2.2.1.1
  have hP := hX2.2.1.2
  refine cVi1 hC (c_X11_allWords hW2 ht2 hL hO hS) yv_X11_allWords rfl hX2.1 mw_5_235 ⟨Nat.le_of_ble_eq_true rfl, Nat.le_of_ble_eq_true rfl⟩ ⟨rm_c (by omega), rm_s (by omega)⟩ (Nat.le_of_ble_eq_true rfl) dL_law_925 (fun r925 M928 hq => ?_)
  obtain ⟨rfl, hbd⟩ := hq
  have hX3 := hX2.bd hbd
  have hA3 := hA2.bd hbd
  have hW3 := hW2.bd hbd
  have hOn := On.bd hbd
  refine v_pop hC dL_law_928 rfl ?_
  refine v_goto hC dL_law_929 (tgt := 1100) (by decide) ?_
  refine v_wide (k := 600 + 36 * (K + 1)) (n := 14296 + 852 * (K + 1)) (by omega) (by omega) ?_
  exact cont _ _ _ _ (J.act hB2 hT2 hCf hX3 hOn hW3 hA3 (hF.up (by omega)))
set_option maxHeartbeats 4000000 in
theorem lw_c26 {p : Program} {l : Launch} {e : Env} {s : State} {m : MethodId} {below : List Frame} {meth : Method} {c : Code} {G : Gd} {M : Me} {nm : String} {b h1 n1 h2 N K t : Nat} {xs : Nat → Int32} {x : Xs} {tc : Nat → Int32} (hC : Cx p m c s #[.ref b] meth cL_law 4 "MatchBureauLaw" nm ret G) (hlo : g_lo G = s.heap.size) (hX : va_X b N xs s (g_H G)) (hb : b < g_lo G) (hN : N ≤ 2048) (hi : 4 * K + 4 ≤ N) (J : IV K x t tc M h1 n1 h2) (cont : ∀ (x2 : Xs) (t2 : Nat) (tc2 : Nat → Int32) (M2 : Me), IV (K + 1) x2 t2 tc2 M2 h1 n1 h2 → V p l e room_1 s m #[.ref b] below meth c 4 G (lw_Z below #[.ref b] s) M2 (600 + 36 * (K + 1)) (14296 + 852 * (K + 1)) 1100 [some (.ref b), some (.ref h1), some (.ref h2), some (.int (nI (4 * K)))] []) : V p l e room_1 s m #[.ref b] below meth c 4 G (lw_Z below #[.ref b] s) M (600 + 36 * K) (14296 + 852 * K) 932 [some (.ref b), some (.ref h1), some (.ref h2), some (.int (nI (4 * K)))] [] := by
  have J0 := J
  obtain ⟨hW, hB, hT, hX0, hA, hR, hF⟩ := J0
  have hK : K < 512 := by omega
  have w := hF.1
  have hcap := hX0.2.1.1.1
  have hz := w.z
  have hO := w.o.1
  have hI := w.o.2
  have hD6 := w.d
  have hQ := w.q
  have hE := w.e
  have hBb := w.b.1
  have hY := w.b.2.1
  have hS := w.f.s
  have hAa := w.f.a
  have hV := w.f.v
  have hKk := w.f.k
  have hTt := w.t
  have hJj := w.jj (by omega)
  have hzh : ∀ j, j < x_n x → hzU (x_h x j) := fun j hj => (hF.2.1 j hj).z
  have hzs : x_f x = 1 → hzU (x_s x) := fun q => (hF.2.2 q).z
  refine v_aload_n hC dL_law_932 rfl rfl ?_
  refine v_aload_n hC dL_law_933 rfl rfl ?_
  refine v_iload_n hC dL_law_934 rfl rfl ?_
  refine v_iconst (v := 1) hC dL_law_935 (by decide) ?_
  refine v_iadd hC dL_law_936 ?_
  rw [show nI (4 * K) + 1 = nI (4 * K + 1) from nI_add _ 1]
  refine v_sld hC hX hb (j := 4 * K + 1) (ix_e rfl (by omega) (by omega)) dL_law_937 ?_
  refine v_aload_n hC dL_law_938 rfl rfl ?_
  refine v_iload_n hC dL_law_939 rfl rfl ?_
  refine v_iconst (v := 2) hC dL_law_940 (by decide) ?_
  refine v_iadd hC dL_law_941 ?_
  rw [show nI (4 * K) + 2 = nI (4 * K + 2) from nI_add _ 2]
  refine v_sld hC hX hb (j := 4 * K + 2) (ix_e rfl (by omega) (by omega)) dL_law_942 ?_
  refine cVi2 hC (c_X10_price hW hB hO) yv_X10_price rfl hB.1.1.1 mw_4_44 ⟨Nat.le_of_ble_eq_true rfl, Nat.le_of_ble_eq_true rfl⟩ ⟨rm_c (by omega), rm_s (by omega)⟩ (Nat.le_of_ble_eq_true rfl) dL_law_943 (fun r943 M946 hq => ?_)
  obtain ⟨rfl, hbx⟩ := hq
  have hB2 := hB.bx hbx
  have hT2 := hT.bx hbx
  have hW2 := hW.bx hbx
  have hCf : Cf M M946 h1 n1 := Bx.cf hbx
  have hX2 := hX0.cf hR hCf
  have hA2 := hA.cf hR hCf
  refine v_pop hC dL_law_946 rfl ?_
  refine v_aload_n hC dL_law_947 rfl rfl ?_
  refine v_aload_n hC dL_law_948 rfl rfl ?_
  refine v_iload_n hC dL_law_949 rfl rfl ?_
  refine v_iconst (v := 1) hC dL_law_950 (by decide) ?_
  refine v_iadd hC dL_law_951 ?_
  rw [show nI (4 * K) + 1 = nI (4 * K + 1) from nI_add _ 1]
  refine v_sld hC hX hb (j := 4 * K + 1) (ix_e rfl (by omega) (by omega)) dL_law_952 ?_
  refine v_aload_n hC dL_law_953 rfl rfl ?_
  refine v_iload_n hC dL_law_954 rfl rfl ?_
  refine v_iconst (v := 2) hC dL_law_955 (by decide) ?_
  refine v_iadd hC dL_law_956 ?_
  rw [show nI (4 * K) + 2 = nI (4 * K + 2) from nI_add _ 2]
  refine v_sld hC hX hb (j := 4 * K + 2) (ix_e rfl (by omega) (by omega)) dL_law_957 ?_
  have ht2 := hX2.1
  have hL := hX2.2.1.1
  have hP := hX2.2.1.2
  refine cVi2 hC (c_X11_price hW2 ht2 hL hO hS) yv_X11_price rfl hX2.1 mw_5_239 ⟨Nat.le_of_ble_eq_true rfl, Nat.le_of_ble_eq_true rfl⟩ ⟨rm_c (by omega), rm_s (by omega)⟩ (Nat.le_of_ble_eq_true rfl) dL_law_958 (fun r958 M961 hq => ?_)
  obtain ⟨rfl, hbd⟩ := hq
  have hX3 := hX2.bd hbd
  have hA3 := hA2.bd hbd
  have hW3 := hW2.bd hbd
  have hOn := On.bd hbd
  refine v_pop hC dL_law_961 rfl ?_
  refine v_goto hC dL_law_962 (tgt := 1100) (by decide) ?_
  refine v_wide (k := 600 + 36 * (K + 1)) (n := 14296 + 852 * (K + 1)) (by omega) (by omega) ?_
  exact cont _ _ _ _ (J.act hB2 hT2 hCf hX3 hOn hW3 hA3 (hF.up (by omega)))
set_option maxHeartbeats 4000000 in
theorem lw_c27 {p : Program} {l : Launch} {e : Env} {s : State} {m : MethodId} {below : List Frame} {meth : Method} {c : Code} {G : Gd} {M : Me} {nm : String} {b h1 n1 h2 N K t : Nat} {xs : Nat → Int32} {x : Xs} {tc : Nat → Int32} (hC : Cx p m c s #[.ref b] meth cL_law 4 "MatchBureauLaw" nm ret G) (hlo : g_lo G = s.heap.size) (hX : va_X b N xs s (g_H G)) (hb : b < g_lo G) (hN : N ≤ 2048) (hi : 4 * K + 4 ≤ N) (J : IV K x t tc M h1 n1 h2) (cont : ∀ (x2 : Xs) (t2 : Nat) (tc2 : Nat → Int32) (M2 : Me), IV (K + 1) x2 t2 tc2 M2 h1 n1 h2 → V p l e room_1 s m #[.ref b] below meth c 4 G (lw_Z below #[.ref b] s) M2 (600 + 36 * (K + 1)) (14296 + 852 * (K + 1)) 1100 [some (.ref b), some (.ref h1), some (.ref h2), some (.int (nI (4 * K)))] []) : V p l e room_1 s m #[.ref b] below meth c 4 G (lw_Z below #[.ref b] s) M (600 + 36 * K) (14296 + 852 * K) 965 [some (.ref b), some (.ref h1), some (.ref h2), some (.int (nI (4 * K)))] [] := by
  have J0 := J
  obtain ⟨hW, hB, hT, hX0, hA, hR, hF⟩ := J0
  have hK : K < 512 := by omega
  have w := hF.1
  have hcap := hX0.2.1.1.1
  have hz := w.z
  have hO := w.o.1
  have hI := w.o.2
  have hD6 := w.d
  have hQ := w.q
  have hE := w.e
  have hBb := w.b.1
  have hY := w.b.2.1
  have hS := w.f.s
  have hAa := w.f.a
  have hV := w.f.v
  have hKk := w.f.k
  have hTt := w.t
  have hJj := w.jj (by omega)
  have hzh : ∀ j, j < x_n x → hzU (x_h x j) := fun j hj => (hF.2.1 j hj).z
  have hzs : x_f x = 1 → hzU (x_s x) := fun q => (hF.2.2 q).z
  refine v_aload_n hC dL_law_965 rfl rfl ?_
  refine v_aload_n hC dL_law_966 rfl rfl ?_
  refine v_iload_n hC dL_law_967 rfl rfl ?_
  refine v_iconst (v := 1) hC dL_law_968 (by decide) ?_
  refine v_iadd hC dL_law_969 ?_
  rw [show nI (4 * K) + 1 = nI (4 * K + 1) from nI_add _ 1]
  refine v_sld hC hX hb (j := 4 * K + 1) (ix_e rfl (by omega) (by omega)) dL_law_970 ?_
  refine cVi1 hC (c_X10_firstReviewer hW hB) yv_X10_firstReviewer rfl hB.1.1.1 mw_4_48 ⟨Nat.le_of_ble_eq_true rfl, Nat.le_of_ble_eq_true rfl⟩ ⟨rm_c (by omega), rm_s (by omega)⟩ (Nat.le_of_ble_eq_true rfl) dL_law_971 (fun r971 M974 hq => ?_)
  obtain ⟨rfl, hbx⟩ := hq
  have hB2 := hB.bx hbx
  have hT2 := hT.bx hbx
  have hW2 := hW.bx hbx
  have hCf : Cf M M974 h1 n1 := Bx.cf hbx
  have hX2 := hX0.cf hR hCf
  have hA2 := hA.cf hR hCf
  refine v_pop hC dL_law_974 rfl ?_
  refine v_aload_n hC dL_law_975 rfl rfl ?_
  refine v_aload_n hC dL_law_976 rfl rfl ?_
  refine v_iload_n hC dL_law_977 rfl rfl ?_
  refine v_iconst (v := 1) hC dL_law_978 (by decide) ?_
  refine v_iadd hC dL_law_979 ?_
  rw [show nI (4 * K) + 1 = nI (4 * K + 1) from nI_add _ 1]
  refine v_sld hC hX hb (j := 4 * K + 1) (ix_e rfl (by omega) (by omega)) dL_law_980 ?_
  have ht2 := hX2.1
  have hL := hX2.2.1.1
  have hP := hX2.2.1.2
  refine cVi1 hC (c_X11_firstReviewer hW2 ht2 hL hBb hAa) yv_X11_firstReviewer rfl hX2.1 mw_6_3 ⟨Nat.le_of_ble_eq_true rfl, Nat.le_of_ble_eq_true rfl⟩ ⟨rm_c (by omega), rm_s (by omega)⟩ (Nat.le_of_ble_eq_true rfl) dL_law_981 (fun r981 M984 hq => ?_)
  obtain ⟨rfl, hbd⟩ := hq
  have hX3 := hX2.bd hbd
  have hA3 := hA2.bd hbd
  have hW3 := hW2.bd hbd
  have hOn := On.bd hbd
  refine v_pop hC dL_law_984 rfl ?_
  refine v_goto hC dL_law_985 (tgt := 1100) (by decide) ?_
  refine v_wide (k := 600 + 36 * (K + 1)) (n := 14296 + 852 * (K + 1)) (by omega) (by omega) ?_
  exact cont _ _ _ _ (J.act hB2 hT2 hCf hX3 hOn hW3 hA3 (hF.up (by omega)))
set_option maxHeartbeats 4000000 in
theorem lw_c28 {p : Program} {l : Launch} {e : Env} {s : State} {m : MethodId} {below : List Frame} {meth : Method} {c : Code} {G : Gd} {M : Me} {nm : String} {b h1 n1 h2 N K t : Nat} {xs : Nat → Int32} {x : Xs} {tc : Nat → Int32} (hC : Cx p m c s #[.ref b] meth cL_law 4 "MatchBureauLaw" nm ret G) (hlo : g_lo G = s.heap.size) (hX : va_X b N xs s (g_H G)) (hb : b < g_lo G) (hN : N ≤ 2048) (hi : 4 * K + 4 ≤ N) (J : IV K x t tc M h1 n1 h2) (cont : ∀ (x2 : Xs) (t2 : Nat) (tc2 : Nat → Int32) (M2 : Me), IV (K + 1) x2 t2 tc2 M2 h1 n1 h2 → V p l e room_1 s m #[.ref b] below meth c 4 G (lw_Z below #[.ref b] s) M2 (600 + 36 * (K + 1)) (14296 + 852 * (K + 1)) 1100 [some (.ref b), some (.ref h1), some (.ref h2), some (.int (nI (4 * K)))] []) : V p l e room_1 s m #[.ref b] below meth c 4 G (lw_Z below #[.ref b] s) M (600 + 36 * K) (14296 + 852 * K) 988 [some (.ref b), some (.ref h1), some (.ref h2), some (.int (nI (4 * K)))] [] := by
  have J0 := J
  obtain ⟨hW, hB, hT, hX0, hA, hR, hF⟩ := J0
  have hK : K < 512 := by omega
  have w := hF.1
  have hcap := hX0.2.1.1.1
  have hz := w.z
  have hO := w.o.1
  have hI := w.o.2
  have hD6 := w.d
  have hQ := w.q
  have hE := w.e
  have hBb := w.b.1
  have hY := w.b.2.1
  have hS := w.f.s
  have hAa := w.f.a
  have hV := w.f.v
  have hKk := w.f.k
  have hTt := w.t
  have hJj := w.jj (by omega)
  have hzh : ∀ j, j < x_n x → hzU (x_h x j) := fun j hj => (hF.2.1 j hj).z
  have hzs : x_f x = 1 → hzU (x_s x) := fun q => (hF.2.2 q).z
  refine v_aload_n hC dL_law_988 rfl rfl ?_
  refine v_aload_n hC dL_law_989 rfl rfl ?_
  refine v_iload_n hC dL_law_990 rfl rfl ?_
  refine v_iconst (v := 1) hC dL_law_991 (by decide) ?_
  refine v_iadd hC dL_law_992 ?_
  rw [show nI (4 * K) + 1 = nI (4 * K + 1) from nI_add _ 1]
  refine v_sld hC hX hb (j := 4 * K + 1) (ix_e rfl (by omega) (by omega)) dL_law_993 ?_
  refine v_aload_n hC dL_law_994 rfl rfl ?_
  refine v_iload_n hC dL_law_995 rfl rfl ?_
  refine v_iconst (v := 2) hC dL_law_996 (by decide) ?_
  refine v_iadd hC dL_law_997 ?_
  rw [show nI (4 * K) + 2 = nI (4 * K + 2) from nI_add _ 2]
  refine v_sld hC hX hb (j := 4 * K + 2) (ix_e rfl (by omega) (by omega)) dL_law_998 ?_
  refine cVi2 hC (c_X10_entry hW hB) yv_X10_entry rfl hB.1.1.1 mw_4_52 ⟨Nat.le_of_ble_eq_true rfl, Nat.le_of_ble_eq_true rfl⟩ ⟨rm_c (by omega), rm_s (by omega)⟩ (Nat.le_of_ble_eq_true rfl) dL_law_999 (fun r999 M1002 hq => ?_)
  obtain ⟨rfl, hbx⟩ := hq
  have hB2 := hB.bx hbx
  have hT2 := hT.bx hbx
  have hW2 := hW.bx hbx
  have hCf : Cf M M1002 h1 n1 := Bx.cf hbx
  have hX2 := hX0.cf hR hCf
  have hA2 := hA.cf hR hCf
  refine v_pop hC dL_law_1002 rfl ?_
  refine v_aload_n hC dL_law_1003 rfl rfl ?_
  refine v_aload_n hC dL_law_1004 rfl rfl ?_
  refine v_iload_n hC dL_law_1005 rfl rfl ?_
  refine v_iconst (v := 1) hC dL_law_1006 (by decide) ?_
  refine v_iadd hC dL_law_1007 ?_
  rw [show nI (4 * K) + 1 = nI (4 * K + 1) from nI_add _ 1]
  refine v_sld hC hX hb (j := 4 * K + 1) (ix_e rfl (by omega) (by omega)) dL_law_1008 ?_
  refine v_aload_n hC dL_law_1009 rfl rfl ?_
  refine v_iload_n hC dL_law_1010 rfl rfl ?_
  refine v_iconst (v := 2) hC dL_law_1011 (by decide) ?_
  refine v_iadd hC dL_law_1012 ?_
  rw [show nI (4 * K) + 2 = nI (4 * K + 2) from nI_add _ 2]
  refine v_sld hC hX hb (j := 4 * K + 2) (ix_e rfl (by omega) (by omega)) dL_law_1013 ?_
  have ht2 := hX2.1
  have hL := hX2.2.1.1
  have hP := hX2.2.1.2
  refine cVi2 hC (c_X11_entry hW2 ht2 hL hS hz) yv_X11_entry rfl hX2.1 mw_6_7 ⟨Nat.le_of_ble_eq_true rfl, Nat.le_of_ble_eq_true rfl⟩ ⟨rm_c (by omega), rm_s (by omega)⟩ (Nat.le_of_ble_eq_true rfl) dL_law_1014 (fun r1014 M1017 hq => ?_)
  obtain ⟨rfl, hbd⟩ := hq
  have hX3 := hX2.bd hbd
  have hA3 := hA2.bd hbd
  have hW3 := hW2.bd hbd
  have hOn := On.bd hbd
  refine v_pop hC dL_law_1017 rfl ?_
  refine v_goto hC dL_law_1018 (tgt := 1100) (by decide) ?_
  refine v_wide (k := 600 + 36 * (K + 1)) (n := 14296 + 852 * (K + 1)) (by omega) (by omega) ?_
  exact cont _ _ _ _ (J.act hB2 hT2 hCf hX3 hOn hW3 hA3 (hF.up (by omega)))
set_option maxHeartbeats 4000000 in
theorem lw_c29 {p : Program} {l : Launch} {e : Env} {s : State} {m : MethodId} {below : List Frame} {meth : Method} {c : Code} {G : Gd} {M : Me} {nm : String} {b h1 n1 h2 N K t : Nat} {xs : Nat → Int32} {x : Xs} {tc : Nat → Int32} (hC : Cx p m c s #[.ref b] meth cL_law 4 "MatchBureauLaw" nm ret G) (hlo : g_lo G = s.heap.size) (hX : va_X b N xs s (g_H G)) (hb : b < g_lo G) (hN : N ≤ 2048) (hi : 4 * K + 4 ≤ N) (J : IV K x t tc M h1 n1 h2) (cont : ∀ (x2 : Xs) (t2 : Nat) (tc2 : Nat → Int32) (M2 : Me), IV (K + 1) x2 t2 tc2 M2 h1 n1 h2 → V p l e room_1 s m #[.ref b] below meth c 4 G (lw_Z below #[.ref b] s) M2 (600 + 36 * (K + 1)) (14296 + 852 * (K + 1)) 1100 [some (.ref b), some (.ref h1), some (.ref h2), some (.int (nI (4 * K)))] []) : V p l e room_1 s m #[.ref b] below meth c 4 G (lw_Z below #[.ref b] s) M (600 + 36 * K) (14296 + 852 * K) 1021 [some (.ref b), some (.ref h1), some (.ref h2), some (.int (nI (4 * K)))] [] := by
  have J0 := J
  obtain ⟨hW, hB, hT, hX0, hA, hR, hF⟩ := J0
  have hK : K < 512 := by omega
  have w := hF.1
  have hcap := hX0.2.1.1.1
  have hz := w.z
  have hO := w.o.1
  have hI := w.o.2
  have hD6 := w.d
  have hQ := w.q
  have hE := w.e
  have hBb := w.b.1
  have hY := w.b.2.1
  have hS := w.f.s
  have hAa := w.f.a
  have hV := w.f.v
  have hKk := w.f.k
  have hTt := w.t
  have hJj := w.jj (by omega)
  have hzh : ∀ j, j < x_n x → hzU (x_h x j) := fun j hj => (hF.2.1 j hj).z
  have hzs : x_f x = 1 → hzU (x_s x) := fun q => (hF.2.2 q).z
  refine v_aload_n hC dL_law_1021 rfl rfl ?_
  refine v_aload_n hC dL_law_1022 rfl rfl ?_
  refine v_iload_n hC dL_law_1023 rfl rfl ?_
  refine v_iconst (v := 1) hC dL_law_1024 (by decide) ?_
  refine v_iadd hC dL_law_1025 ?_
  rw [show nI (4 * K) + 1 = nI (4 * K + 1) from nI_add _ 1]
  refine v_sld hC hX hb (j := 4 * K + 1) (ix_e rfl (by omega) (by omega)) dL_law_1026 ?_
  refine v_aload_n hC dL_law_1027 rfl rfl ?_
  refine v_iload_n hC dL_law_1028 rfl rfl ?_
  refine v_iconst (v := 2) hC dL_law_1029 (by decide) ?_
  refine v_iadd hC dL_law_1030 ?_
  rw [show nI (4 * K) + 2 = nI (4 * K + 2) from nI_add _ 2]
  refine v_sld hC hX hb (j := 4 * K + 2) (ix_e rfl (by omega) (by omega)) dL_law_1031 ?_
  refine cVi2 hC (c_X10_dispute hW hB) yv_X10_dispute rfl hB.1.1.1 mw_4_65 ⟨Nat.le_of_ble_eq_true rfl, Nat.le_of_ble_eq_true rfl⟩ ⟨rm_c (by omega), rm_s (by omega)⟩ (Nat.le_of_ble_eq_true rfl) dL_law_1032 (fun r1032 M1035 hq => ?_)
  obtain ⟨rfl, hbx⟩ := hq
  have hB2 := hB.bx hbx
  have hT2 := hT.bx hbx
  have hW2 := hW.bx hbx
  have hCf : Cf M M1035 h1 n1 := Bx.cf hbx
  have hX2 := hX0.cf hR hCf
  have hA2 := hA.cf hR hCf
  refine v_pop hC dL_law_1035 rfl ?_
  refine v_aload_n hC dL_law_1036 rfl rfl ?_
  refine v_aload_n hC dL_law_1037 rfl rfl ?_
  refine v_iload_n hC dL_law_1038 rfl rfl ?_
  refine v_iconst (v := 1) hC dL_law_1039 (by decide) ?_
  refine v_iadd hC dL_law_1040 ?_
  rw [show nI (4 * K) + 1 = nI (4 * K + 1) from nI_add _ 1]
  refine v_sld hC hX hb (j := 4 * K + 1) (ix_e rfl (by omega) (by omega)) dL_law_1041 ?_
  refine v_aload_n hC dL_law_1042 rfl rfl ?_
  refine v_iload_n hC dL_law_1043 rfl rfl ?_
  refine v_iconst (v := 2) hC dL_law_1044 (by decide) ?_
  refine v_iadd hC dL_law_1045 ?_
  rw [show nI (4 * K) + 2 = nI (4 * K + 2) from nI_add _ 2]
  refine v_sld hC hX hb (j := 4 * K + 2) (ix_e rfl (by omega) (by omega)) dL_law_1046 ?_
  have ht2 := hX2.1
  have hL := hX2.2.1.1
  have hP := hX2.2.1.2
  refine cVi2 hC (c_X11_dispute hW2 ht2 hL) yv_X11_dispute rfl hX2.1 mw_6_15 ⟨Nat.le_of_ble_eq_true rfl, Nat.le_of_ble_eq_true rfl⟩ ⟨rm_c (by omega), rm_s (by omega)⟩ (Nat.le_of_ble_eq_true rfl) dL_law_1047 (fun r1047 M1050 hq => ?_)
  obtain ⟨rfl, hbd⟩ := hq
  have hX3 := hX2.bd hbd
  have hA3 := hA2.bd hbd
  have hW3 := hW2.bd hbd
  have hOn := On.bd hbd
  refine v_pop hC dL_law_1050 rfl ?_
  refine v_goto hC dL_law_1051 (tgt := 1100) (by decide) ?_
  refine v_wide (k := 600 + 36 * (K + 1)) (n := 14296 + 852 * (K + 1)) (by omega) (by omega) ?_
  exact cont _ _ _ _ (J.act hB2 hT2 hCf hX3 hOn hW3 hA3 (hF.up (by omega)))
set_option maxHeartbeats 4000000 in
theorem lw_c30 {p : Program} {l : Launch} {e : Env} {s : State} {m : MethodId} {below : List Frame} {meth : Method} {c : Code} {G : Gd} {M : Me} {nm : String} {b h1 n1 h2 N K t : Nat} {xs : Nat → Int32} {x : Xs} {tc : Nat → Int32} (hC : Cx p m c s #[.ref b] meth cL_law 4 "MatchBureauLaw" nm ret G) (hlo : g_lo G = s.heap.size) (hX : va_X b N xs s (g_H G)) (hb : b < g_lo G) (hN : N ≤ 2048) (hi : 4 * K + 4 ≤ N) (J : IV K x t tc M h1 n1 h2) (cont : ∀ (x2 : Xs) (t2 : Nat) (tc2 : Nat → Int32) (M2 : Me), IV (K + 1) x2 t2 tc2 M2 h1 n1 h2 → V p l e room_1 s m #[.ref b] below meth c 4 G (lw_Z below #[.ref b] s) M2 (600 + 36 * (K + 1)) (14296 + 852 * (K + 1)) 1100 [some (.ref b), some (.ref h1), some (.ref h2), some (.int (nI (4 * K)))] []) : V p l e room_1 s m #[.ref b] below meth c 4 G (lw_Z below #[.ref b] s) M (600 + 36 * K) (14296 + 852 * K) 1054 [some (.ref b), some (.ref h1), some (.ref h2), some (.int (nI (4 * K)))] [] := by
  have J0 := J
  obtain ⟨hW, hB, hT, hX0, hA, hR, hF⟩ := J0
  have hK : K < 512 := by omega
  have w := hF.1
  have hcap := hX0.2.1.1.1
  have hz := w.z
  have hO := w.o.1
  have hI := w.o.2
  have hD6 := w.d
  have hQ := w.q
  have hE := w.e
  have hBb := w.b.1
  have hY := w.b.2.1
  have hS := w.f.s
  have hAa := w.f.a
  have hV := w.f.v
  have hKk := w.f.k
  have hTt := w.t
  have hJj := w.jj (by omega)
  have hzh : ∀ j, j < x_n x → hzU (x_h x j) := fun j hj => (hF.2.1 j hj).z
  have hzs : x_f x = 1 → hzU (x_s x) := fun q => (hF.2.2 q).z
  refine v_aload_n hC dL_law_1054 rfl rfl ?_
  refine v_aload_n hC dL_law_1055 rfl rfl ?_
  refine v_iload_n hC dL_law_1056 rfl rfl ?_
  refine v_iconst (v := 1) hC dL_law_1057 (by decide) ?_
  refine v_iadd hC dL_law_1058 ?_
  rw [show nI (4 * K) + 1 = nI (4 * K + 1) from nI_add _ 1]
  refine v_sld hC hX hb (j := 4 * K + 1) (ix_e rfl (by omega) (by omega)) dL_law_1059 ?_
  refine cVi1 hC (c_X10_fileAt hW hB) yv_X10_fileAt rfl hB.1.1.1 mw_4_69 ⟨Nat.le_of_ble_eq_true rfl, Nat.le_of_ble_eq_true rfl⟩ ⟨rm_c (by omega), rm_s (by omega)⟩ (Nat.le_of_ble_eq_true rfl) dL_law_1060 (fun r1060 M1063 hq => ?_)
  obtain ⟨rfl, hbx⟩ := hq
  have hB2 := hB.bx hbx
  have hT2 := hT.bx hbx
  have hW2 := hW.bx hbx
  have hCf : Cf M M1063 h1 n1 := Bx.cf hbx
  have hX2 := hX0.cf hR hCf
  have hA2 := hA.cf hR hCf
  refine v_pop hC dL_law_1063 rfl ?_
  refine v_aload_n hC dL_law_1064 rfl rfl ?_
  refine v_aload_n hC dL_law_1065 rfl rfl ?_
  refine v_iload_n hC dL_law_1066 rfl rfl ?_
  refine v_iconst (v := 1) hC dL_law_1067 (by decide) ?_
  refine v_iadd hC dL_law_1068 ?_
  rw [show nI (4 * K) + 1 = nI (4 * K + 1) from nI_add _ 1]
  refine v_sld hC hX hb (j := 4 * K + 1) (ix_e rfl (by omega) (by omega)) dL_law_1069 ?_
  have ht2 := hX2.1
  have hL := hX2.2.1.1
  have hP := hX2.2.1.2
  refine cVi1 hC (c_X11_fileAt hW2 ht2 hL) yv_X11_fileAt rfl hX2.1 mw_6_19 ⟨Nat.le_of_ble_eq_true rfl, Nat.le_of_ble_eq_true rfl⟩ ⟨rm_c (by omega), rm_s (by omega)⟩ (Nat.le_of_ble_eq_true rfl) dL_law_1070 (fun r1070 M1073 hq => ?_)
  obtain ⟨rfl, hbd⟩ := hq
  have hX3 := hX2.bd hbd
  have hA3 := hA2.bd hbd
  have hW3 := hW2.bd hbd
  have hOn := On.bd hbd
  refine v_pop hC dL_law_1073 rfl ?_
  refine v_goto hC dL_law_1074 (tgt := 1100) (by decide) ?_
  refine v_wide (k := 600 + 36 * (K + 1)) (n := 14296 + 852 * (K + 1)) (by omega) (by omega) ?_
  exact cont _ _ _ _ (J.act hB2 hT2 hCf hX3 hOn hW3 hA3 (hF.up (by omega)))
set_option maxHeartbeats 4000000 in
theorem lw_c31 {p : Program} {l : Launch} {e : Env} {s : State} {m : MethodId} {below : List Frame} {meth : Method} {c : Code} {G : Gd} {M : Me} {nm : String} {b h1 n1 h2 N K t : Nat} {xs : Nat → Int32} {x : Xs} {tc : Nat → Int32} (hC : Cx p m c s #[.ref b] meth cL_law 4 "MatchBureauLaw" nm ret G) (hlo : g_lo G = s.heap.size) (hX : va_X b N xs s (g_H G)) (hb : b < g_lo G) (hN : N ≤ 2048) (hi : 4 * K + 4 ≤ N) (J : IV K x t tc M h1 n1 h2) (cont : ∀ (x2 : Xs) (t2 : Nat) (tc2 : Nat → Int32) (M2 : Me), IV (K + 1) x2 t2 tc2 M2 h1 n1 h2 → V p l e room_1 s m #[.ref b] below meth c 4 G (lw_Z below #[.ref b] s) M2 (600 + 36 * (K + 1)) (14296 + 852 * (K + 1)) 1100 [some (.ref b), some (.ref h1), some (.ref h2), some (.int (nI (4 * K)))] []) : V p l e room_1 s m #[.ref b] below meth c 4 G (lw_Z below #[.ref b] s) M (600 + 36 * K) (14296 + 852 * K) 1077 [some (.ref b), some (.ref h1), some (.ref h2), some (.int (nI (4 * K)))] [] := by
  have J0 := J
  obtain ⟨hW, hB, hT, hX0, hA, hR, hF⟩ := J0
  have hK : K < 512 := by omega
  have w := hF.1
  have hcap := hX0.2.1.1.1
  have hz := w.z
  have hO := w.o.1
  have hI := w.o.2
  have hD6 := w.d
  have hQ := w.q
  have hE := w.e
  have hBb := w.b.1
  have hY := w.b.2.1
  have hS := w.f.s
  have hAa := w.f.a
  have hV := w.f.v
  have hKk := w.f.k
  have hTt := w.t
  have hJj := w.jj (by omega)
  have hzh : ∀ j, j < x_n x → hzU (x_h x j) := fun j hj => (hF.2.1 j hj).z
  have hzs : x_f x = 1 → hzU (x_s x) := fun q => (hF.2.2 q).z
  refine v_aload_n hC dL_law_1077 rfl rfl ?_
  refine v_aload_n hC dL_law_1078 rfl rfl ?_
  refine v_iload_n hC dL_law_1079 rfl rfl ?_
  refine v_iconst (v := 1) hC dL_law_1080 (by decide) ?_
  refine v_iadd hC dL_law_1081 ?_
  rw [show nI (4 * K) + 1 = nI (4 * K + 1) from nI_add _ 1]
  refine v_sld hC hX hb (j := 4 * K + 1) (ix_e rfl (by omega) (by omega)) dL_law_1082 ?_
  refine cVi1 hC (c_X10_count hW hB hT) yv_X10_count rfl hB.1.1.1 mw_4_73 ⟨Nat.le_of_ble_eq_true rfl, Nat.le_of_ble_eq_true rfl⟩ ⟨rm_c (by omega), rm_s (by omega)⟩ (Nat.le_of_ble_eq_true rfl) dL_law_1083 (fun r1083 M1086 hq => ?_)
  obtain ⟨rfl, hbx⟩ := hq
  have hB2 := hB.bx hbx
  have hT2 := hT.bx hbx
  have hW2 := hW.bx hbx
  have hCf : Cf M M1086 h1 n1 := Bx.cf hbx
  have hX2 := hX0.cf hR hCf
  have hA2 := hA.cf hR hCf
  refine v_aload_n hC dL_law_1086 rfl rfl ?_
  refine v_aload_n hC dL_law_1087 rfl rfl ?_
  refine v_iload_n hC dL_law_1088 rfl rfl ?_
  refine v_iconst (v := 1) hC dL_law_1089 (by decide) ?_
  refine v_iadd hC dL_law_1090 ?_
  rw [show nI (4 * K) + 1 = nI (4 * K + 1) from nI_add _ 1]
  refine v_sld hC hX hb (j := 4 * K + 1) (ix_e rfl (by omega) (by omega)) dL_law_1091 ?_
  have ht2 := hX2.1
  have hL := hX2.2.1.1
  have hP := hX2.2.1.2
  refine cVi1 hC (c_X11_count hW2 ht2 hL hS hTt hKk hP hX2.2.2.1.2.1 hA2.2.1) yv_X11_count rfl hX2.1 mw_6_23 ⟨Nat.le_of_ble_eq_true rfl, Nat.le_of_ble_eq_true rfl⟩ ⟨rm_c (by omega), rm_s (by omega)⟩ (Nat.le_of_ble_eq_true rfl) dL_law_1092 (fun r1092 M1095 hq => ?_)
  obtain ⟨rfl, hbd⟩ := hq
  have hX3 := hX2.bd hbd
  have hA3 := hA2.bd hbd
  have hW3 := hW2.bd hbd
  have hOn := On.bd hbd
  refine v_icmp_eq hC dL_law_1095 (tgt := 1100) (by decide) (fun _ => ?_) (fun h => absurd rfl h)
  refine v_wide (k := 600 + 36 * (K + 1)) (n := 14296 + 852 * (K + 1)) (by omega) (by omega) ?_
  exact cont _ _ _ _ (J.act hB2 hT2 hCf hX3 hOn hW3 hA3 (hF.up (by omega)))
theorem lw_one {p : Program} {l : Launch} {e : Env} {s : State} {m : MethodId} {below : List Frame} {meth : Method} {c : Code} {G : Gd} {M : Me} {nm : String} {b h1 n1 h2 N K t : Nat} {xs : Nat → Int32} {x : Xs} {tc : Nat → Int32} (hC : Cx p m c s #[.ref b] meth cL_law 4 "MatchBureauLaw" nm ret G) (hlo : g_lo G = s.heap.size) (hX : va_X b N xs s (g_H G)) (hb : b < g_lo G) (hN : N ≤ 2048) (hi : 4 * K + 4 ≤ N) (J : IV K x t tc M h1 n1 h2) (cont : ∀ (x2 : Xs) (t2 : Nat) (tc2 : Nat → Int32) (M2 : Me), IV (K + 1) x2 t2 tc2 M2 h1 n1 h2 → V p l e room_1 s m #[.ref b] below meth c 4 G (lw_Z below #[.ref b] s) M2 (600 + 36 * (K + 1)) (14296 + 852 * (K + 1)) 1100 [some (.ref b), some (.ref h1), some (.ref h2), some (.int (nI (4 * K)))] []) : V p l e room_1 s m #[.ref b] below meth c 4 G (lw_Z below #[.ref b] s) M (600 + 36 * K) (14296 + 852 * K) 26 [some (.ref b), some (.ref h1), some (.ref h2), some (.int (nI (4 * K)))] [] := by
  refine v_aload_n hC dL_law_26 rfl rfl ?_
  refine v_iload_n hC dL_law_27 rfl rfl ?_
  refine v_sld hC hX hb (j := 4 * K) (ix_e rfl (by omega) (by omega)) dL_law_28 ?_
  refine v_bipush (v := 31) hC dL_law_29 (by decide) ?_
  refine v_iand hC dL_law_31 ?_
  obtain ⟨j, hj, e⟩ := pk_andE (xs (4 * K)) (m := 31) 5 (by decide)
  rw [e]
  have hj2 : j = 0 ∨ j = 1 ∨ j = 2 ∨ j = 3 ∨ j = 4 ∨ j = 5 ∨ j = 6 ∨ j = 7 ∨ j = 8 ∨ j = 9 ∨ j = 10 ∨ j = 11 ∨ j = 12 ∨ j = 13 ∨ j = 14 ∨ j = 15 ∨ j = 16 ∨ j = 17 ∨ j = 18 ∨ j = 19 ∨ j = 20 ∨ j = 21 ∨ j = 22 ∨ j = 23 ∨ j = 24 ∨ j = 25 ∨ j = 26 ∨ j = 27 ∨ j = 28 ∨ j = 29 ∨ j = 30 ∨ j = 31 := by omega
  clear hj e
  rcases hj2 with rfl | rfl | rfl | rfl | rfl | rfl | rfl | rfl | rfl | rfl | rfl | rfl | rfl | rfl | rfl | rfl | rfl | rfl | rfl | rfl | rfl | rfl | rfl | rfl | rfl | rfl | rfl | rfl | rfl | rfl | rfl | rfl
  · exact v_tsi hC (off := 144) (tgt := 176) dL_law_32 (by decide) (by decide) (by decide) (by decide) (lw_c0 hC hlo hX hb hN hi J cont)
  · exact v_tsi hC (off := 167) (tgt := 199) dL_law_32 (by decide) (by decide) (by decide) (by decide) (lw_c1 hC hlo hX hb hN hi J cont)
  · exact v_tsi hC (off := 226) (tgt := 258) dL_law_32 (by decide) (by decide) (by decide) (by decide) (lw_c2 hC hlo hX hb hN hi J cont)
  · exact v_tsi hC (off := 259) (tgt := 291) dL_law_32 (by decide) (by decide) (by decide) (by decide) (lw_c3 hC hlo hX hb hN hi J cont)
  · exact v_tsi hC (off := 284) (tgt := 316) dL_law_32 (by decide) (by decide) (by decide) (by decide) (lw_c4 hC hlo hX hb hN hi J cont)
  · exact v_tsi hC (off := 297) (tgt := 329) dL_law_32 (by decide) (by decide) (by decide) (by decide) (lw_c5 hC hlo hX hb hN hi J cont)
  · exact v_tsi hC (off := 310) (tgt := 342) dL_law_32 (by decide) (by decide) (by decide) (by decide) (lw_c6 hC hlo hX hb hN hi J cont)
  · exact v_tsi hC (off := 333) (tgt := 365) dL_law_32 (by decide) (by decide) (by decide) (by decide) (lw_c7 hC hlo hX hb hN hi J cont)
  · exact v_tsi hC (off := 356) (tgt := 388) dL_law_32 (by decide) (by decide) (by decide) (by decide) (lw_c8 hC hlo hX hb hN hi J cont)
  · exact v_tsi hC (off := 389) (tgt := 421) dL_law_32 (by decide) (by decide) (by decide) (by decide) (lw_c9 hC hlo hX hb hN hi J cont)
  · exact v_tsi hC (off := 412) (tgt := 444) dL_law_32 (by decide) (by decide) (by decide) (by decide) (lw_c10 hC hlo hX hb hN hi J cont)
  · exact v_tsi hC (off := 445) (tgt := 477) dL_law_32 (by decide) (by decide) (by decide) (by decide) (lw_c11 hC hlo hX hb hN hi J cont)
  · exact v_tsi hC (off := 488) (tgt := 520) dL_law_32 (by decide) (by decide) (by decide) (by decide) (lw_c12 hC hlo hX hb hN hi J cont)
  · exact v_tsi hC (off := 521) (tgt := 553) dL_law_32 (by decide) (by decide) (by decide) (by decide) (lw_c13 hC hlo hX hb hN hi J cont)
  · exact v_tsi hC (off := 554) (tgt := 586) dL_law_32 (by decide) (by decide) (by decide) (by decide) (lw_c14 hC hlo hX hb hN hi J cont)
  · exact v_tsi hC (off := 577) (tgt := 609) dL_law_32 (by decide) (by decide) (by decide) (by decide) (lw_c15 hC hlo hX hb hN hi J cont)
  · exact v_tsi hC (off := 610) (tgt := 642) dL_law_32 (by decide) (by decide) (by decide) (by decide) (lw_c16 hC hlo hX hb hN hi J cont)
  · exact v_tsi hC (off := 623) (tgt := 655) dL_law_32 (by decide) (by decide) (by decide) (by decide) (lw_c17 hC hlo hX hb hN hi J cont)
  · exact v_tsi hC (off := 636) (tgt := 668) dL_law_32 (by decide) (by decide) (by decide) (by decide) (lw_c18 hC hlo hX hb hN hi J cont)
  · exact v_tsi hC (off := 649) (tgt := 681) dL_law_32 (by decide) (by decide) (by decide) (by decide) (lw_c19 hC hlo hX hb hN hi J cont)
  · exact v_tsi hC (off := 682) (tgt := 714) dL_law_32 (by decide) (by decide) (by decide) (by decide) (lw_c20 hC hlo hX hb hN hi J cont)
  · exact v_tsi hC (off := 715) (tgt := 747) dL_law_32 (by decide) (by decide) (by decide) (by decide) (lw_c21 hC hlo hX hb hN hi J cont)
  · exact v_tsi hC (off := 758) (tgt := 790) dL_law_32 (by decide) (by decide) (by decide) (by decide) (lw_c22 hC hlo hX hb hN hi J cont)
  · exact v_tsi hC (off := 801) (tgt := 833) dL_law_32 (by decide) (by decide) (by decide) (by decide) (lw_c23 hC hlo hX hb hN hi J cont)
  · exact v_tsi hC (off := 844) (tgt := 876) dL_law_32 (by decide) (by decide) (by decide) (by decide) (lw_c24 hC hlo hX hb hN hi J cont)
  · exact v_tsi hC (off := 877) (tgt := 909) dL_law_32 (by decide) (by decide) (by decide) (by decide) (lw_c25 hC hlo hX hb hN hi J cont)
  · exact v_tsi hC (off := 900) (tgt := 932) dL_law_32 (by decide) (by decide) (by decide) (by decide) (lw_c26 hC hlo hX hb hN hi J cont)
  · exact v_tsi hC (off := 933) (tgt := 965) dL_law_32 (by decide) (by decide) (by decide) (by decide) (lw_c27 hC hlo hX hb hN hi J cont)
  · exact v_tsi hC (off := 956) (tgt := 988) dL_law_32 (by decide) (by decide) (by decide) (by decide) (lw_c28 hC hlo hX hb hN hi J cont)
  · exact v_tsi hC (off := 989) (tgt := 1021) dL_law_32 (by decide) (by decide) (by decide) (by decide) (lw_c29 hC hlo hX hb hN hi J cont)
  · exact v_tsi hC (off := 1022) (tgt := 1054) dL_law_32 (by decide) (by decide) (by decide) (by decide) (lw_c30 hC hlo hX hb hN hi J cont)
  · exact v_tsi hC (off := 1045) (tgt := 1077) dL_law_32 (by decide) (by decide) (by decide) (by decide) (lw_c31 hC hlo hX hb hN hi J cont)
theorem lw_loop {p : Program} {l : Launch} {e : Env} {s : State} {m : MethodId} {below : List Frame} {meth : Method} {c : Code} {G : Gd} {nm : String} {b h1 n1 h2 N : Nat} {xs : Nat → Int32} (hC : Cx p m c s #[.ref b] meth cL_law 4 "MatchBureauLaw" nm ret G) (hlo : g_lo G = s.heap.size) (hX : va_X b N xs s (g_H G)) (hb : b < g_lo G) (hN : N ≤ 2048) : ∀ (j K : Nat) (x : Xs) (t : Nat) (tc : Nat → Int32) (M : Me), K + j = 513 → 4 * K ≤ N → IV K x t tc M h1 n1 h2 → V p l e room_1 s m #[.ref b] below meth c 4 G (lw_Z below #[.ref b] s) M (600 + 36 * K) (14296 + 852 * K) 18 [some (.ref b), some (.ref h1), some (.ref h2), some (.int (nI (4 * K)))] [] := by
  intro j
  induction j with
  | zero => intro K x t tc M w1 w2; omega
  | succ j ih =>
    intro K x t tc M w1 w2 J
    refine v_iload_n hC dL_law_18 rfl rfl ?_
    refine v_aload_n hC dL_law_19 rfl rfl ?_
    refine v_slen hC hX hb dL_law_20 ?_
    refine v_iconst (v := 4) hC dL_law_21 (by decide) ?_
    refine v_isub hC dL_law_22 ?_
    refine v_icmp_gt hC dL_law_23 (tgt := 1106) (by decide) (fun _ => ?_) (fun h => ?_)
    · refine v_iconst (v := 1) hC dL_law_1106 (by decide) ?_
      exact v_lawret hC hlo (by omega) (by omega) dL_law_1107
    · have hi : 4 * K + 4 ≤ N := Decidable.byContradiction fun q => h ((gt_n4 hN (by omega)).mpr q)
      refine lw_one hC hlo hX hb hN hi J (fun x2 t2 tc2 M2 J2 => ?_)
      refine v_inc3 (x := nI (4 * K)) hC dL_law_1100 (v := nI (4 * (K + 1))) (nI_add _ 4) (by decide) rfl ?_
      refine v_goto hC dL_law_1103 (tgt := 18) (by decide) ?_
      exact ih (K + 1) x2 t2 tc2 M2 (by omega) (by omega) J2
set_option maxHeartbeats 4000000 in
theorem whole_start {p : Program} (l : Launch) (hflags : l.flags = flags0) {e : Env} {s : State} {m : MethodId} {below : List Frame} {meth : Method} {c : Code} {b : Nat} {xs : List Int32} (hN : xs.length ≤ 2048) (hA : lw_At p s m meth c b xs.length (fun j => xs.getD j 0)) : W p l e room_1 s m #[Value.ref b] below meth c s.heap [] 0 0 (lw_Z below #[Value.ref b] s) (entryFrame m ([Value.ref b] : List Value).toArray 4) := by
  obtain ⟨hx, hcd, hrt, hml, hown, hts, hX0, hb0, hlk, hgv⟩ := hA
  generalize xs.length = N at hN hX0
  generalize (fun j => xs.getD j 0) = X at hX0
  obtain ⟨G, hlo, hH, hK, hKX⟩ := st_start hts hgv
  have hX : va_X b N X s (g_H G) := by rw [hH]; exact hX0
  have hb : b < g_lo G := by rw [hlo]; exact hb0
  have hpos : 0 < s.heap.size := by omega
  have hC : Cx p m c s #[.ref b] meth cL_law 4 "MatchBureauLaw" meth.name ret G := ⟨⟨hx, hcd, hml, hown, fun w hw => hts w (List.mem_filter.mp hw).1⟩, hK, hlk, hrt, rfl, hKX⟩
  have hl := lv_entry [Value.ref b] (n := 4) (Nat.le_of_ble_eq_true rfl)
  rw [lg_entry_eq]
  have nw0 : Nw (m_0 s.heap.size) := fun a ha => absurd rfl ha
  have pg0 : Pg (m_0 s.heap.size) 0 (m_0 s.heap.size) := Pg.rf nw0
  have body : V p l e room_1 s m #[.ref b] below meth c 4 G (lw_Z below #[.ref b] s) (m_0 s.heap.size) 0 0 0 [some (.ref b), none, none, none] [] := by
    refine nw_10 hC mw_1_15 (Nat.le_of_ble_eq_true rfl) (Nat.le_of_ble_eq_true rfl) dL_law_0 (fun _ => ?_)
    refine v_dup hC dL_law_3 rfl ?_
    refine cIv0 hC (c_X10_init (tn_n)) yi_X10_init mw_1_17 ⟨Nat.le_of_ble_eq_true rfl, Nat.le_of_ble_eq_true rfl⟩ ⟨Nat.le_of_ble_eq_true rfl, Nat.le_of_ble_eq_true rfl⟩ (Nat.le_of_ble_eq_true rfl) dL_law_4 (fun M1 hq => ?_)
    obtain ⟨cn, en, fr⟩ := BI_cn (M := s_new (m_0 s.heap.size) 11 0) (h := m_n (m_0 s.heap.size)) nw0.sn tn_n
    have ly := BI_ly (M := s_new (m_0 s.heap.size) 11 0) (h := m_n (m_0 s.heap.size)) nw0.sn tn_n
    rw [← hq] at cn en fr ly
    clear hq
    rw [n_sn] at en fr ly
    obtain ⟨pg1, -, -⟩ := pg0.obj hpos cn
    have nw1 : Nw M1 := pg1.2.1
    have e0 : m_n (m_0 s.heap.size) = s.heap.size := rfl
    generalize m_n (m_0 s.heap.size) = h1 at *
    refine v_ast1 hC dL_law_7 (by decide) rfl ?_
    refine nw_11 hC mw_4_108 (Nat.le_of_ble_eq_true rfl) (Nat.le_of_ble_eq_true rfl) dL_law_8 (fun _ => ?_)
    refine v_dup hC dL_law_11 rfl ?_
    refine cIv0 hC (c_X11_init (tn_n)) yi_X11_init mw_4_110 ⟨Nat.le_of_ble_eq_true rfl, Nat.le_of_ble_eq_true rfl⟩ ⟨Nat.le_of_ble_eq_true rfl, Nat.le_of_ble_eq_true rfl⟩ (Nat.le_of_ble_eq_true rfl) dL_law_12 (fun M2 hq => ?_)
    obtain ⟨cn2, en2, frN⟩ := NI_cn (M := s_new M1 12 0) (h := m_n M1) nw1.sn tn_n (by rw [i_sn, if_pos rfl]) (by rw [i_sn, if_pos rfl]) (by rw [i_sn, if_pos rfl])
    have r281 := NI_281 (M := s_new M1 12 0) (h := m_n M1) (by rw [n_sn]; omega)
    rw [← hq] at cn2 en2 frN r281
    clear hq
    rw [n_sn] at en2 frN r281
    obtain ⟨pg2, sm2, -⟩ := pg1.obj hpos cn2
    have hW : Wt M2 := Wt.of fun a => by
      by_cases q : s.heap.size ≤ a
      · exact pg2.2.2.2.2 a q
      · refine Wta.zero ?_
        by_cases q0 : a = 0
        · subst q0; exact pg2.2.2.2.1
        · exact (pg2.2.2.1 a (Nat.lt_of_not_le q) q0).1
    have J := IV.start fr (Nat.lt_succ_self _) en ly sm2 frN (by omega) (by omega) hW
    refine v_ast2 hC dL_law_15 (by decide) rfl ?_
    refine v_iconst (v := 0) hC dL_law_16 (by decide) ?_
    refine v_ist3 hC dL_law_17 (by decide) rfl ?_
    refine v_wide (k := 600 + 36 * 0) (n := 14296 + 852 * 0) (Nat.le_of_ble_eq_true rfl) (Nat.le_of_ble_eq_true rfl) ?_
    exact lw_loop hC hlo hX hb hN 513 0 x0 0 (fun _ => 0) M2 (by omega) (by omega) J
  exact body s.heap [] _ (Rp.zero hpos hlo hH rfl) (fun q hq => by cases hq) hl
