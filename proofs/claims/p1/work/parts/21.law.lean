theorem lw_exit {p : Program} {l : Launch} {e : Env} {s : State} {m : MethodId} {below : List Frame} {meth : Method} {c : Code} {G : Gd} {M : Me} {nm : String} {b h1 h2 : Nat} {xs : Nat → Int32} (hC : Cx p m c s #[.ref b] meth cL_law 4 "MatchBureauLaw" nm ret G) (hlo : g_lo G = s.heap.size) (hX : va_X b 4 xs s (g_H G)) (hb : b < g_lo G) : V p l e room_1 s m #[.ref b] below meth c 4 G (lw_Z below #[.ref b] s) M 600 14296 1100 [some (.ref b), some (.ref h1), some (.ref h2), some (.int 0)] [] := by
  refine v_inc3 (x := 0) hC dL_law_1100 (v := 4) (by decide) (by decide) rfl ?_
  refine v_goto hC dL_law_1103 (tgt := 18) (by decide) ?_
  refine v_iload_n hC dL_law_18 rfl rfl ?_
  refine v_aload_n hC dL_law_19 rfl rfl ?_
  refine v_slen hC hX hb dL_law_20 ?_
  refine v_iconst (v := 4) hC dL_law_21 (by decide) ?_
  refine v_isub hC dL_law_22 ?_
  refine v_icmp_gt hC dL_law_23 (tgt := 1106) (by decide) (fun _ => ?_) (fun hx => absurd (by decide) hx)
  refine v_iconst (v := 1) hC dL_law_1106 (by decide) ?_
  exact v_lawret hC hlo (Nat.le_of_ble_eq_true rfl) (Nat.le_of_ble_eq_true rfl) dL_law_1107
set_option maxHeartbeats 4000000 in
theorem lw_c0 {p : Program} {l : Launch} {e : Env} {s : State} {m : MethodId} {below : List Frame} {meth : Method} {c : Code} {G : Gd} {M : Me} {nm : String} {b h1 h2 : Nat} {xs : Nat → Int32} (hC : Cx p m c s #[.ref b] meth cL_law 4 "MatchBureauLaw" nm ret G) (hlo : g_lo G = s.heap.size) (hX : va_X b 4 xs s (g_H G)) (hb : b < g_lo G) (hW : Wt M) (hs : Fs M h1) (hsN : FsN M h2) : V p l e room_1 s m #[.ref b] below meth c 4 G (lw_Z below #[.ref b] s) M 600 14296 176 [some (.ref b), some (.ref h1), some (.ref h2), some (.int 0)] [] := by
  refine v_aload_n hC dL_law_176 rfl rfl ?_
  refine v_aload_n hC dL_law_177 rfl rfl ?_
  refine v_iload_n hC dL_law_178 rfl rfl ?_
  refine v_iconst (v := 1) hC dL_law_179 (by decide) ?_
  refine v_iadd hC dL_law_180 ?_
  refine v_sld hC hX hb (j := 1) (ix_e (by decide) (by decide) (by decide)) dL_law_181 ?_
  refine cVi1 hC (c_X10_addPerson0 hW hs) yv_X10_addPerson rfl hs.1 mw_2_94 ⟨Nat.le_of_ble_eq_true rfl, Nat.le_of_ble_eq_true rfl⟩ ⟨Nat.le_of_ble_eq_true rfl, Nat.le_of_ble_eq_true rfl⟩ (Nat.le_of_ble_eq_true rfl) dL_law_182 (fun r182 M185 hq => ?_)
  obtain ⟨rfl, ho⟩ := hq
  have hW2 : Wt M185 := hW.fx ho.1
  have hsN2 : FsN M185 h2 := hsN.mo ho
  refine v_aload_n hC dL_law_185 rfl rfl ?_
  refine v_aload_n hC dL_law_186 rfl rfl ?_
  refine v_iload_n hC dL_law_187 rfl rfl ?_
  refine v_iconst (v := 1) hC dL_law_188 (by decide) ?_
  refine v_iadd hC dL_law_189 ?_
  refine v_sld hC hX hb (j := 1) (ix_e (by decide) (by decide) (by decide)) dL_law_190 ?_
  refine cVi1 hC (c_X11_addPerson0 hW2 hsN2) yv_X11_addPerson rfl hsN2.1 mw_4_177 ⟨Nat.le_of_ble_eq_true rfl, Nat.le_of_ble_eq_true rfl⟩ ⟨Nat.le_of_ble_eq_true rfl, Nat.le_of_ble_eq_true rfl⟩ (Nat.le_of_ble_eq_true rfl) dL_law_191 (fun r191 M194 hq => ?_)
  obtain ⟨rfl, -⟩ := hq
  refine v_icmp_eq hC dL_law_194 (tgt := 1100) (by decide) (fun _ => ?_) (fun h => absurd rfl h)
  exact lw_exit hC hlo hX hb
set_option maxHeartbeats 4000000 in
theorem lw_c1 {p : Program} {l : Launch} {e : Env} {s : State} {m : MethodId} {below : List Frame} {meth : Method} {c : Code} {G : Gd} {M : Me} {nm : String} {b h1 h2 : Nat} {xs : Nat → Int32} (hC : Cx p m c s #[.ref b] meth cL_law 4 "MatchBureauLaw" nm ret G) (hlo : g_lo G = s.heap.size) (hX : va_X b 4 xs s (g_H G)) (hb : b < g_lo G) (hW : Wt M) (hs : Fs M h1) (hsN : FsN M h2) : V p l e room_1 s m #[.ref b] below meth c 4 G (lw_Z below #[.ref b] s) M 600 14296 199 [some (.ref b), some (.ref h1), some (.ref h2), some (.int 0)] [] := by
  refine v_aload_n hC dL_law_199 rfl rfl ?_
  refine v_aload_n hC dL_law_200 rfl rfl ?_
  refine v_iload_n hC dL_law_201 rfl rfl ?_
  refine v_iconst (v := 1) hC dL_law_202 (by decide) ?_
  refine v_iadd hC dL_law_203 ?_
  refine v_sld hC hX hb (j := 1) (ix_e (by decide) (by decide) (by decide)) dL_law_204 ?_
  refine v_aload_n hC dL_law_205 rfl rfl ?_
  refine v_iload_n hC dL_law_206 rfl rfl ?_
  refine v_iconst (v := 2) hC dL_law_207 (by decide) ?_
  refine v_iadd hC dL_law_208 ?_
  refine v_sld hC hX hb (j := 2) (ix_e (by decide) (by decide) (by decide)) dL_law_209 ?_
  refine v_aload_n hC dL_law_210 rfl rfl ?_
  refine v_iload_n hC dL_law_211 rfl rfl ?_
  refine v_iconst (v := 3) hC dL_law_212 (by decide) ?_
  refine v_iadd hC dL_law_213 ?_
  refine v_sld hC hX hb (j := 3) (ix_e (by decide) (by decide) (by decide)) dL_law_214 ?_
  refine v_if_eq hC dL_law_215 (tgt := 222) (by decide) (fun _ => ?_) (fun _ => ?_)
  · refine v_iconst (v := 0) hC dL_law_222 (by decide) ?_
    refine cVi3 hC (c_X10_bar0 hW hs) yv_X10_bar rfl hs.1 mw_2_139 ⟨Nat.le_of_ble_eq_true rfl, Nat.le_of_ble_eq_true rfl⟩ ⟨Nat.le_of_ble_eq_true rfl, Nat.le_of_ble_eq_true rfl⟩ (Nat.le_of_ble_eq_true rfl) dL_law_223 (fun r223 M226 hq => ?_)
    obtain ⟨rfl, hm⟩ := hq
    have hm2 := hm.symm
    clear hm
    subst hm2
    refine v_aload_n hC dL_law_226 rfl rfl ?_
    refine v_aload_n hC dL_law_227 rfl rfl ?_
    refine v_iload_n hC dL_law_228 rfl rfl ?_
    refine v_iconst (v := 1) hC dL_law_229 (by decide) ?_
    refine v_iadd hC dL_law_230 ?_
    refine v_sld hC hX hb (j := 1) (ix_e (by decide) (by decide) (by decide)) dL_law_231 ?_
    refine v_aload_n hC dL_law_232 rfl rfl ?_
    refine v_iload_n hC dL_law_233 rfl rfl ?_
    refine v_iconst (v := 2) hC dL_law_234 (by decide) ?_
    refine v_iadd hC dL_law_235 ?_
    refine v_sld hC hX hb (j := 2) (ix_e (by decide) (by decide) (by decide)) dL_law_236 ?_
    refine v_aload_n hC dL_law_237 rfl rfl ?_
    refine v_iload_n hC dL_law_238 rfl rfl ?_
    refine v_iconst (v := 3) hC dL_law_239 (by decide) ?_
    refine v_iadd hC dL_law_240 ?_
    refine v_sld hC hX hb (j := 3) (ix_e (by decide) (by decide) (by decide)) dL_law_241 ?_
    refine v_if_eq hC dL_law_242 (tgt := 249) (by decide) (fun _ => ?_) (fun _ => ?_)
    · refine v_iconst (v := 0) hC dL_law_249 (by decide) ?_
      refine cVi3 hC (c_X11_bar0 hW hsN) yv_X11_bar rfl hsN.1 mw_4_190 ⟨Nat.le_of_ble_eq_true rfl, Nat.le_of_ble_eq_true rfl⟩ ⟨Nat.le_of_ble_eq_true rfl, Nat.le_of_ble_eq_true rfl⟩ (Nat.le_of_ble_eq_true rfl) dL_law_250 (fun r250 M253 hq => ?_)
      obtain ⟨rfl, -⟩ := hq
      refine v_icmp_eq hC dL_law_253 (tgt := 1100) (by decide) (fun _ => ?_) (fun h => absurd rfl h)
      exact lw_exit hC hlo hX hb
    · refine v_iconst (v := 1) hC dL_law_245 (by decide) ?_
      refine v_goto hC dL_law_246 (tgt := 250) (by decide) ?_
      refine cVi3 hC (c_X11_bar0 hW hsN) yv_X11_bar rfl hsN.1 mw_4_190 ⟨Nat.le_of_ble_eq_true rfl, Nat.le_of_ble_eq_true rfl⟩ ⟨Nat.le_of_ble_eq_true rfl, Nat.le_of_ble_eq_true rfl⟩ (Nat.le_of_ble_eq_true rfl) dL_law_250 (fun r250 M253 hq => ?_)
      obtain ⟨rfl, -⟩ := hq
      refine v_icmp_eq hC dL_law_253 (tgt := 1100) (by decide) (fun _ => ?_) (fun h => absurd rfl h)
      exact lw_exit hC hlo hX hb
  · refine v_iconst (v := 1) hC dL_law_218 (by decide) ?_
    refine v_goto hC dL_law_219 (tgt := 223) (by decide) ?_
    refine cVi3 hC (c_X10_bar0 hW hs) yv_X10_bar rfl hs.1 mw_2_139 ⟨Nat.le_of_ble_eq_true rfl, Nat.le_of_ble_eq_true rfl⟩ ⟨Nat.le_of_ble_eq_true rfl, Nat.le_of_ble_eq_true rfl⟩ (Nat.le_of_ble_eq_true rfl) dL_law_223 (fun r223 M226 hq => ?_)
    obtain ⟨rfl, hm⟩ := hq
    have hm2 := hm.symm
    clear hm
    subst hm2
    refine v_aload_n hC dL_law_226 rfl rfl ?_
    refine v_aload_n hC dL_law_227 rfl rfl ?_
    refine v_iload_n hC dL_law_228 rfl rfl ?_
    refine v_iconst (v := 1) hC dL_law_229 (by decide) ?_
    refine v_iadd hC dL_law_230 ?_
    refine v_sld hC hX hb (j := 1) (ix_e (by decide) (by decide) (by decide)) dL_law_231 ?_
    refine v_aload_n hC dL_law_232 rfl rfl ?_
    refine v_iload_n hC dL_law_233 rfl rfl ?_
    refine v_iconst (v := 2) hC dL_law_234 (by decide) ?_
    refine v_iadd hC dL_law_235 ?_
    refine v_sld hC hX hb (j := 2) (ix_e (by decide) (by decide) (by decide)) dL_law_236 ?_
    refine v_aload_n hC dL_law_237 rfl rfl ?_
    refine v_iload_n hC dL_law_238 rfl rfl ?_
    refine v_iconst (v := 3) hC dL_law_239 (by decide) ?_
    refine v_iadd hC dL_law_240 ?_
    refine v_sld hC hX hb (j := 3) (ix_e (by decide) (by decide) (by decide)) dL_law_241 ?_
    refine v_if_eq hC dL_law_242 (tgt := 249) (by decide) (fun _ => ?_) (fun _ => ?_)
    · refine v_iconst (v := 0) hC dL_law_249 (by decide) ?_
      refine cVi3 hC (c_X11_bar0 hW hsN) yv_X11_bar rfl hsN.1 mw_4_190 ⟨Nat.le_of_ble_eq_true rfl, Nat.le_of_ble_eq_true rfl⟩ ⟨Nat.le_of_ble_eq_true rfl, Nat.le_of_ble_eq_true rfl⟩ (Nat.le_of_ble_eq_true rfl) dL_law_250 (fun r250 M253 hq => ?_)
      obtain ⟨rfl, -⟩ := hq
      refine v_icmp_eq hC dL_law_253 (tgt := 1100) (by decide) (fun _ => ?_) (fun h => absurd rfl h)
      exact lw_exit hC hlo hX hb
    · refine v_iconst (v := 1) hC dL_law_245 (by decide) ?_
      refine v_goto hC dL_law_246 (tgt := 250) (by decide) ?_
      refine cVi3 hC (c_X11_bar0 hW hsN) yv_X11_bar rfl hsN.1 mw_4_190 ⟨Nat.le_of_ble_eq_true rfl, Nat.le_of_ble_eq_true rfl⟩ ⟨Nat.le_of_ble_eq_true rfl, Nat.le_of_ble_eq_true rfl⟩ (Nat.le_of_ble_eq_true rfl) dL_law_250 (fun r250 M253 hq => ?_)
      obtain ⟨rfl, -⟩ := hq
      refine v_icmp_eq hC dL_law_253 (tgt := 1100) (by decide) (fun _ => ?_) (fun h => absurd rfl h)
      exact lw_exit hC hlo hX hb
set_option maxHeartbeats 4000000 in
theorem lw_c2 {p : Program} {l : Launch} {e : Env} {s : State} {m : MethodId} {below : List Frame} {meth : Method} {c : Code} {G : Gd} {M : Me} {nm : String} {b h1 h2 : Nat} {xs : Nat → Int32} (hC : Cx p m c s #[.ref b] meth cL_law 4 "MatchBureauLaw" nm ret G) (hlo : g_lo G = s.heap.size) (hX : va_X b 4 xs s (g_H G)) (hb : b < g_lo G) (hW : Wt M) (hs : Fs M h1) (hsN : FsN M h2) : V p l e room_1 s m #[.ref b] below meth c 4 G (lw_Z below #[.ref b] s) M 600 14296 258 [some (.ref b), some (.ref h1), some (.ref h2), some (.int 0)] [] := by
  refine v_aload_n hC dL_law_258 rfl rfl ?_
  refine v_aload_n hC dL_law_259 rfl rfl ?_
  refine v_iload_n hC dL_law_260 rfl rfl ?_
  refine v_iconst (v := 1) hC dL_law_261 (by decide) ?_
  refine v_iadd hC dL_law_262 ?_
  refine v_sld hC hX hb (j := 1) (ix_e (by decide) (by decide) (by decide)) dL_law_263 ?_
  refine v_aload_n hC dL_law_264 rfl rfl ?_
  refine v_iload_n hC dL_law_265 rfl rfl ?_
  refine v_iconst (v := 2) hC dL_law_266 (by decide) ?_
  refine v_iadd hC dL_law_267 ?_
  refine v_sld hC hX hb (j := 2) (ix_e (by decide) (by decide) (by decide)) dL_law_268 ?_
  refine cVi2 hC (c_X10_setShare0 hW hs) yv_X10_setShare rfl hs.1 mw_2_161 ⟨Nat.le_of_ble_eq_true rfl, Nat.le_of_ble_eq_true rfl⟩ ⟨Nat.le_of_ble_eq_true rfl, Nat.le_of_ble_eq_true rfl⟩ (Nat.le_of_ble_eq_true rfl) dL_law_269 (fun r269 M272 hq => ?_)
  obtain ⟨rfl, ho⟩ := hq
  have hW2 : Wt M272 := hW.fx ho.1
  have hsN2 : FsN M272 h2 := hsN.mo ho
  refine v_aload_n hC dL_law_272 rfl rfl ?_
  refine v_aload_n hC dL_law_273 rfl rfl ?_
  refine v_iload_n hC dL_law_274 rfl rfl ?_
  refine v_iconst (v := 1) hC dL_law_275 (by decide) ?_
  refine v_iadd hC dL_law_276 ?_
  refine v_sld hC hX hb (j := 1) (ix_e (by decide) (by decide) (by decide)) dL_law_277 ?_
  refine v_aload_n hC dL_law_278 rfl rfl ?_
  refine v_iload_n hC dL_law_279 rfl rfl ?_
  refine v_iconst (v := 2) hC dL_law_280 (by decide) ?_
  refine v_iadd hC dL_law_281 ?_
  refine v_sld hC hX hb (j := 2) (ix_e (by decide) (by decide) (by decide)) dL_law_282 ?_
  refine cVi2 hC (c_X11_setShare0 hW2 hsN2) yv_X11_setShare rfl hsN2.1 mw_4_205 ⟨Nat.le_of_ble_eq_true rfl, Nat.le_of_ble_eq_true rfl⟩ ⟨Nat.le_of_ble_eq_true rfl, Nat.le_of_ble_eq_true rfl⟩ (Nat.le_of_ble_eq_true rfl) dL_law_283 (fun r283 M286 hq => ?_)
  obtain ⟨rfl, -⟩ := hq
  refine v_icmp_eq hC dL_law_286 (tgt := 1100) (by decide) (fun _ => ?_) (fun h => absurd rfl h)
  exact lw_exit hC hlo hX hb
set_option maxHeartbeats 4000000 in
theorem lw_c3 {p : Program} {l : Launch} {e : Env} {s : State} {m : MethodId} {below : List Frame} {meth : Method} {c : Code} {G : Gd} {M : Me} {nm : String} {b h1 h2 : Nat} {xs : Nat → Int32} (hC : Cx p m c s #[.ref b] meth cL_law 4 "MatchBureauLaw" nm ret G) (hlo : g_lo G = s.heap.size) (hX : va_X b 4 xs s (g_H G)) (hb : b < g_lo G) (hW : Wt M) (hs : Fs M h1) (hsN : FsN M h2) : V p l e room_1 s m #[.ref b] below meth c 4 G (lw_Z below #[.ref b] s) M 600 14296 291 [some (.ref b), some (.ref h1), some (.ref h2), some (.int 0)] [] := by
  refine v_aload_n hC dL_law_291 rfl rfl ?_
  refine v_aload_n hC dL_law_292 rfl rfl ?_
  refine v_iload_n hC dL_law_293 rfl rfl ?_
  refine v_iconst (v := 1) hC dL_law_294 (by decide) ?_
  refine v_iadd hC dL_law_295 ?_
  refine v_sld hC hX hb (j := 1) (ix_e (by decide) (by decide) (by decide)) dL_law_296 ?_
  refine v_i2c hC dL_law_297 ?_
  refine cVi1 hC (c_X10_type0 hW hs (pk_nc _)) yv_X10_type rfl hs.1 mw_2_168 ⟨Nat.le_of_ble_eq_true rfl, Nat.le_of_ble_eq_true rfl⟩ ⟨Nat.le_of_ble_eq_true rfl, Nat.le_of_ble_eq_true rfl⟩ (Nat.le_of_ble_eq_true rfl) dL_law_298 (fun r298 M301 hq => ?_)
  obtain ⟨rfl, ho⟩ := hq
  have hW2 : Wt M301 := hW.fx ho.1
  have hsN2 : FsN M301 h2 := hsN.mo ho
  refine v_aload_n hC dL_law_301 rfl rfl ?_
  refine v_aload_n hC dL_law_302 rfl rfl ?_
  refine v_iload_n hC dL_law_303 rfl rfl ?_
  refine v_iconst (v := 1) hC dL_law_304 (by decide) ?_
  refine v_iadd hC dL_law_305 ?_
  refine v_sld hC hX hb (j := 1) (ix_e (by decide) (by decide) (by decide)) dL_law_306 ?_
  refine v_i2c hC dL_law_307 ?_
  refine cVi1 hC (c_X11_type0 hW2 hsN2 (pk_nc _)) yv_X11_type rfl hsN2.1 mw_4_209 ⟨Nat.le_of_ble_eq_true rfl, Nat.le_of_ble_eq_true rfl⟩ ⟨Nat.le_of_ble_eq_true rfl, Nat.le_of_ble_eq_true rfl⟩ (Nat.le_of_ble_eq_true rfl) dL_law_308 (fun r308 M311 hq => ?_)
  obtain ⟨rfl, -⟩ := hq
  refine v_icmp_eq hC dL_law_311 (tgt := 1100) (by decide) (fun _ => ?_) (fun h => absurd rfl h)
  exact lw_exit hC hlo hX hb
set_option maxHeartbeats 4000000 in
theorem lw_c4 {p : Program} {l : Launch} {e : Env} {s : State} {m : MethodId} {below : List Frame} {meth : Method} {c : Code} {G : Gd} {M : Me} {nm : String} {b h1 h2 : Nat} {xs : Nat → Int32} (hC : Cx p m c s #[.ref b] meth cL_law 4 "MatchBureauLaw" nm ret G) (hlo : g_lo G = s.heap.size) (hX : va_X b 4 xs s (g_H G)) (hb : b < g_lo G) (hW : Wt M) (hs : Fs M h1) (hsN : FsN M h2) : V p l e room_1 s m #[.ref b] below meth c 4 G (lw_Z below #[.ref b] s) M 600 14296 316 [some (.ref b), some (.ref h1), some (.ref h2), some (.int 0)] [] := by
  refine v_aload_n hC dL_law_316 rfl rfl ?_
  refine cVi0 hC (c_X10_clearText0 hW hs) yv_X10_clearText rfl hs.1 mw_2_176 ⟨Nat.le_of_ble_eq_true rfl, Nat.le_of_ble_eq_true rfl⟩ ⟨Nat.le_of_ble_eq_true rfl, Nat.le_of_ble_eq_true rfl⟩ (Nat.le_of_ble_eq_true rfl) dL_law_317 (fun r317 M320 hq => ?_)
  obtain ⟨rfl, ho⟩ := hq
  have hW2 : Wt M320 := hW.fx ho.1
  have hsN2 : FsN M320 h2 := hsN.mo ho
  refine v_aload_n hC dL_law_320 rfl rfl ?_
  refine cVi0 hC (c_X11_clearText0 hW2 hsN2) yv_X11_clearText rfl hsN2.1 mw_4_213 ⟨Nat.le_of_ble_eq_true rfl, Nat.le_of_ble_eq_true rfl⟩ ⟨Nat.le_of_ble_eq_true rfl, Nat.le_of_ble_eq_true rfl⟩ (Nat.le_of_ble_eq_true rfl) dL_law_321 (fun r321 M324 hq => ?_)
  obtain ⟨rfl, -⟩ := hq
  refine v_icmp_eq hC dL_law_324 (tgt := 1100) (by decide) (fun _ => ?_) (fun h => absurd rfl h)
  exact lw_exit hC hlo hX hb
set_option maxHeartbeats 4000000 in
theorem lw_c5 {p : Program} {l : Launch} {e : Env} {s : State} {m : MethodId} {below : List Frame} {meth : Method} {c : Code} {G : Gd} {M : Me} {nm : String} {b h1 h2 : Nat} {xs : Nat → Int32} (hC : Cx p m c s #[.ref b] meth cL_law 4 "MatchBureauLaw" nm ret G) (hlo : g_lo G = s.heap.size) (hX : va_X b 4 xs s (g_H G)) (hb : b < g_lo G) (hW : Wt M) (hs : Fs M h1) (hsN : FsN M h2) : V p l e room_1 s m #[.ref b] below meth c 4 G (lw_Z below #[.ref b] s) M 600 14296 329 [some (.ref b), some (.ref h1), some (.ref h2), some (.int 0)] [] := by
  refine v_aload_n hC dL_law_329 rfl rfl ?_
  refine cVi0 hC (c_X10_newFile0 hW hs) yv_X10_newFile rfl hs.1 mw_2_180 ⟨Nat.le_of_ble_eq_true rfl, Nat.le_of_ble_eq_true rfl⟩ ⟨Nat.le_of_ble_eq_true rfl, Nat.le_of_ble_eq_true rfl⟩ (Nat.le_of_ble_eq_true rfl) dL_law_330 (fun r330 M333 hq => ?_)
  obtain ⟨rfl, ho⟩ := hq
  have hW2 : Wt M333 := hW.fx ho.1
  have hsN2 : FsN M333 h2 := hsN.mo ho
  refine v_aload_n hC dL_law_333 rfl rfl ?_
  refine cVi0 hC (c_X11_newFile0 hW2 hsN2) yv_X11_newFile rfl hsN2.1 mw_4_217 ⟨Nat.le_of_ble_eq_true rfl, Nat.le_of_ble_eq_true rfl⟩ ⟨Nat.le_of_ble_eq_true rfl, Nat.le_of_ble_eq_true rfl⟩ (Nat.le_of_ble_eq_true rfl) dL_law_334 (fun r334 M337 hq => ?_)
  obtain ⟨rfl, -⟩ := hq
  refine v_icmp_eq hC dL_law_337 (tgt := 1100) (by decide) (fun _ => ?_) (fun h => absurd rfl h)
  exact lw_exit hC hlo hX hb
set_option maxHeartbeats 4000000 in
theorem lw_c6 {p : Program} {l : Launch} {e : Env} {s : State} {m : MethodId} {below : List Frame} {meth : Method} {c : Code} {G : Gd} {M : Me} {nm : String} {b h1 h2 : Nat} {xs : Nat → Int32} (hC : Cx p m c s #[.ref b] meth cL_law 4 "MatchBureauLaw" nm ret G) (hlo : g_lo G = s.heap.size) (hX : va_X b 4 xs s (g_H G)) (hb : b < g_lo G) (hW : Wt M) (hs : Fs M h1) (hsN : FsN M h2) : V p l e room_1 s m #[.ref b] below meth c 4 G (lw_Z below #[.ref b] s) M 600 14296 342 [some (.ref b), some (.ref h1), some (.ref h2), some (.int 0)] [] := by
  refine v_aload_n hC dL_law_342 rfl rfl ?_
  refine v_aload_n hC dL_law_343 rfl rfl ?_
  refine v_iload_n hC dL_law_344 rfl rfl ?_
  refine v_iconst (v := 1) hC dL_law_345 (by decide) ?_
  refine v_iadd hC dL_law_346 ?_
  refine v_sld hC hX hb (j := 1) (ix_e (by decide) (by decide) (by decide)) dL_law_347 ?_
  refine cVi1 hC (c_X10_readSegments0 hW hs) yv_X10_readSegments rfl hs.1 mw_2_189 ⟨Nat.le_of_ble_eq_true rfl, Nat.le_of_ble_eq_true rfl⟩ ⟨Nat.le_of_ble_eq_true rfl, Nat.le_of_ble_eq_true rfl⟩ (Nat.le_of_ble_eq_true rfl) dL_law_348 (fun r348 M351 hq => ?_)
  obtain ⟨rfl, hm⟩ := hq
  have hm2 := hm.symm
  clear hm
  subst hm2
  refine v_aload_n hC dL_law_351 rfl rfl ?_
  refine v_aload_n hC dL_law_352 rfl rfl ?_
  refine v_iload_n hC dL_law_353 rfl rfl ?_
  refine v_iconst (v := 1) hC dL_law_354 (by decide) ?_
  refine v_iadd hC dL_law_355 ?_
  refine v_sld hC hX hb (j := 1) (ix_e (by decide) (by decide) (by decide)) dL_law_356 ?_
  refine cVi1 hC (c_X11_readSegments0 hW hsN) yv_X11_readSegments rfl hsN.1 mw_4_226 ⟨Nat.le_of_ble_eq_true rfl, Nat.le_of_ble_eq_true rfl⟩ ⟨Nat.le_of_ble_eq_true rfl, Nat.le_of_ble_eq_true rfl⟩ (Nat.le_of_ble_eq_true rfl) dL_law_357 (fun r357 M360 hq => ?_)
  obtain ⟨rfl, -⟩ := hq
  refine v_icmp_eq hC dL_law_360 (tgt := 1100) (by decide) (fun _ => ?_) (fun h => absurd rfl h)
  exact lw_exit hC hlo hX hb
set_option maxHeartbeats 4000000 in
theorem lw_c7 {p : Program} {l : Launch} {e : Env} {s : State} {m : MethodId} {below : List Frame} {meth : Method} {c : Code} {G : Gd} {M : Me} {nm : String} {b h1 h2 : Nat} {xs : Nat → Int32} (hC : Cx p m c s #[.ref b] meth cL_law 4 "MatchBureauLaw" nm ret G) (hlo : g_lo G = s.heap.size) (hX : va_X b 4 xs s (g_H G)) (hb : b < g_lo G) (hW : Wt M) (hs : Fs M h1) (hsN : FsN M h2) : V p l e room_1 s m #[.ref b] below meth c 4 G (lw_Z below #[.ref b] s) M 600 14296 365 [some (.ref b), some (.ref h1), some (.ref h2), some (.int 0)] [] := by
  refine v_aload_n hC dL_law_365 rfl rfl ?_
  refine v_aload_n hC dL_law_366 rfl rfl ?_
  refine v_iload_n hC dL_law_367 rfl rfl ?_
  refine v_iconst (v := 1) hC dL_law_368 (by decide) ?_
  refine v_iadd hC dL_law_369 ?_
  refine v_sld hC hX hb (j := 1) (ix_e (by decide) (by decide) (by decide)) dL_law_370 ?_
  refine cVi1 hC (c_X10_remember0 hW hs) yv_X10_remember rfl hs.1 mw_2_222 ⟨Nat.le_of_ble_eq_true rfl, Nat.le_of_ble_eq_true rfl⟩ ⟨Nat.le_of_ble_eq_true rfl, Nat.le_of_ble_eq_true rfl⟩ (Nat.le_of_ble_eq_true rfl) dL_law_371 (fun r371 M374 hq => ?_)
  obtain ⟨rfl, hm⟩ := hq
  have hm2 := hm.symm
  clear hm
  subst hm2
  refine v_aload_n hC dL_law_374 rfl rfl ?_
  refine v_aload_n hC dL_law_375 rfl rfl ?_
  refine v_iload_n hC dL_law_376 rfl rfl ?_
  refine v_iconst (v := 1) hC dL_law_377 (by decide) ?_
  refine v_iadd hC dL_law_378 ?_
  refine v_sld hC hX hb (j := 1) (ix_e (by decide) (by decide) (by decide)) dL_law_379 ?_
  refine cVi1 hC (c_X11_remember0 hW hsN) yv_X11_remember rfl hsN.1 mw_5_27 ⟨Nat.le_of_ble_eq_true rfl, Nat.le_of_ble_eq_true rfl⟩ ⟨Nat.le_of_ble_eq_true rfl, Nat.le_of_ble_eq_true rfl⟩ (Nat.le_of_ble_eq_true rfl) dL_law_380 (fun r380 M383 hq => ?_)
  obtain ⟨rfl, -⟩ := hq
  refine v_icmp_eq hC dL_law_383 (tgt := 1100) (by decide) (fun _ => ?_) (fun h => absurd rfl h)
  exact lw_exit hC hlo hX hb
set_option maxHeartbeats 4000000 in
theorem lw_c8 {p : Program} {l : Launch} {e : Env} {s : State} {m : MethodId} {below : List Frame} {meth : Method} {c : Code} {G : Gd} {M : Me} {nm : String} {b h1 h2 : Nat} {xs : Nat → Int32} (hC : Cx p m c s #[.ref b] meth cL_law 4 "MatchBureauLaw" nm ret G) (hlo : g_lo G = s.heap.size) (hX : va_X b 4 xs s (g_H G)) (hb : b < g_lo G) (hW : Wt M) (hs : Fs M h1) (hsN : FsN M h2) : V p l e room_1 s m #[.ref b] below meth c 4 G (lw_Z below #[.ref b] s) M 600 14296 388 [some (.ref b), some (.ref h1), some (.ref h2), some (.int 0)] [] := by
  refine v_aload_n hC dL_law_388 rfl rfl ?_
  refine v_aload_n hC dL_law_389 rfl rfl ?_
  refine v_iload_n hC dL_law_390 rfl rfl ?_
  refine v_iconst (v := 1) hC dL_law_391 (by decide) ?_
  refine v_iadd hC dL_law_392 ?_
  refine v_sld hC hX hb (j := 1) (ix_e (by decide) (by decide) (by decide)) dL_law_393 ?_
  refine v_aload_n hC dL_law_394 rfl rfl ?_
  refine v_iload_n hC dL_law_395 rfl rfl ?_
  refine v_iconst (v := 2) hC dL_law_396 (by decide) ?_
  refine v_iadd hC dL_law_397 ?_
  refine v_sld hC hX hb (j := 2) (ix_e (by decide) (by decide) (by decide)) dL_law_398 ?_
  refine cVi2 hC (c_X10_swapFiles0 hW hs) yv_X10_swapFiles rfl hs.1 mw_3_6 ⟨Nat.le_of_ble_eq_true rfl, Nat.le_of_ble_eq_true rfl⟩ ⟨Nat.le_of_ble_eq_true rfl, Nat.le_of_ble_eq_true rfl⟩ (Nat.le_of_ble_eq_true rfl) dL_law_399 (fun r399 M402 hq => ?_)
  obtain ⟨rfl, hm⟩ := hq
  have hm2 := hm.symm
  clear hm
  subst hm2
  refine v_aload_n hC dL_law_402 rfl rfl ?_
  refine v_aload_n hC dL_law_403 rfl rfl ?_
  refine v_iload_n hC dL_law_404 rfl rfl ?_
  refine v_iconst (v := 1) hC dL_law_405 (by decide) ?_
  refine v_iadd hC dL_law_406 ?_
  refine v_sld hC hX hb (j := 1) (ix_e (by decide) (by decide) (by decide)) dL_law_407 ?_
  refine v_aload_n hC dL_law_408 rfl rfl ?_
  refine v_iload_n hC dL_law_409 rfl rfl ?_
  refine v_iconst (v := 2) hC dL_law_410 (by decide) ?_
  refine v_iadd hC dL_law_411 ?_
  refine v_sld hC hX hb (j := 2) (ix_e (by decide) (by decide) (by decide)) dL_law_412 ?_
  refine cVi2 hC (c_X11_swapFiles0 hW hsN) yv_X11_swapFiles rfl hsN.1 mw_5_43 ⟨Nat.le_of_ble_eq_true rfl, Nat.le_of_ble_eq_true rfl⟩ ⟨Nat.le_of_ble_eq_true rfl, Nat.le_of_ble_eq_true rfl⟩ (Nat.le_of_ble_eq_true rfl) dL_law_413 (fun r413 M416 hq => ?_)
  obtain ⟨rfl, -⟩ := hq
  refine v_icmp_eq hC dL_law_416 (tgt := 1100) (by decide) (fun _ => ?_) (fun h => absurd rfl h)
  exact lw_exit hC hlo hX hb
set_option maxHeartbeats 4000000 in
theorem lw_c9 {p : Program} {l : Launch} {e : Env} {s : State} {m : MethodId} {below : List Frame} {meth : Method} {c : Code} {G : Gd} {M : Me} {nm : String} {b h1 h2 : Nat} {xs : Nat → Int32} (hC : Cx p m c s #[.ref b] meth cL_law 4 "MatchBureauLaw" nm ret G) (hlo : g_lo G = s.heap.size) (hX : va_X b 4 xs s (g_H G)) (hb : b < g_lo G) (hW : Wt M) (hs : Fs M h1) (hsN : FsN M h2) : V p l e room_1 s m #[.ref b] below meth c 4 G (lw_Z below #[.ref b] s) M 600 14296 421 [some (.ref b), some (.ref h1), some (.ref h2), some (.int 0)] [] := by
  refine v_aload_n hC dL_law_421 rfl rfl ?_
  refine v_aload_n hC dL_law_422 rfl rfl ?_
  refine v_iload_n hC dL_law_423 rfl rfl ?_
  refine v_iconst (v := 1) hC dL_law_424 (by decide) ?_
  refine v_iadd hC dL_law_425 ?_
  refine v_sld hC hX hb (j := 1) (ix_e (by decide) (by decide) (by decide)) dL_law_426 ?_
  refine cVi1 hC (c_X10_withdraw0 hW hs) yv_X10_withdraw rfl hs.1 mw_3_18 ⟨Nat.le_of_ble_eq_true rfl, Nat.le_of_ble_eq_true rfl⟩ ⟨Nat.le_of_ble_eq_true rfl, Nat.le_of_ble_eq_true rfl⟩ (Nat.le_of_ble_eq_true rfl) dL_law_427 (fun r427 M430 hq => ?_)
  obtain ⟨rfl, hm⟩ := hq
  have hm2 := hm.symm
  clear hm
  subst hm2
  refine v_aload_n hC dL_law_430 rfl rfl ?_
  refine v_aload_n hC dL_law_431 rfl rfl ?_
  refine v_iload_n hC dL_law_432 rfl rfl ?_
  refine v_iconst (v := 1) hC dL_law_433 (by decide) ?_
  refine v_iadd hC dL_law_434 ?_
  refine v_sld hC hX hb (j := 1) (ix_e (by decide) (by decide) (by decide)) dL_law_435 ?_
  refine cVi1 hC (c_X11_withdraw0 hW hsN) yv_X11_withdraw rfl hsN.1 mw_5_55 ⟨Nat.le_of_ble_eq_true rfl, Nat.le_of_ble_eq_true rfl⟩ ⟨Nat.le_of_ble_eq_true rfl, Nat.le_of_ble_eq_true rfl⟩ (Nat.le_of_ble_eq_true rfl) dL_law_436 (fun r436 M439 hq => ?_)
  obtain ⟨rfl, -⟩ := hq
  refine v_icmp_eq hC dL_law_439 (tgt := 1100) (by decide) (fun _ => ?_) (fun h => absurd rfl h)
  exact lw_exit hC hlo hX hb
set_option maxHeartbeats 4000000 in
theorem lw_c10 {p : Program} {l : Launch} {e : Env} {s : State} {m : MethodId} {below : List Frame} {meth : Method} {c : Code} {G : Gd} {M : Me} {nm : String} {b h1 h2 : Nat} {xs : Nat → Int32} (hC : Cx p m c s #[.ref b] meth cL_law 4 "MatchBureauLaw" nm ret G) (hlo : g_lo G = s.heap.size) (hX : va_X b 4 xs s (g_H G)) (hb : b < g_lo G) (hW : Wt M) (hs : Fs M h1) (hsN : FsN M h2) : V p l e room_1 s m #[.ref b] below meth c 4 G (lw_Z below #[.ref b] s) M 600 14296 444 [some (.ref b), some (.ref h1), some (.ref h2), some (.int 0)] [] := by
  refine v_aload_n hC dL_law_444 rfl rfl ?_
  refine v_aload_n hC dL_law_445 rfl rfl ?_
  refine v_iload_n hC dL_law_446 rfl rfl ?_
  refine v_iconst (v := 1) hC dL_law_447 (by decide) ?_
  refine v_iadd hC dL_law_448 ?_
  refine v_sld hC hX hb (j := 1) (ix_e (by decide) (by decide) (by decide)) dL_law_449 ?_
  refine v_aload_n hC dL_law_450 rfl rfl ?_
  refine v_iload_n hC dL_law_451 rfl rfl ?_
  refine v_iconst (v := 2) hC dL_law_452 (by decide) ?_
  refine v_iadd hC dL_law_453 ?_
  refine v_sld hC hX hb (j := 2) (ix_e (by decide) (by decide) (by decide)) dL_law_454 ?_
  refine cVi2 hC (c_X10_take0 hW hs) yv_X10_take rfl hs.1 mw_3_34 ⟨Nat.le_of_ble_eq_true rfl, Nat.le_of_ble_eq_true rfl⟩ ⟨Nat.le_of_ble_eq_true rfl, Nat.le_of_ble_eq_true rfl⟩ (Nat.le_of_ble_eq_true rfl) dL_law_455 (fun r455 M458 hq => ?_)
  obtain ⟨rfl, hm⟩ := hq
  have hm2 := hm.symm
  clear hm
  subst hm2
  refine v_aload_n hC dL_law_458 rfl rfl ?_
  refine v_aload_n hC dL_law_459 rfl rfl ?_
  refine v_iload_n hC dL_law_460 rfl rfl ?_
  refine v_iconst (v := 1) hC dL_law_461 (by decide) ?_
  refine v_iadd hC dL_law_462 ?_
  refine v_sld hC hX hb (j := 1) (ix_e (by decide) (by decide) (by decide)) dL_law_463 ?_
  refine v_aload_n hC dL_law_464 rfl rfl ?_
  refine v_iload_n hC dL_law_465 rfl rfl ?_
  refine v_iconst (v := 2) hC dL_law_466 (by decide) ?_
  refine v_iadd hC dL_law_467 ?_
  refine v_sld hC hX hb (j := 2) (ix_e (by decide) (by decide) (by decide)) dL_law_468 ?_
  refine cVi2 hC (c_X11_take0 hW hsN) yv_X11_take rfl hsN.1 mw_5_72 ⟨Nat.le_of_ble_eq_true rfl, Nat.le_of_ble_eq_true rfl⟩ ⟨Nat.le_of_ble_eq_true rfl, Nat.le_of_ble_eq_true rfl⟩ (Nat.le_of_ble_eq_true rfl) dL_law_469 (fun r469 M472 hq => ?_)
  obtain ⟨rfl, -⟩ := hq
  refine v_icmp_eq hC dL_law_472 (tgt := 1100) (by decide) (fun _ => ?_) (fun h => absurd rfl h)
  exact lw_exit hC hlo hX hb
set_option maxHeartbeats 4000000 in
theorem lw_c11 {p : Program} {l : Launch} {e : Env} {s : State} {m : MethodId} {below : List Frame} {meth : Method} {c : Code} {G : Gd} {M : Me} {nm : String} {b h1 h2 : Nat} {xs : Nat → Int32} (hC : Cx p m c s #[.ref b] meth cL_law 4 "MatchBureauLaw" nm ret G) (hlo : g_lo G = s.heap.size) (hX : va_X b 4 xs s (g_H G)) (hb : b < g_lo G) (hW : Wt M) (hs : Fs M h1) (hsN : FsN M h2) : V p l e room_1 s m #[.ref b] below meth c 4 G (lw_Z below #[.ref b] s) M 600 14296 477 [some (.ref b), some (.ref h1), some (.ref h2), some (.int 0)] [] := by
  refine v_aload_n hC dL_law_477 rfl rfl ?_
  refine v_aload_n hC dL_law_478 rfl rfl ?_
  refine v_iload_n hC dL_law_479 rfl rfl ?_
  refine v_iconst (v := 1) hC dL_law_480 (by decide) ?_
  refine v_iadd hC dL_law_481 ?_
  refine v_sld hC hX hb (j := 1) (ix_e (by decide) (by decide) (by decide)) dL_law_482 ?_
  refine v_aload_n hC dL_law_483 rfl rfl ?_
  refine v_iload_n hC dL_law_484 rfl rfl ?_
  refine v_iconst (v := 2) hC dL_law_485 (by decide) ?_
  refine v_iadd hC dL_law_486 ?_
  refine v_sld hC hX hb (j := 2) (ix_e (by decide) (by decide) (by decide)) dL_law_487 ?_
  refine v_aload_n hC dL_law_488 rfl rfl ?_
  refine v_iload_n hC dL_law_489 rfl rfl ?_
  refine v_iconst (v := 3) hC dL_law_490 (by decide) ?_
  refine v_iadd hC dL_law_491 ?_
  refine v_sld hC hX hb (j := 3) (ix_e (by decide) (by decide) (by decide)) dL_law_492 ?_
  refine cVi3 hC (c_X10_translate0 hW hs) yv_X10_translate rfl hs.1 mw_3_89 ⟨Nat.le_of_ble_eq_true rfl, Nat.le_of_ble_eq_true rfl⟩ ⟨Nat.le_of_ble_eq_true rfl, Nat.le_of_ble_eq_true rfl⟩ (Nat.le_of_ble_eq_true rfl) dL_law_493 (fun r493 M496 hq => ?_)
  obtain ⟨rfl, hm⟩ := hq
  have hm2 := hm.symm
  clear hm
  subst hm2
  refine v_aload_n hC dL_law_496 rfl rfl ?_
  refine v_aload_n hC dL_law_497 rfl rfl ?_
  refine v_iload_n hC dL_law_498 rfl rfl ?_
  refine v_iconst (v := 1) hC dL_law_499 (by decide) ?_
  refine v_iadd hC dL_law_500 ?_
  refine v_sld hC hX hb (j := 1) (ix_e (by decide) (by decide) (by decide)) dL_law_501 ?_
  refine v_aload_n hC dL_law_502 rfl rfl ?_
  refine v_iload_n hC dL_law_503 rfl rfl ?_
  refine v_iconst (v := 2) hC dL_law_504 (by decide) ?_
  refine v_iadd hC dL_law_505 ?_
  refine v_sld hC hX hb (j := 2) (ix_e (by decide) (by decide) (by decide)) dL_law_506 ?_
  refine v_aload_n hC dL_law_507 rfl rfl ?_
  refine v_iload_n hC dL_law_508 rfl rfl ?_
  refine v_iconst (v := 3) hC dL_law_509 (by decide) ?_
  refine v_iadd hC dL_law_510 ?_
  refine v_sld hC hX hb (j := 3) (ix_e (by decide) (by decide) (by decide)) dL_law_511 ?_
  refine cVi3 hC (c_X11_translate0 hW hsN) yv_X11_translate rfl hsN.1 mw_5_119 ⟨Nat.le_of_ble_eq_true rfl, Nat.le_of_ble_eq_true rfl⟩ ⟨Nat.le_of_ble_eq_true rfl, Nat.le_of_ble_eq_true rfl⟩ (Nat.le_of_ble_eq_true rfl) dL_law_512 (fun r512 M515 hq => ?_)
  obtain ⟨rfl, -⟩ := hq
  refine v_icmp_eq hC dL_law_515 (tgt := 1100) (by decide) (fun _ => ?_) (fun h => absurd rfl h)
  exact lw_exit hC hlo hX hb
set_option maxHeartbeats 4000000 in
theorem lw_c12 {p : Program} {l : Launch} {e : Env} {s : State} {m : MethodId} {below : List Frame} {meth : Method} {c : Code} {G : Gd} {M : Me} {nm : String} {b h1 h2 : Nat} {xs : Nat → Int32} (hC : Cx p m c s #[.ref b] meth cL_law 4 "MatchBureauLaw" nm ret G) (hlo : g_lo G = s.heap.size) (hX : va_X b 4 xs s (g_H G)) (hb : b < g_lo G) (hW : Wt M) (hs : Fs M h1) (hsN : FsN M h2) : V p l e room_1 s m #[.ref b] below meth c 4 G (lw_Z below #[.ref b] s) M 600 14296 520 [some (.ref b), some (.ref h1), some (.ref h2), some (.int 0)] [] := by
  refine v_aload_n hC dL_law_520 rfl rfl ?_
  refine v_aload_n hC dL_law_521 rfl rfl ?_
  refine v_iload_n hC dL_law_522 rfl rfl ?_
  refine v_iconst (v := 1) hC dL_law_523 (by decide) ?_
  refine v_iadd hC dL_law_524 ?_
  refine v_sld hC hX hb (j := 1) (ix_e (by decide) (by decide) (by decide)) dL_law_525 ?_
  refine v_aload_n hC dL_law_526 rfl rfl ?_
  refine v_iload_n hC dL_law_527 rfl rfl ?_
  refine v_iconst (v := 2) hC dL_law_528 (by decide) ?_
  refine v_iadd hC dL_law_529 ?_
  refine v_sld hC hX hb (j := 2) (ix_e (by decide) (by decide) (by decide)) dL_law_530 ?_
  refine cVi2 hC (c_X10_review0 hW hs) yv_X10_review rfl hs.1 mw_3_132 ⟨Nat.le_of_ble_eq_true rfl, Nat.le_of_ble_eq_true rfl⟩ ⟨Nat.le_of_ble_eq_true rfl, Nat.le_of_ble_eq_true rfl⟩ (Nat.le_of_ble_eq_true rfl) dL_law_531 (fun r531 M534 hq => ?_)
  obtain ⟨rfl, hm⟩ := hq
  have hm2 := hm.symm
  clear hm
  subst hm2
  refine v_aload_n hC dL_law_534 rfl rfl ?_
  refine v_aload_n hC dL_law_535 rfl rfl ?_
  refine v_iload_n hC dL_law_536 rfl rfl ?_
  refine v_iconst (v := 1) hC dL_law_537 (by decide) ?_
  refine v_iadd hC dL_law_538 ?_
  refine v_sld hC hX hb (j := 1) (ix_e (by decide) (by decide) (by decide)) dL_law_539 ?_
  refine v_aload_n hC dL_law_540 rfl rfl ?_
  refine v_iload_n hC dL_law_541 rfl rfl ?_
  refine v_iconst (v := 2) hC dL_law_542 (by decide) ?_
  refine v_iadd hC dL_law_543 ?_
  refine v_sld hC hX hb (j := 2) (ix_e (by decide) (by decide) (by decide)) dL_law_544 ?_
  refine cVi2 hC (c_X11_review0 hW hsN) yv_X11_review rfl hsN.1 mw_5_147 ⟨Nat.le_of_ble_eq_true rfl, Nat.le_of_ble_eq_true rfl⟩ ⟨Nat.le_of_ble_eq_true rfl, Nat.le_of_ble_eq_true rfl⟩ (Nat.le_of_ble_eq_true rfl) dL_law_545 (fun r545 M548 hq => ?_)
  obtain ⟨rfl, -⟩ := hq
  refine v_icmp_eq hC dL_law_548 (tgt := 1100) (by decide) (fun _ => ?_) (fun h => absurd rfl h)
  exact lw_exit hC hlo hX hb
set_option maxHeartbeats 4000000 in
theorem lw_c13 {p : Program} {l : Launch} {e : Env} {s : State} {m : MethodId} {below : List Frame} {meth : Method} {c : Code} {G : Gd} {M : Me} {nm : String} {b h1 h2 : Nat} {xs : Nat → Int32} (hC : Cx p m c s #[.ref b] meth cL_law 4 "MatchBureauLaw" nm ret G) (hlo : g_lo G = s.heap.size) (hX : va_X b 4 xs s (g_H G)) (hb : b < g_lo G) (hW : Wt M) (hs : Fs M h1) (hsN : FsN M h2) : V p l e room_1 s m #[.ref b] below meth c 4 G (lw_Z below #[.ref b] s) M 600 14296 553 [some (.ref b), some (.ref h1), some (.ref h2), some (.int 0)] [] := by
  refine v_aload_n hC dL_law_553 rfl rfl ?_
  refine v_aload_n hC dL_law_554 rfl rfl ?_
  refine v_iload_n hC dL_law_555 rfl rfl ?_
  refine v_iconst (v := 1) hC dL_law_556 (by decide) ?_
  refine v_iadd hC dL_law_557 ?_
  refine v_sld hC hX hb (j := 1) (ix_e (by decide) (by decide) (by decide)) dL_law_558 ?_
  refine v_aload_n hC dL_law_559 rfl rfl ?_
  refine v_iload_n hC dL_law_560 rfl rfl ?_
  refine v_iconst (v := 2) hC dL_law_561 (by decide) ?_
  refine v_iadd hC dL_law_562 ?_
  refine v_sld hC hX hb (j := 2) (ix_e (by decide) (by decide) (by decide)) dL_law_563 ?_
  refine cVi2 hC (c_X10_reject0 hW hs) yv_X10_reject rfl hs.1 mw_3_155 ⟨Nat.le_of_ble_eq_true rfl, Nat.le_of_ble_eq_true rfl⟩ ⟨Nat.le_of_ble_eq_true rfl, Nat.le_of_ble_eq_true rfl⟩ (Nat.le_of_ble_eq_true rfl) dL_law_564 (fun r564 M567 hq => ?_)
  obtain ⟨rfl, hm⟩ := hq
  have hm2 := hm.symm
  clear hm
  subst hm2
  refine v_aload_n hC dL_law_567 rfl rfl ?_
  refine v_aload_n hC dL_law_568 rfl rfl ?_
  refine v_iload_n hC dL_law_569 rfl rfl ?_
  refine v_iconst (v := 1) hC dL_law_570 (by decide) ?_
  refine v_iadd hC dL_law_571 ?_
  refine v_sld hC hX hb (j := 1) (ix_e (by decide) (by decide) (by decide)) dL_law_572 ?_
  refine v_aload_n hC dL_law_573 rfl rfl ?_
  refine v_iload_n hC dL_law_574 rfl rfl ?_
  refine v_iconst (v := 2) hC dL_law_575 (by decide) ?_
  refine v_iadd hC dL_law_576 ?_
  refine v_sld hC hX hb (j := 2) (ix_e (by decide) (by decide) (by decide)) dL_law_577 ?_
  refine cVi2 hC (c_X11_reject0 hW hsN) yv_X11_reject rfl hsN.1 mw_5_164 ⟨Nat.le_of_ble_eq_true rfl, Nat.le_of_ble_eq_true rfl⟩ ⟨Nat.le_of_ble_eq_true rfl, Nat.le_of_ble_eq_true rfl⟩ (Nat.le_of_ble_eq_true rfl) dL_law_578 (fun r578 M581 hq => ?_)
  obtain ⟨rfl, -⟩ := hq
  refine v_icmp_eq hC dL_law_581 (tgt := 1100) (by decide) (fun _ => ?_) (fun h => absurd rfl h)
  exact lw_exit hC hlo hX hb
set_option maxHeartbeats 4000000 in
theorem lw_c14 {p : Program} {l : Launch} {e : Env} {s : State} {m : MethodId} {below : List Frame} {meth : Method} {c : Code} {G : Gd} {M : Me} {nm : String} {b h1 h2 : Nat} {xs : Nat → Int32} (hC : Cx p m c s #[.ref b] meth cL_law 4 "MatchBureauLaw" nm ret G) (hlo : g_lo G = s.heap.size) (hX : va_X b 4 xs s (g_H G)) (hb : b < g_lo G) (hW : Wt M) (hs : Fs M h1) (hsN : FsN M h2) : V p l e room_1 s m #[.ref b] below meth c 4 G (lw_Z below #[.ref b] s) M 600 14296 586 [some (.ref b), some (.ref h1), some (.ref h2), some (.int 0)] [] := by
  refine v_aload_n hC dL_law_586 rfl rfl ?_
  refine v_aload_n hC dL_law_587 rfl rfl ?_
  refine v_iload_n hC dL_law_588 rfl rfl ?_
  refine v_iconst (v := 1) hC dL_law_589 (by decide) ?_
  refine v_iadd hC dL_law_590 ?_
  refine v_sld hC hX hb (j := 1) (ix_e (by decide) (by decide) (by decide)) dL_law_591 ?_
  refine cVi1 hC (c_X10_deliver0 hW hs) yv_X10_deliver rfl hs.1 mw_3_159 ⟨Nat.le_of_ble_eq_true rfl, Nat.le_of_ble_eq_true rfl⟩ ⟨Nat.le_of_ble_eq_true rfl, Nat.le_of_ble_eq_true rfl⟩ (Nat.le_of_ble_eq_true rfl) dL_law_592 (fun r592 M595 hq => ?_)
  obtain ⟨rfl, hm⟩ := hq
  have hm2 := hm.symm
  clear hm
  subst hm2
  refine v_aload_n hC dL_law_595 rfl rfl ?_
  refine v_aload_n hC dL_law_596 rfl rfl ?_
  refine v_iload_n hC dL_law_597 rfl rfl ?_
  refine v_iconst (v := 1) hC dL_law_598 (by decide) ?_
  refine v_iadd hC dL_law_599 ?_
  refine v_sld hC hX hb (j := 1) (ix_e (by decide) (by decide) (by decide)) dL_law_600 ?_
  refine cVi1 hC (c_X11_deliver0 hW hsN) yv_X11_deliver rfl hsN.1 mw_5_168 ⟨Nat.le_of_ble_eq_true rfl, Nat.le_of_ble_eq_true rfl⟩ ⟨Nat.le_of_ble_eq_true rfl, Nat.le_of_ble_eq_true rfl⟩ (Nat.le_of_ble_eq_true rfl) dL_law_601 (fun r601 M604 hq => ?_)
  obtain ⟨rfl, -⟩ := hq
  refine v_icmp_eq hC dL_law_604 (tgt := 1100) (by decide) (fun _ => ?_) (fun h => absurd rfl h)
  exact lw_exit hC hlo hX hb
set_option maxHeartbeats 4000000 in
theorem lw_c15 {p : Program} {l : Launch} {e : Env} {s : State} {m : MethodId} {below : List Frame} {meth : Method} {c : Code} {G : Gd} {M : Me} {nm : String} {b h1 h2 : Nat} {xs : Nat → Int32} (hC : Cx p m c s #[.ref b] meth cL_law 4 "MatchBureauLaw" nm ret G) (hlo : g_lo G = s.heap.size) (hX : va_X b 4 xs s (g_H G)) (hb : b < g_lo G) (hW : Wt M) (hs : Fs M h1) (hsN : FsN M h2) : V p l e room_1 s m #[.ref b] below meth c 4 G (lw_Z below #[.ref b] s) M 600 14296 609 [some (.ref b), some (.ref h1), some (.ref h2), some (.int 0)] [] := by
  refine v_aload_n hC dL_law_609 rfl rfl ?_
  refine v_aload_n hC dL_law_610 rfl rfl ?_
  refine v_iload_n hC dL_law_611 rfl rfl ?_
  refine v_iconst (v := 1) hC dL_law_612 (by decide) ?_
  refine v_iadd hC dL_law_613 ?_
  refine v_sld hC hX hb (j := 1) (ix_e (by decide) (by decide) (by decide)) dL_law_614 ?_
  refine v_aload_n hC dL_law_615 rfl rfl ?_
  refine v_iload_n hC dL_law_616 rfl rfl ?_
  refine v_iconst (v := 2) hC dL_law_617 (by decide) ?_
  refine v_iadd hC dL_law_618 ?_
  refine v_sld hC hX hb (j := 2) (ix_e (by decide) (by decide) (by decide)) dL_law_619 ?_
  refine cVi2 hC (c_X10_settle0 hW hs) yv_X10_settle rfl hs.1 mw_3_175 ⟨Nat.le_of_ble_eq_true rfl, Nat.le_of_ble_eq_true rfl⟩ ⟨Nat.le_of_ble_eq_true rfl, Nat.le_of_ble_eq_true rfl⟩ (Nat.le_of_ble_eq_true rfl) dL_law_620 (fun r620 M623 hq => ?_)
  obtain ⟨rfl, hm⟩ := hq
  have hm2 := hm.symm
  clear hm
  subst hm2
  refine v_aload_n hC dL_law_623 rfl rfl ?_
  refine v_aload_n hC dL_law_624 rfl rfl ?_
  refine v_iload_n hC dL_law_625 rfl rfl ?_
  refine v_iconst (v := 1) hC dL_law_626 (by decide) ?_
  refine v_iadd hC dL_law_627 ?_
  refine v_sld hC hX hb (j := 1) (ix_e (by decide) (by decide) (by decide)) dL_law_628 ?_
  refine v_aload_n hC dL_law_629 rfl rfl ?_
  refine v_iload_n hC dL_law_630 rfl rfl ?_
  refine v_iconst (v := 2) hC dL_law_631 (by decide) ?_
  refine v_iadd hC dL_law_632 ?_
  refine v_sld hC hX hb (j := 2) (ix_e (by decide) (by decide) (by decide)) dL_law_633 ?_
  refine cVi2 hC (c_X11_settle0 hW hsN) yv_X11_settle rfl hsN.1 mw_5_181 ⟨Nat.le_of_ble_eq_true rfl, Nat.le_of_ble_eq_true rfl⟩ ⟨Nat.le_of_ble_eq_true rfl, Nat.le_of_ble_eq_true rfl⟩ (Nat.le_of_ble_eq_true rfl) dL_law_634 (fun r634 M637 hq => ?_)
  obtain ⟨rfl, -⟩ := hq
  refine v_icmp_eq hC dL_law_637 (tgt := 1100) (by decide) (fun _ => ?_) (fun h => absurd rfl h)
  exact lw_exit hC hlo hX hb
set_option maxHeartbeats 4000000 in
theorem lw_c16 {p : Program} {l : Launch} {e : Env} {s : State} {m : MethodId} {below : List Frame} {meth : Method} {c : Code} {G : Gd} {M : Me} {nm : String} {b h1 h2 : Nat} {xs : Nat → Int32} (hC : Cx p m c s #[.ref b] meth cL_law 4 "MatchBureauLaw" nm ret G) (hlo : g_lo G = s.heap.size) (hX : va_X b 4 xs s (g_H G)) (hb : b < g_lo G) (hW : Wt M) (hs : Fs M h1) (hsN : FsN M h2) : V p l e room_1 s m #[.ref b] below meth c 4 G (lw_Z below #[.ref b] s) M 600 14296 642 [some (.ref b), some (.ref h1), some (.ref h2), some (.int 0)] [] := by
  refine v_aload_n hC dL_law_642 rfl rfl ?_
  refine cVi0 hC (c_X10_undo0 hW hs) yv_X10_undo rfl hs.1 mw_3_193 ⟨Nat.le_of_ble_eq_true rfl, Nat.le_of_ble_eq_true rfl⟩ ⟨Nat.le_of_ble_eq_true rfl, Nat.le_of_ble_eq_true rfl⟩ (Nat.le_of_ble_eq_true rfl) dL_law_643 (fun r643 M646 hq => ?_)
  obtain ⟨rfl, hm⟩ := hq
  have hm2 := hm.symm
  clear hm
  subst hm2
  refine v_aload_n hC dL_law_646 rfl rfl ?_
  refine cVi0 hC (c_X11_undo0 hW hsN) yv_X11_undo rfl hsN.1 mw_4_157 ⟨Nat.le_of_ble_eq_true rfl, Nat.le_of_ble_eq_true rfl⟩ ⟨Nat.le_of_ble_eq_true rfl, Nat.le_of_ble_eq_true rfl⟩ (Nat.le_of_ble_eq_true rfl) dL_law_647 (fun r647 M650 hq => ?_)
  obtain ⟨rfl, -⟩ := hq
  refine v_icmp_eq hC dL_law_650 (tgt := 1100) (by decide) (fun _ => ?_) (fun h => absurd rfl h)
  exact lw_exit hC hlo hX hb
set_option maxHeartbeats 4000000 in
theorem lw_c17 {p : Program} {l : Launch} {e : Env} {s : State} {m : MethodId} {below : List Frame} {meth : Method} {c : Code} {G : Gd} {M : Me} {nm : String} {b h1 h2 : Nat} {xs : Nat → Int32} (hC : Cx p m c s #[.ref b] meth cL_law 4 "MatchBureauLaw" nm ret G) (hlo : g_lo G = s.heap.size) (hX : va_X b 4 xs s (g_H G)) (hb : b < g_lo G) (hW : Wt M) (hs : Fs M h1) (hsN : FsN M h2) : V p l e room_1 s m #[.ref b] below meth c 4 G (lw_Z below #[.ref b] s) M 600 14296 655 [some (.ref b), some (.ref h1), some (.ref h2), some (.int 0)] [] := by
  refine v_aload_n hC dL_law_655 rfl rfl ?_
  refine cVi0 hC (c_X10_keep0 hW hs) yv_X10_keep rfl hs.1 mw_3_201 ⟨Nat.le_of_ble_eq_true rfl, Nat.le_of_ble_eq_true rfl⟩ ⟨Nat.le_of_ble_eq_true rfl, Nat.le_of_ble_eq_true rfl⟩ (Nat.le_of_ble_eq_true rfl) dL_law_656 (fun r656 M659 hq => ?_)
  obtain ⟨rfl, ho⟩ := hq
  have hW2 : Wt M659 := hW.fx ho.1
  have hsN2 : FsN M659 h2 := hsN.mo ho
  refine v_aload_n hC dL_law_659 rfl rfl ?_
  refine cVi0 hC (c_X11_keep0 hW2 hsN2) yv_X11_keep rfl hsN2.1 mw_4_161 ⟨Nat.le_of_ble_eq_true rfl, Nat.le_of_ble_eq_true rfl⟩ ⟨Nat.le_of_ble_eq_true rfl, Nat.le_of_ble_eq_true rfl⟩ (Nat.le_of_ble_eq_true rfl) dL_law_660 (fun r660 M663 hq => ?_)
  obtain ⟨rfl, -⟩ := hq
  refine v_icmp_eq hC dL_law_663 (tgt := 1100) (by decide) (fun _ => ?_) (fun h => absurd rfl h)
  exact lw_exit hC hlo hX hb
set_option maxHeartbeats 4000000 in
theorem lw_c18 {p : Program} {l : Launch} {e : Env} {s : State} {m : MethodId} {below : List Frame} {meth : Method} {c : Code} {G : Gd} {M : Me} {nm : String} {b h1 h2 : Nat} {xs : Nat → Int32} (hC : Cx p m c s #[.ref b] meth cL_law 4 "MatchBureauLaw" nm ret G) (hlo : g_lo G = s.heap.size) (hX : va_X b 4 xs s (g_H G)) (hb : b < g_lo G) (hW : Wt M) (hs : Fs M h1) (hsN : FsN M h2) : V p l e room_1 s m #[.ref b] below meth c 4 G (lw_Z below #[.ref b] s) M 600 14296 668 [some (.ref b), some (.ref h1), some (.ref h2), some (.int 0)] [] := by
  refine v_aload_n hC dL_law_668 rfl rfl ?_
  refine cVi0 hC (c_X10_restore0 hW hs) yv_X10_restore rfl hs.1 mw_3_206 ⟨Nat.le_of_ble_eq_true rfl, Nat.le_of_ble_eq_true rfl⟩ ⟨Nat.le_of_ble_eq_true rfl, Nat.le_of_ble_eq_true rfl⟩ (Nat.le_of_ble_eq_true rfl) dL_law_669 (fun r669 M672 hq => ?_)
  obtain ⟨rfl, hm⟩ := hq
  have hm2 := hm.symm
  clear hm
  subst hm2
  refine v_aload_n hC dL_law_672 rfl rfl ?_
  refine cVi0 hC (c_X11_restore0 hW hsN) yv_X11_restore rfl hsN.1 mw_4_169 ⟨Nat.le_of_ble_eq_true rfl, Nat.le_of_ble_eq_true rfl⟩ ⟨Nat.le_of_ble_eq_true rfl, Nat.le_of_ble_eq_true rfl⟩ (Nat.le_of_ble_eq_true rfl) dL_law_673 (fun r673 M676 hq => ?_)
  obtain ⟨rfl, -⟩ := hq
  refine v_icmp_eq hC dL_law_676 (tgt := 1100) (by decide) (fun _ => ?_) (fun h => absurd rfl h)
  exact lw_exit hC hlo hX hb
set_option maxHeartbeats 4000000 in
theorem lw_c19 {p : Program} {l : Launch} {e : Env} {s : State} {m : MethodId} {below : List Frame} {meth : Method} {c : Code} {G : Gd} {M : Me} {nm : String} {b h1 h2 : Nat} {xs : Nat → Int32} (hC : Cx p m c s #[.ref b] meth cL_law 4 "MatchBureauLaw" nm ret G) (hlo : g_lo G = s.heap.size) (hX : va_X b 4 xs s (g_H G)) (hb : b < g_lo G) (hW : Wt M) (hs : Fs M h1) (hsN : FsN M h2) : V p l e room_1 s m #[.ref b] below meth c 4 G (lw_Z below #[.ref b] s) M 600 14296 681 [some (.ref b), some (.ref h1), some (.ref h2), some (.int 0)] [] := by
  refine v_aload_n hC dL_law_681 rfl rfl ?_
  refine v_aload_n hC dL_law_682 rfl rfl ?_
  refine v_iload_n hC dL_law_683 rfl rfl ?_
  refine v_iconst (v := 1) hC dL_law_684 (by decide) ?_
  refine v_iadd hC dL_law_685 ?_
  refine v_sld hC hX hb (j := 1) (ix_e (by decide) (by decide) (by decide)) dL_law_686 ?_
  refine v_aload_n hC dL_law_687 rfl rfl ?_
  refine v_iload_n hC dL_law_688 rfl rfl ?_
  refine v_iconst (v := 2) hC dL_law_689 (by decide) ?_
  refine v_iadd hC dL_law_690 ?_
  refine v_sld hC hX hb (j := 2) (ix_e (by decide) (by decide) (by decide)) dL_law_691 ?_
  refine cVi2 hC (c_X10_person0 hW hs) yv_X10_person rfl hs.1 mw_3_210 ⟨Nat.le_of_ble_eq_true rfl, Nat.le_of_ble_eq_true rfl⟩ ⟨Nat.le_of_ble_eq_true rfl, Nat.le_of_ble_eq_true rfl⟩ (Nat.le_of_ble_eq_true rfl) dL_law_692 (fun r692 M695 hq => ?_)
  obtain ⟨rfl, hm⟩ := hq
  have hm2 := hm.symm
  clear hm
  subst hm2
  refine v_aload_n hC dL_law_695 rfl rfl ?_
  refine v_aload_n hC dL_law_696 rfl rfl ?_
  refine v_iload_n hC dL_law_697 rfl rfl ?_
  refine v_iconst (v := 1) hC dL_law_698 (by decide) ?_
  refine v_iadd hC dL_law_699 ?_
  refine v_sld hC hX hb (j := 1) (ix_e (by decide) (by decide) (by decide)) dL_law_700 ?_
  refine v_aload_n hC dL_law_701 rfl rfl ?_
  refine v_iload_n hC dL_law_702 rfl rfl ?_
  refine v_iconst (v := 2) hC dL_law_703 (by decide) ?_
  refine v_iadd hC dL_law_704 ?_
  refine v_sld hC hX hb (j := 2) (ix_e (by decide) (by decide) (by decide)) dL_law_705 ?_
  refine cVi2 hC (c_X11_person0 hW hsN) yv_X11_person rfl hsN.1 mw_5_193 ⟨Nat.le_of_ble_eq_true rfl, Nat.le_of_ble_eq_true rfl⟩ ⟨Nat.le_of_ble_eq_true rfl, Nat.le_of_ble_eq_true rfl⟩ (Nat.le_of_ble_eq_true rfl) dL_law_706 (fun r706 M709 hq => ?_)
  obtain ⟨rfl, -⟩ := hq
  refine v_icmp_eq hC dL_law_709 (tgt := 1100) (by decide) (fun _ => ?_) (fun h => absurd rfl h)
  exact lw_exit hC hlo hX hb
set_option maxHeartbeats 4000000 in
theorem lw_c20 {p : Program} {l : Launch} {e : Env} {s : State} {m : MethodId} {below : List Frame} {meth : Method} {c : Code} {G : Gd} {M : Me} {nm : String} {b h1 h2 : Nat} {xs : Nat → Int32} (hC : Cx p m c s #[.ref b] meth cL_law 4 "MatchBureauLaw" nm ret G) (hlo : g_lo G = s.heap.size) (hX : va_X b 4 xs s (g_H G)) (hb : b < g_lo G) (hW : Wt M) (hs : Fs M h1) (hsN : FsN M h2) : V p l e room_1 s m #[.ref b] below meth c 4 G (lw_Z below #[.ref b] s) M 600 14296 714 [some (.ref b), some (.ref h1), some (.ref h2), some (.int 0)] [] := by
  refine v_aload_n hC dL_law_714 rfl rfl ?_
  refine v_aload_n hC dL_law_715 rfl rfl ?_
  refine v_iload_n hC dL_law_716 rfl rfl ?_
  refine v_iconst (v := 1) hC dL_law_717 (by decide) ?_
  refine v_iadd hC dL_law_718 ?_
  refine v_sld hC hX hb (j := 1) (ix_e (by decide) (by decide) (by decide)) dL_law_719 ?_
  refine v_aload_n hC dL_law_720 rfl rfl ?_
  refine v_iload_n hC dL_law_721 rfl rfl ?_
  refine v_iconst (v := 2) hC dL_law_722 (by decide) ?_
  refine v_iadd hC dL_law_723 ?_
  refine v_sld hC hX hb (j := 2) (ix_e (by decide) (by decide) (by decide)) dL_law_724 ?_
  refine cVi2 hC (c_X10_file0 hW hs) yv_X10_file rfl hs.1 mw_4_4 ⟨Nat.le_of_ble_eq_true rfl, Nat.le_of_ble_eq_true rfl⟩ ⟨Nat.le_of_ble_eq_true rfl, Nat.le_of_ble_eq_true rfl⟩ (Nat.le_of_ble_eq_true rfl) dL_law_725 (fun r725 M728 hq => ?_)
  obtain ⟨rfl, hm⟩ := hq
  have hm2 := hm.symm
  clear hm
  subst hm2
  refine v_aload_n hC dL_law_728 rfl rfl ?_
  refine v_aload_n hC dL_law_729 rfl rfl ?_
  refine v_iload_n hC dL_law_730 rfl rfl ?_
  refine v_iconst (v := 1) hC dL_law_731 (by decide) ?_
  refine v_iadd hC dL_law_732 ?_
  refine v_sld hC hX hb (j := 1) (ix_e (by decide) (by decide) (by decide)) dL_law_733 ?_
  refine v_aload_n hC dL_law_734 rfl rfl ?_
  refine v_iload_n hC dL_law_735 rfl rfl ?_
  refine v_iconst (v := 2) hC dL_law_736 (by decide) ?_
  refine v_iadd hC dL_law_737 ?_
  refine v_sld hC hX hb (j := 2) (ix_e (by decide) (by decide) (by decide)) dL_law_738 ?_
  refine cVi2 hC (c_X11_file0 hW hsN) yv_X11_file rfl hsN.1 mw_5_201 ⟨Nat.le_of_ble_eq_true rfl, Nat.le_of_ble_eq_true rfl⟩ ⟨Nat.le_of_ble_eq_true rfl, Nat.le_of_ble_eq_true rfl⟩ (Nat.le_of_ble_eq_true rfl) dL_law_739 (fun r739 M742 hq => ?_)
  obtain ⟨rfl, -⟩ := hq
  refine v_icmp_eq hC dL_law_742 (tgt := 1100) (by decide) (fun _ => ?_) (fun h => absurd rfl h)
  exact lw_exit hC hlo hX hb
set_option maxHeartbeats 4000000 in
theorem lw_c21 {p : Program} {l : Launch} {e : Env} {s : State} {m : MethodId} {below : List Frame} {meth : Method} {c : Code} {G : Gd} {M : Me} {nm : String} {b h1 h2 : Nat} {xs : Nat → Int32} (hC : Cx p m c s #[.ref b] meth cL_law 4 "MatchBureauLaw" nm ret G) (hlo : g_lo G = s.heap.size) (hX : va_X b 4 xs s (g_H G)) (hb : b < g_lo G) (hW : Wt M) (hs : Fs M h1) (hsN : FsN M h2) : V p l e room_1 s m #[.ref b] below meth c 4 G (lw_Z below #[.ref b] s) M 600 14296 747 [some (.ref b), some (.ref h1), some (.ref h2), some (.int 0)] [] := by
  refine v_aload_n hC dL_law_747 rfl rfl ?_
  refine v_aload_n hC dL_law_748 rfl rfl ?_
  refine v_iload_n hC dL_law_749 rfl rfl ?_
  refine v_iconst (v := 1) hC dL_law_750 (by decide) ?_
  refine v_iadd hC dL_law_751 ?_
  refine v_sld hC hX hb (j := 1) (ix_e (by decide) (by decide) (by decide)) dL_law_752 ?_
  refine v_aload_n hC dL_law_753 rfl rfl ?_
  refine v_iload_n hC dL_law_754 rfl rfl ?_
  refine v_iconst (v := 2) hC dL_law_755 (by decide) ?_
  refine v_iadd hC dL_law_756 ?_
  refine v_sld hC hX hb (j := 2) (ix_e (by decide) (by decide) (by decide)) dL_law_757 ?_
  refine v_aload_n hC dL_law_758 rfl rfl ?_
  refine v_iload_n hC dL_law_759 rfl rfl ?_
  refine v_iconst (v := 3) hC dL_law_760 (by decide) ?_
  refine v_iadd hC dL_law_761 ?_
  refine v_sld hC hX hb (j := 3) (ix_e (by decide) (by decide) (by decide)) dL_law_762 ?_
  refine cVi3 hC (c_X10_segment0 hW hs) yv_X10_segment rfl hs.1 mw_4_9 ⟨Nat.le_of_ble_eq_true rfl, Nat.le_of_ble_eq_true rfl⟩ ⟨Nat.le_of_ble_eq_true rfl, Nat.le_of_ble_eq_true rfl⟩ (Nat.le_of_ble_eq_true rfl) dL_law_763 (fun r763 M766 hq => ?_)
  obtain ⟨rfl, hm⟩ := hq
  have hm2 := hm.symm
  clear hm
  subst hm2
  refine v_aload_n hC dL_law_766 rfl rfl ?_
  refine v_aload_n hC dL_law_767 rfl rfl ?_
  refine v_iload_n hC dL_law_768 rfl rfl ?_
  refine v_iconst (v := 1) hC dL_law_769 (by decide) ?_
  refine v_iadd hC dL_law_770 ?_
  refine v_sld hC hX hb (j := 1) (ix_e (by decide) (by decide) (by decide)) dL_law_771 ?_
  refine v_aload_n hC dL_law_772 rfl rfl ?_
  refine v_iload_n hC dL_law_773 rfl rfl ?_
  refine v_iconst (v := 2) hC dL_law_774 (by decide) ?_
  refine v_iadd hC dL_law_775 ?_
  refine v_sld hC hX hb (j := 2) (ix_e (by decide) (by decide) (by decide)) dL_law_776 ?_
  refine v_aload_n hC dL_law_777 rfl rfl ?_
  refine v_iload_n hC dL_law_778 rfl rfl ?_
  refine v_iconst (v := 3) hC dL_law_779 (by decide) ?_
  refine v_iadd hC dL_law_780 ?_
  refine v_sld hC hX hb (j := 3) (ix_e (by decide) (by decide) (by decide)) dL_law_781 ?_
  refine cVi3 hC (c_X11_segment0 hW hsN) yv_X11_segment rfl hsN.1 mw_5_205 ⟨Nat.le_of_ble_eq_true rfl, Nat.le_of_ble_eq_true rfl⟩ ⟨Nat.le_of_ble_eq_true rfl, Nat.le_of_ble_eq_true rfl⟩ (Nat.le_of_ble_eq_true rfl) dL_law_782 (fun r782 M785 hq => ?_)
  obtain ⟨rfl, -⟩ := hq
  refine v_icmp_eq hC dL_law_785 (tgt := 1100) (by decide) (fun _ => ?_) (fun h => absurd rfl h)
  exact lw_exit hC hlo hX hb
set_option maxHeartbeats 4000000 in
theorem lw_c22 {p : Program} {l : Launch} {e : Env} {s : State} {m : MethodId} {below : List Frame} {meth : Method} {c : Code} {G : Gd} {M : Me} {nm : String} {b h1 h2 : Nat} {xs : Nat → Int32} (hC : Cx p m c s #[.ref b] meth cL_law 4 "MatchBureauLaw" nm ret G) (hlo : g_lo G = s.heap.size) (hX : va_X b 4 xs s (g_H G)) (hb : b < g_lo G) (hW : Wt M) (hs : Fs M h1) (hsN : FsN M h2) : V p l e room_1 s m #[.ref b] below meth c 4 G (lw_Z below #[.ref b] s) M 600 14296 790 [some (.ref b), some (.ref h1), some (.ref h2), some (.int 0)] [] := by
  refine v_aload_n hC dL_law_790 rfl rfl ?_
  refine v_aload_n hC dL_law_791 rfl rfl ?_
  refine v_iload_n hC dL_law_792 rfl rfl ?_
  refine v_iconst (v := 1) hC dL_law_793 (by decide) ?_
  refine v_iadd hC dL_law_794 ?_
  refine v_sld hC hX hb (j := 1) (ix_e (by decide) (by decide) (by decide)) dL_law_795 ?_
  refine v_aload_n hC dL_law_796 rfl rfl ?_
  refine v_iload_n hC dL_law_797 rfl rfl ?_
  refine v_iconst (v := 2) hC dL_law_798 (by decide) ?_
  refine v_iadd hC dL_law_799 ?_
  refine v_sld hC hX hb (j := 2) (ix_e (by decide) (by decide) (by decide)) dL_law_800 ?_
  refine v_aload_n hC dL_law_801 rfl rfl ?_
  refine v_iload_n hC dL_law_802 rfl rfl ?_
  refine v_iconst (v := 3) hC dL_law_803 (by decide) ?_
  refine v_iadd hC dL_law_804 ?_
  refine v_sld hC hX hb (j := 3) (ix_e (by decide) (by decide) (by decide)) dL_law_805 ?_
  refine cVi3 hC (c_X10_charAt0 hW hs) yv_X10_charAt rfl hs.1 mw_4_21 ⟨Nat.le_of_ble_eq_true rfl, Nat.le_of_ble_eq_true rfl⟩ ⟨Nat.le_of_ble_eq_true rfl, Nat.le_of_ble_eq_true rfl⟩ (Nat.le_of_ble_eq_true rfl) dL_law_806 (fun r806 M809 hq => ?_)
  obtain ⟨rfl, hm⟩ := hq
  have hm2 := hm.symm
  clear hm
  subst hm2
  refine v_aload_n hC dL_law_809 rfl rfl ?_
  refine v_aload_n hC dL_law_810 rfl rfl ?_
  refine v_iload_n hC dL_law_811 rfl rfl ?_
  refine v_iconst (v := 1) hC dL_law_812 (by decide) ?_
  refine v_iadd hC dL_law_813 ?_
  refine v_sld hC hX hb (j := 1) (ix_e (by decide) (by decide) (by decide)) dL_law_814 ?_
  refine v_aload_n hC dL_law_815 rfl rfl ?_
  refine v_iload_n hC dL_law_816 rfl rfl ?_
  refine v_iconst (v := 2) hC dL_law_817 (by decide) ?_
  refine v_iadd hC dL_law_818 ?_
  refine v_sld hC hX hb (j := 2) (ix_e (by decide) (by decide) (by decide)) dL_law_819 ?_
  refine v_aload_n hC dL_law_820 rfl rfl ?_
  refine v_iload_n hC dL_law_821 rfl rfl ?_
  refine v_iconst (v := 3) hC dL_law_822 (by decide) ?_
  refine v_iadd hC dL_law_823 ?_
  refine v_sld hC hX hb (j := 3) (ix_e (by decide) (by decide) (by decide)) dL_law_824 ?_
  refine cVi3 hC (c_X11_charAt0 hW hsN) yv_X11_charAt rfl hsN.1 mw_5_213 ⟨Nat.le_of_ble_eq_true rfl, Nat.le_of_ble_eq_true rfl⟩ ⟨Nat.le_of_ble_eq_true rfl, Nat.le_of_ble_eq_true rfl⟩ (Nat.le_of_ble_eq_true rfl) dL_law_825 (fun r825 M828 hq => ?_)
  obtain ⟨rfl, -⟩ := hq
  refine v_icmp_eq hC dL_law_828 (tgt := 1100) (by decide) (fun _ => ?_) (fun h => absurd rfl h)
  exact lw_exit hC hlo hX hb
set_option maxHeartbeats 4000000 in
theorem lw_c23 {p : Program} {l : Launch} {e : Env} {s : State} {m : MethodId} {below : List Frame} {meth : Method} {c : Code} {G : Gd} {M : Me} {nm : String} {b h1 h2 : Nat} {xs : Nat → Int32} (hC : Cx p m c s #[.ref b] meth cL_law 4 "MatchBureauLaw" nm ret G) (hlo : g_lo G = s.heap.size) (hX : va_X b 4 xs s (g_H G)) (hb : b < g_lo G) (hW : Wt M) (hs : Fs M h1) (hsN : FsN M h2) : V p l e room_1 s m #[.ref b] below meth c 4 G (lw_Z below #[.ref b] s) M 600 14296 833 [some (.ref b), some (.ref h1), some (.ref h2), some (.int 0)] [] := by
  refine v_aload_n hC dL_law_833 rfl rfl ?_
  refine v_aload_n hC dL_law_834 rfl rfl ?_
  refine v_iload_n hC dL_law_835 rfl rfl ?_
  refine v_iconst (v := 1) hC dL_law_836 (by decide) ?_
  refine v_iadd hC dL_law_837 ?_
  refine v_sld hC hX hb (j := 1) (ix_e (by decide) (by decide) (by decide)) dL_law_838 ?_
  refine v_aload_n hC dL_law_839 rfl rfl ?_
  refine v_iload_n hC dL_law_840 rfl rfl ?_
  refine v_iconst (v := 2) hC dL_law_841 (by decide) ?_
  refine v_iadd hC dL_law_842 ?_
  refine v_sld hC hX hb (j := 2) (ix_e (by decide) (by decide) (by decide)) dL_law_843 ?_
  refine v_aload_n hC dL_law_844 rfl rfl ?_
  refine v_iload_n hC dL_law_845 rfl rfl ?_
  refine v_iconst (v := 3) hC dL_law_846 (by decide) ?_
  refine v_iadd hC dL_law_847 ?_
  refine v_sld hC hX hb (j := 3) (ix_e (by decide) (by decide) (by decide)) dL_law_848 ?_
  refine cVi3 hC (c_X10_distance0 hW hs) yv_X10_distance rfl hs.1 mw_4_25 ⟨Nat.le_of_ble_eq_true rfl, Nat.le_of_ble_eq_true rfl⟩ ⟨Nat.le_of_ble_eq_true rfl, Nat.le_of_ble_eq_true rfl⟩ (Nat.le_of_ble_eq_true rfl) dL_law_849 (fun r849 M852 hq => ?_)
  obtain ⟨rfl, hm⟩ := hq
  have hm2 := hm.symm
  clear hm
  subst hm2
  refine v_aload_n hC dL_law_852 rfl rfl ?_
  refine v_aload_n hC dL_law_853 rfl rfl ?_
  refine v_iload_n hC dL_law_854 rfl rfl ?_
  refine v_iconst (v := 1) hC dL_law_855 (by decide) ?_
  refine v_iadd hC dL_law_856 ?_
  refine v_sld hC hX hb (j := 1) (ix_e (by decide) (by decide) (by decide)) dL_law_857 ?_
  refine v_aload_n hC dL_law_858 rfl rfl ?_
  refine v_iload_n hC dL_law_859 rfl rfl ?_
  refine v_iconst (v := 2) hC dL_law_860 (by decide) ?_
  refine v_iadd hC dL_law_861 ?_
  refine v_sld hC hX hb (j := 2) (ix_e (by decide) (by decide) (by decide)) dL_law_862 ?_
  refine v_aload_n hC dL_law_863 rfl rfl ?_
  refine v_iload_n hC dL_law_864 rfl rfl ?_
  refine v_iconst (v := 3) hC dL_law_865 (by decide) ?_
  refine v_iadd hC dL_law_866 ?_
  refine v_sld hC hX hb (j := 3) (ix_e (by decide) (by decide) (by decide)) dL_law_867 ?_
  refine cVi3 hC (c_X11_distance0 hW hsN) yv_X11_distance rfl hsN.1 mw_5_223 ⟨Nat.le_of_ble_eq_true rfl, Nat.le_of_ble_eq_true rfl⟩ ⟨Nat.le_of_ble_eq_true rfl, Nat.le_of_ble_eq_true rfl⟩ (Nat.le_of_ble_eq_true rfl) dL_law_868 (fun r868 M871 hq => ?_)
  obtain ⟨rfl, -⟩ := hq
  refine v_icmp_eq hC dL_law_871 (tgt := 1100) (by decide) (fun _ => ?_) (fun h => absurd rfl h)
  exact lw_exit hC hlo hX hb
set_option maxHeartbeats 4000000 in
theorem lw_c24 {p : Program} {l : Launch} {e : Env} {s : State} {m : MethodId} {below : List Frame} {meth : Method} {c : Code} {G : Gd} {M : Me} {nm : String} {b h1 h2 : Nat} {xs : Nat → Int32} (hC : Cx p m c s #[.ref b] meth cL_law 4 "MatchBureauLaw" nm ret G) (hlo : g_lo G = s.heap.size) (hX : va_X b 4 xs s (g_H G)) (hb : b < g_lo G) (hW : Wt M) (hs : Fs M h1) (hsN : FsN M h2) : V p l e room_1 s m #[.ref b] below meth c 4 G (lw_Z below #[.ref b] s) M 600 14296 876 [some (.ref b), some (.ref h1), some (.ref h2), some (.int 0)] [] := by
  refine v_aload_n hC dL_law_876 rfl rfl ?_
  refine v_aload_n hC dL_law_877 rfl rfl ?_
  refine v_iload_n hC dL_law_878 rfl rfl ?_
  refine v_iconst (v := 1) hC dL_law_879 (by decide) ?_
  refine v_iadd hC dL_law_880 ?_
  refine v_sld hC hX hb (j := 1) (ix_e (by decide) (by decide) (by decide)) dL_law_881 ?_
  refine v_aload_n hC dL_law_882 rfl rfl ?_
  refine v_iload_n hC dL_law_883 rfl rfl ?_
  refine v_iconst (v := 2) hC dL_law_884 (by decide) ?_
  refine v_iadd hC dL_law_885 ?_
  refine v_sld hC hX hb (j := 2) (ix_e (by decide) (by decide) (by decide)) dL_law_886 ?_
  refine cVi2 hC (c_X10_wordsIn0 hW hs) yv_X10_wordsIn rfl hs.1 mw_4_35 ⟨Nat.le_of_ble_eq_true rfl, Nat.le_of_ble_eq_true rfl⟩ ⟨Nat.le_of_ble_eq_true rfl, Nat.le_of_ble_eq_true rfl⟩ (Nat.le_of_ble_eq_true rfl) dL_law_887 (fun r887 M890 hq => ?_)
  obtain ⟨rfl, hm⟩ := hq
  have hm2 := hm.symm
  clear hm
  subst hm2
  refine v_aload_n hC dL_law_890 rfl rfl ?_
  refine v_aload_n hC dL_law_891 rfl rfl ?_
  refine v_iload_n hC dL_law_892 rfl rfl ?_
  refine v_iconst (v := 1) hC dL_law_893 (by decide) ?_
  refine v_iadd hC dL_law_894 ?_
  refine v_sld hC hX hb (j := 1) (ix_e (by decide) (by decide) (by decide)) dL_law_895 ?_
  refine v_aload_n hC dL_law_896 rfl rfl ?_
  refine v_iload_n hC dL_law_897 rfl rfl ?_
  refine v_iconst (v := 2) hC dL_law_898 (by decide) ?_
  refine v_iadd hC dL_law_899 ?_
  refine v_sld hC hX hb (j := 2) (ix_e (by decide) (by decide) (by decide)) dL_law_900 ?_
  refine cVi2 hC (c_X11_wordsIn0 hW hsN) yv_X11_wordsIn rfl hsN.1 mw_5_231 ⟨Nat.le_of_ble_eq_true rfl, Nat.le_of_ble_eq_true rfl⟩ ⟨Nat.le_of_ble_eq_true rfl, Nat.le_of_ble_eq_true rfl⟩ (Nat.le_of_ble_eq_true rfl) dL_law_901 (fun r901 M904 hq => ?_)
  obtain ⟨rfl, -⟩ := hq
  refine v_icmp_eq hC dL_law_904 (tgt := 1100) (by decide) (fun _ => ?_) (fun h => absurd rfl h)
  exact lw_exit hC hlo hX hb
set_option maxHeartbeats 4000000 in
theorem lw_c25 {p : Program} {l : Launch} {e : Env} {s : State} {m : MethodId} {below : List Frame} {meth : Method} {c : Code} {G : Gd} {M : Me} {nm : String} {b h1 h2 : Nat} {xs : Nat → Int32} (hC : Cx p m c s #[.ref b] meth cL_law 4 "MatchBureauLaw" nm ret G) (hlo : g_lo G = s.heap.size) (hX : va_X b 4 xs s (g_H G)) (hb : b < g_lo G) (hW : Wt M) (hs : Fs M h1) (hsN : FsN M h2) : V p l e room_1 s m #[.ref b] below meth c 4 G (lw_Z below #[.ref b] s) M 600 14296 909 [some (.ref b), some (.ref h1), some (.ref h2), some (.int 0)] [] := by
  refine v_aload_n hC dL_law_909 rfl rfl ?_
  refine v_aload_n hC dL_law_910 rfl rfl ?_
  refine v_iload_n hC dL_law_911 rfl rfl ?_
  refine v_iconst (v := 1) hC dL_law_912 (by decide) ?_
  refine v_iadd hC dL_law_913 ?_
  refine v_sld hC hX hb (j := 1) (ix_e (by decide) (by decide) (by decide)) dL_law_914 ?_
  refine cVi1 hC (c_X10_allWords0 hW hs) yv_X10_allWords rfl hs.1 mw_4_40 ⟨Nat.le_of_ble_eq_true rfl, Nat.le_of_ble_eq_true rfl⟩ ⟨Nat.le_of_ble_eq_true rfl, Nat.le_of_ble_eq_true rfl⟩ (Nat.le_of_ble_eq_true rfl) dL_law_915 (fun r915 M918 hq => ?_)
  obtain ⟨rfl, hm⟩ := hq
  have hm2 := hm.symm
  clear hm
  subst hm2
  refine v_aload_n hC dL_law_918 rfl rfl ?_
  refine v_aload_n hC dL_law_919 rfl rfl ?_
  refine v_iload_n hC dL_law_920 rfl rfl ?_
  refine v_iconst (v := 1) hC dL_law_921 (by decide) ?_
  refine v_iadd hC dL_law_922 ?_
  refine v_sld hC hX hb (j := 1) (ix_e (by decide) (by decide) (by decide)) dL_law_923 ?_
  refine cVi1 hC (c_X11_allWords0 hW hsN) yv_X11_allWords rfl hsN.1 mw_5_235 ⟨Nat.le_of_ble_eq_true rfl, Nat.le_of_ble_eq_true rfl⟩ ⟨Nat.le_of_ble_eq_true rfl, Nat.le_of_ble_eq_true rfl⟩ (Nat.le_of_ble_eq_true rfl) dL_law_924 (fun r924 M927 hq => ?_)
  obtain ⟨rfl, -⟩ := hq
  refine v_icmp_eq hC dL_law_927 (tgt := 1100) (by decide) (fun _ => ?_) (fun h => absurd rfl h)
  exact lw_exit hC hlo hX hb
set_option maxHeartbeats 4000000 in
theorem lw_c26 {p : Program} {l : Launch} {e : Env} {s : State} {m : MethodId} {below : List Frame} {meth : Method} {c : Code} {G : Gd} {M : Me} {nm : String} {b h1 h2 : Nat} {xs : Nat → Int32} (hC : Cx p m c s #[.ref b] meth cL_law 4 "MatchBureauLaw" nm ret G) (hlo : g_lo G = s.heap.size) (hX : va_X b 4 xs s (g_H G)) (hb : b < g_lo G) (hW : Wt M) (hs : Fs M h1) (hsN : FsN M h2) : V p l e room_1 s m #[.ref b] below meth c 4 G (lw_Z below #[.ref b] s) M 600 14296 932 [some (.ref b), some (.ref h1), some (.ref h2), some (.int 0)] [] := by
  refine v_aload_n hC dL_law_932 rfl rfl ?_
  refine v_aload_n hC dL_law_933 rfl rfl ?_
  refine v_iload_n hC dL_law_934 rfl rfl ?_
  refine v_iconst (v := 1) hC dL_law_935 (by decide) ?_
  refine v_iadd hC dL_law_936 ?_
  refine v_sld hC hX hb (j := 1) (ix_e (by decide) (by decide) (by decide)) dL_law_937 ?_
  refine v_aload_n hC dL_law_938 rfl rfl ?_
  refine v_iload_n hC dL_law_939 rfl rfl ?_
  refine v_iconst (v := 2) hC dL_law_940 (by decide) ?_
  refine v_iadd hC dL_law_941 ?_
  refine v_sld hC hX hb (j := 2) (ix_e (by decide) (by decide) (by decide)) dL_law_942 ?_
  refine cVi2 hC (c_X10_price0 hW hs) yv_X10_price rfl hs.1 mw_4_44 ⟨Nat.le_of_ble_eq_true rfl, Nat.le_of_ble_eq_true rfl⟩ ⟨Nat.le_of_ble_eq_true rfl, Nat.le_of_ble_eq_true rfl⟩ (Nat.le_of_ble_eq_true rfl) dL_law_943 (fun r943 M946 hq => ?_)
  obtain ⟨rfl, hm⟩ := hq
  have hm2 := hm.symm
  clear hm
  subst hm2
  refine v_aload_n hC dL_law_946 rfl rfl ?_
  refine v_aload_n hC dL_law_947 rfl rfl ?_
  refine v_iload_n hC dL_law_948 rfl rfl ?_
  refine v_iconst (v := 1) hC dL_law_949 (by decide) ?_
  refine v_iadd hC dL_law_950 ?_
  refine v_sld hC hX hb (j := 1) (ix_e (by decide) (by decide) (by decide)) dL_law_951 ?_
  refine v_aload_n hC dL_law_952 rfl rfl ?_
  refine v_iload_n hC dL_law_953 rfl rfl ?_
  refine v_iconst (v := 2) hC dL_law_954 (by decide) ?_
  refine v_iadd hC dL_law_955 ?_
  refine v_sld hC hX hb (j := 2) (ix_e (by decide) (by decide) (by decide)) dL_law_956 ?_
  refine cVi2 hC (c_X11_price0 hW hsN) yv_X11_price rfl hsN.1 mw_5_239 ⟨Nat.le_of_ble_eq_true rfl, Nat.le_of_ble_eq_true rfl⟩ ⟨Nat.le_of_ble_eq_true rfl, Nat.le_of_ble_eq_true rfl⟩ (Nat.le_of_ble_eq_true rfl) dL_law_957 (fun r957 M960 hq => ?_)
  obtain ⟨rfl, -⟩ := hq
  refine v_icmp_eq hC dL_law_960 (tgt := 1100) (by decide) (fun _ => ?_) (fun h => absurd rfl h)
  exact lw_exit hC hlo hX hb
set_option maxHeartbeats 4000000 in
theorem lw_c27 {p : Program} {l : Launch} {e : Env} {s : State} {m : MethodId} {below : List Frame} {meth : Method} {c : Code} {G : Gd} {M : Me} {nm : String} {b h1 h2 : Nat} {xs : Nat → Int32} (hC : Cx p m c s #[.ref b] meth cL_law 4 "MatchBureauLaw" nm ret G) (hlo : g_lo G = s.heap.size) (hX : va_X b 4 xs s (g_H G)) (hb : b < g_lo G) (hW : Wt M) (hs : Fs M h1) (hsN : FsN M h2) : V p l e room_1 s m #[.ref b] below meth c 4 G (lw_Z below #[.ref b] s) M 600 14296 965 [some (.ref b), some (.ref h1), some (.ref h2), some (.int 0)] [] := by
  refine v_aload_n hC dL_law_965 rfl rfl ?_
  refine v_aload_n hC dL_law_966 rfl rfl ?_
  refine v_iload_n hC dL_law_967 rfl rfl ?_
  refine v_iconst (v := 1) hC dL_law_968 (by decide) ?_
  refine v_iadd hC dL_law_969 ?_
  refine v_sld hC hX hb (j := 1) (ix_e (by decide) (by decide) (by decide)) dL_law_970 ?_
  refine cVi1 hC (c_X10_firstReviewer0 hW hs) yv_X10_firstReviewer rfl hs.1 mw_4_48 ⟨Nat.le_of_ble_eq_true rfl, Nat.le_of_ble_eq_true rfl⟩ ⟨Nat.le_of_ble_eq_true rfl, Nat.le_of_ble_eq_true rfl⟩ (Nat.le_of_ble_eq_true rfl) dL_law_971 (fun r971 M974 hq => ?_)
  obtain ⟨rfl, hm⟩ := hq
  have hm2 := hm.symm
  clear hm
  subst hm2
  refine v_aload_n hC dL_law_974 rfl rfl ?_
  refine v_aload_n hC dL_law_975 rfl rfl ?_
  refine v_iload_n hC dL_law_976 rfl rfl ?_
  refine v_iconst (v := 1) hC dL_law_977 (by decide) ?_
  refine v_iadd hC dL_law_978 ?_
  refine v_sld hC hX hb (j := 1) (ix_e (by decide) (by decide) (by decide)) dL_law_979 ?_
  refine cVi1 hC (c_X11_firstReviewer0 hW hsN) yv_X11_firstReviewer rfl hsN.1 mw_6_3 ⟨Nat.le_of_ble_eq_true rfl, Nat.le_of_ble_eq_true rfl⟩ ⟨Nat.le_of_ble_eq_true rfl, Nat.le_of_ble_eq_true rfl⟩ (Nat.le_of_ble_eq_true rfl) dL_law_980 (fun r980 M983 hq => ?_)
  obtain ⟨rfl, -⟩ := hq
  refine v_icmp_eq hC dL_law_983 (tgt := 1100) (by decide) (fun _ => ?_) (fun h => absurd rfl h)
  exact lw_exit hC hlo hX hb
set_option maxHeartbeats 4000000 in
theorem lw_c28 {p : Program} {l : Launch} {e : Env} {s : State} {m : MethodId} {below : List Frame} {meth : Method} {c : Code} {G : Gd} {M : Me} {nm : String} {b h1 h2 : Nat} {xs : Nat → Int32} (hC : Cx p m c s #[.ref b] meth cL_law 4 "MatchBureauLaw" nm ret G) (hlo : g_lo G = s.heap.size) (hX : va_X b 4 xs s (g_H G)) (hb : b < g_lo G) (hW : Wt M) (hs : Fs M h1) (hsN : FsN M h2) : V p l e room_1 s m #[.ref b] below meth c 4 G (lw_Z below #[.ref b] s) M 600 14296 988 [some (.ref b), some (.ref h1), some (.ref h2), some (.int 0)] [] := by
  refine v_aload_n hC dL_law_988 rfl rfl ?_
  refine v_aload_n hC dL_law_989 rfl rfl ?_
  refine v_iload_n hC dL_law_990 rfl rfl ?_
  refine v_iconst (v := 1) hC dL_law_991 (by decide) ?_
  refine v_iadd hC dL_law_992 ?_
  refine v_sld hC hX hb (j := 1) (ix_e (by decide) (by decide) (by decide)) dL_law_993 ?_
  refine v_aload_n hC dL_law_994 rfl rfl ?_
  refine v_iload_n hC dL_law_995 rfl rfl ?_
  refine v_iconst (v := 2) hC dL_law_996 (by decide) ?_
  refine v_iadd hC dL_law_997 ?_
  refine v_sld hC hX hb (j := 2) (ix_e (by decide) (by decide) (by decide)) dL_law_998 ?_
  refine cVi2 hC (c_X10_entry0 hW hs) yv_X10_entry rfl hs.1 mw_4_52 ⟨Nat.le_of_ble_eq_true rfl, Nat.le_of_ble_eq_true rfl⟩ ⟨Nat.le_of_ble_eq_true rfl, Nat.le_of_ble_eq_true rfl⟩ (Nat.le_of_ble_eq_true rfl) dL_law_999 (fun r999 M1002 hq => ?_)
  obtain ⟨rfl, hm⟩ := hq
  have hm2 := hm.symm
  clear hm
  subst hm2
  refine v_aload_n hC dL_law_1002 rfl rfl ?_
  refine v_aload_n hC dL_law_1003 rfl rfl ?_
  refine v_iload_n hC dL_law_1004 rfl rfl ?_
  refine v_iconst (v := 1) hC dL_law_1005 (by decide) ?_
  refine v_iadd hC dL_law_1006 ?_
  refine v_sld hC hX hb (j := 1) (ix_e (by decide) (by decide) (by decide)) dL_law_1007 ?_
  refine v_aload_n hC dL_law_1008 rfl rfl ?_
  refine v_iload_n hC dL_law_1009 rfl rfl ?_
  refine v_iconst (v := 2) hC dL_law_1010 (by decide) ?_
  refine v_iadd hC dL_law_1011 ?_
  refine v_sld hC hX hb (j := 2) (ix_e (by decide) (by decide) (by decide)) dL_law_1012 ?_
  refine cVi2 hC (c_X11_entry0 hW hsN) yv_X11_entry rfl hsN.1 mw_6_7 ⟨Nat.le_of_ble_eq_true rfl, Nat.le_of_ble_eq_true rfl⟩ ⟨Nat.le_of_ble_eq_true rfl, Nat.le_of_ble_eq_true rfl⟩ (Nat.le_of_ble_eq_true rfl) dL_law_1013 (fun r1013 M1016 hq => ?_)
  obtain ⟨rfl, -⟩ := hq
  refine v_icmp_eq hC dL_law_1016 (tgt := 1100) (by decide) (fun _ => ?_) (fun h => absurd rfl h)
  exact lw_exit hC hlo hX hb
set_option maxHeartbeats 4000000 in
theorem lw_c29 {p : Program} {l : Launch} {e : Env} {s : State} {m : MethodId} {below : List Frame} {meth : Method} {c : Code} {G : Gd} {M : Me} {nm : String} {b h1 h2 : Nat} {xs : Nat → Int32} (hC : Cx p m c s #[.ref b] meth cL_law 4 "MatchBureauLaw" nm ret G) (hlo : g_lo G = s.heap.size) (hX : va_X b 4 xs s (g_H G)) (hb : b < g_lo G) (hW : Wt M) (hs : Fs M h1) (hsN : FsN M h2) : V p l e room_1 s m #[.ref b] below meth c 4 G (lw_Z below #[.ref b] s) M 600 14296 1021 [some (.ref b), some (.ref h1), some (.ref h2), some (.int 0)] [] := by
  refine v_aload_n hC dL_law_1021 rfl rfl ?_
  refine v_aload_n hC dL_law_1022 rfl rfl ?_
  refine v_iload_n hC dL_law_1023 rfl rfl ?_
  refine v_iconst (v := 1) hC dL_law_1024 (by decide) ?_
  refine v_iadd hC dL_law_1025 ?_
  refine v_sld hC hX hb (j := 1) (ix_e (by decide) (by decide) (by decide)) dL_law_1026 ?_
  refine v_aload_n hC dL_law_1027 rfl rfl ?_
  refine v_iload_n hC dL_law_1028 rfl rfl ?_
  refine v_iconst (v := 2) hC dL_law_1029 (by decide) ?_
  refine v_iadd hC dL_law_1030 ?_
  refine v_sld hC hX hb (j := 2) (ix_e (by decide) (by decide) (by decide)) dL_law_1031 ?_
  refine cVi2 hC (c_X10_dispute0 hW hs) yv_X10_dispute rfl hs.1 mw_4_65 ⟨Nat.le_of_ble_eq_true rfl, Nat.le_of_ble_eq_true rfl⟩ ⟨Nat.le_of_ble_eq_true rfl, Nat.le_of_ble_eq_true rfl⟩ (Nat.le_of_ble_eq_true rfl) dL_law_1032 (fun r1032 M1035 hq => ?_)
  obtain ⟨rfl, hm⟩ := hq
  have hm2 := hm.symm
  clear hm
  subst hm2
  refine v_aload_n hC dL_law_1035 rfl rfl ?_
  refine v_aload_n hC dL_law_1036 rfl rfl ?_
  refine v_iload_n hC dL_law_1037 rfl rfl ?_
  refine v_iconst (v := 1) hC dL_law_1038 (by decide) ?_
  refine v_iadd hC dL_law_1039 ?_
  refine v_sld hC hX hb (j := 1) (ix_e (by decide) (by decide) (by decide)) dL_law_1040 ?_
  refine v_aload_n hC dL_law_1041 rfl rfl ?_
  refine v_iload_n hC dL_law_1042 rfl rfl ?_
  refine v_iconst (v := 2) hC dL_law_1043 (by decide) ?_
  refine v_iadd hC dL_law_1044 ?_
  refine v_sld hC hX hb (j := 2) (ix_e (by decide) (by decide) (by decide)) dL_law_1045 ?_
  refine cVi2 hC (c_X11_dispute0 hW hsN) yv_X11_dispute rfl hsN.1 mw_6_15 ⟨Nat.le_of_ble_eq_true rfl, Nat.le_of_ble_eq_true rfl⟩ ⟨Nat.le_of_ble_eq_true rfl, Nat.le_of_ble_eq_true rfl⟩ (Nat.le_of_ble_eq_true rfl) dL_law_1046 (fun r1046 M1049 hq => ?_)
  obtain ⟨rfl, -⟩ := hq
  refine v_icmp_eq hC dL_law_1049 (tgt := 1100) (by decide) (fun _ => ?_) (fun h => absurd rfl h)
  exact lw_exit hC hlo hX hb
set_option maxHeartbeats 4000000 in
theorem lw_c30 {p : Program} {l : Launch} {e : Env} {s : State} {m : MethodId} {below : List Frame} {meth : Method} {c : Code} {G : Gd} {M : Me} {nm : String} {b h1 h2 : Nat} {xs : Nat → Int32} (hC : Cx p m c s #[.ref b] meth cL_law 4 "MatchBureauLaw" nm ret G) (hlo : g_lo G = s.heap.size) (hX : va_X b 4 xs s (g_H G)) (hb : b < g_lo G) (hW : Wt M) (hs : Fs M h1) (hsN : FsN M h2) : V p l e room_1 s m #[.ref b] below meth c 4 G (lw_Z below #[.ref b] s) M 600 14296 1054 [some (.ref b), some (.ref h1), some (.ref h2), some (.int 0)] [] := by
  refine v_aload_n hC dL_law_1054 rfl rfl ?_
  refine v_aload_n hC dL_law_1055 rfl rfl ?_
  refine v_iload_n hC dL_law_1056 rfl rfl ?_
  refine v_iconst (v := 1) hC dL_law_1057 (by decide) ?_
  refine v_iadd hC dL_law_1058 ?_
  refine v_sld hC hX hb (j := 1) (ix_e (by decide) (by decide) (by decide)) dL_law_1059 ?_
  refine cVi1 hC (c_X10_fileAt0 hW hs) yv_X10_fileAt rfl hs.1 mw_4_69 ⟨Nat.le_of_ble_eq_true rfl, Nat.le_of_ble_eq_true rfl⟩ ⟨Nat.le_of_ble_eq_true rfl, Nat.le_of_ble_eq_true rfl⟩ (Nat.le_of_ble_eq_true rfl) dL_law_1060 (fun r1060 M1063 hq => ?_)
  obtain ⟨rfl, hm⟩ := hq
  have hm2 := hm.symm
  clear hm
  subst hm2
  refine v_aload_n hC dL_law_1063 rfl rfl ?_
  refine v_aload_n hC dL_law_1064 rfl rfl ?_
  refine v_iload_n hC dL_law_1065 rfl rfl ?_
  refine v_iconst (v := 1) hC dL_law_1066 (by decide) ?_
  refine v_iadd hC dL_law_1067 ?_
  refine v_sld hC hX hb (j := 1) (ix_e (by decide) (by decide) (by decide)) dL_law_1068 ?_
  refine cVi1 hC (c_X11_fileAt0 hW hsN) yv_X11_fileAt rfl hsN.1 mw_6_19 ⟨Nat.le_of_ble_eq_true rfl, Nat.le_of_ble_eq_true rfl⟩ ⟨Nat.le_of_ble_eq_true rfl, Nat.le_of_ble_eq_true rfl⟩ (Nat.le_of_ble_eq_true rfl) dL_law_1069 (fun r1069 M1072 hq => ?_)
  obtain ⟨rfl, -⟩ := hq
  refine v_icmp_eq hC dL_law_1072 (tgt := 1100) (by decide) (fun _ => ?_) (fun h => absurd rfl h)
  exact lw_exit hC hlo hX hb
set_option maxHeartbeats 4000000 in
theorem lw_c31 {p : Program} {l : Launch} {e : Env} {s : State} {m : MethodId} {below : List Frame} {meth : Method} {c : Code} {G : Gd} {M : Me} {nm : String} {b h1 h2 : Nat} {xs : Nat → Int32} (hC : Cx p m c s #[.ref b] meth cL_law 4 "MatchBureauLaw" nm ret G) (hlo : g_lo G = s.heap.size) (hX : va_X b 4 xs s (g_H G)) (hb : b < g_lo G) (hW : Wt M) (hs : Fs M h1) (hsN : FsN M h2) : V p l e room_1 s m #[.ref b] below meth c 4 G (lw_Z below #[.ref b] s) M 600 14296 1077 [some (.ref b), some (.ref h1), some (.ref h2), some (.int 0)] [] := by
  refine v_aload_n hC dL_law_1077 rfl rfl ?_
  refine v_aload_n hC dL_law_1078 rfl rfl ?_
  refine v_iload_n hC dL_law_1079 rfl rfl ?_
  refine v_iconst (v := 1) hC dL_law_1080 (by decide) ?_
  refine v_iadd hC dL_law_1081 ?_
  refine v_sld hC hX hb (j := 1) (ix_e (by decide) (by decide) (by decide)) dL_law_1082 ?_
  refine cVi1 hC (c_X10_count0 hW hs) yv_X10_count rfl hs.1 mw_4_73 ⟨Nat.le_of_ble_eq_true rfl, Nat.le_of_ble_eq_true rfl⟩ ⟨Nat.le_of_ble_eq_true rfl, Nat.le_of_ble_eq_true rfl⟩ (Nat.le_of_ble_eq_true rfl) dL_law_1083 (fun r1083 M1086 hq => ?_)
  obtain ⟨rfl, hm⟩ := hq
  have hm2 := hm.symm
  clear hm
  subst hm2
  refine v_aload_n hC dL_law_1086 rfl rfl ?_
  refine v_aload_n hC dL_law_1087 rfl rfl ?_
  refine v_iload_n hC dL_law_1088 rfl rfl ?_
  refine v_iconst (v := 1) hC dL_law_1089 (by decide) ?_
  refine v_iadd hC dL_law_1090 ?_
  refine v_sld hC hX hb (j := 1) (ix_e (by decide) (by decide) (by decide)) dL_law_1091 ?_
  refine cVi1 hC (c_X11_count0 hW hsN) yv_X11_count rfl hsN.1 mw_6_23 ⟨Nat.le_of_ble_eq_true rfl, Nat.le_of_ble_eq_true rfl⟩ ⟨Nat.le_of_ble_eq_true rfl, Nat.le_of_ble_eq_true rfl⟩ (Nat.le_of_ble_eq_true rfl) dL_law_1092 (fun r1092 M1095 hq => ?_)
  obtain ⟨rfl, -⟩ := hq
  refine v_icmp_eq hC dL_law_1095 (tgt := 1100) (by decide) (fun _ => ?_) (fun h => absurd rfl h)
  exact lw_exit hC hlo hX hb
theorem lw_one {p : Program} {l : Launch} {e : Env} {s : State} {m : MethodId} {below : List Frame} {meth : Method} {c : Code} {G : Gd} {M : Me} {nm : String} {b h1 h2 : Nat} {xs : Nat → Int32} (hC : Cx p m c s #[.ref b] meth cL_law 4 "MatchBureauLaw" nm ret G) (hlo : g_lo G = s.heap.size) (hX : va_X b 4 xs s (g_H G)) (hb : b < g_lo G) (hW : Wt M) (hs : Fs M h1) (hsN : FsN M h2) : V p l e room_1 s m #[.ref b] below meth c 4 G (lw_Z below #[.ref b] s) M 600 14296 26 [some (.ref b), some (.ref h1), some (.ref h2), some (.int 0)] [] := by
  refine v_aload_n hC dL_law_26 rfl rfl ?_
  refine v_iload_n hC dL_law_27 rfl rfl ?_
  refine v_sld hC hX hb (j := 0) (ix_e (by decide) (by decide) (by decide)) dL_law_28 ?_
  refine v_bipush (v := 31) hC dL_law_29 (by decide) ?_
  refine v_iand hC dL_law_31 ?_
  obtain ⟨j, hj, e⟩ := pk_andE (xs 0) (m := 31) 5 (by decide)
  rw [e]
  have hj2 : j = 0 ∨ j = 1 ∨ j = 2 ∨ j = 3 ∨ j = 4 ∨ j = 5 ∨ j = 6 ∨ j = 7 ∨ j = 8 ∨ j = 9 ∨ j = 10 ∨ j = 11 ∨ j = 12 ∨ j = 13 ∨ j = 14 ∨ j = 15 ∨ j = 16 ∨ j = 17 ∨ j = 18 ∨ j = 19 ∨ j = 20 ∨ j = 21 ∨ j = 22 ∨ j = 23 ∨ j = 24 ∨ j = 25 ∨ j = 26 ∨ j = 27 ∨ j = 28 ∨ j = 29 ∨ j = 30 ∨ j = 31 := by omega
  clear hj e
  rcases hj2 with rfl | rfl | rfl | rfl | rfl | rfl | rfl | rfl | rfl | rfl | rfl | rfl | rfl | rfl | rfl | rfl | rfl | rfl | rfl | rfl | rfl | rfl | rfl | rfl | rfl | rfl | rfl | rfl | rfl | rfl | rfl | rfl
  · exact v_tsi hC (off := 144) (tgt := 176) dL_law_32 (by decide) (by decide) (by decide) (by decide) (lw_c0 hC hlo hX hb hW hs hsN)
  · exact v_tsi hC (off := 167) (tgt := 199) dL_law_32 (by decide) (by decide) (by decide) (by decide) (lw_c1 hC hlo hX hb hW hs hsN)
  · exact v_tsi hC (off := 226) (tgt := 258) dL_law_32 (by decide) (by decide) (by decide) (by decide) (lw_c2 hC hlo hX hb hW hs hsN)
  · exact v_tsi hC (off := 259) (tgt := 291) dL_law_32 (by decide) (by decide) (by decide) (by decide) (lw_c3 hC hlo hX hb hW hs hsN)
  · exact v_tsi hC (off := 284) (tgt := 316) dL_law_32 (by decide) (by decide) (by decide) (by decide) (lw_c4 hC hlo hX hb hW hs hsN)
  · exact v_tsi hC (off := 297) (tgt := 329) dL_law_32 (by decide) (by decide) (by decide) (by decide) (lw_c5 hC hlo hX hb hW hs hsN)
  · exact v_tsi hC (off := 310) (tgt := 342) dL_law_32 (by decide) (by decide) (by decide) (by decide) (lw_c6 hC hlo hX hb hW hs hsN)
  · exact v_tsi hC (off := 333) (tgt := 365) dL_law_32 (by decide) (by decide) (by decide) (by decide) (lw_c7 hC hlo hX hb hW hs hsN)
  · exact v_tsi hC (off := 356) (tgt := 388) dL_law_32 (by decide) (by decide) (by decide) (by decide) (lw_c8 hC hlo hX hb hW hs hsN)
  · exact v_tsi hC (off := 389) (tgt := 421) dL_law_32 (by decide) (by decide) (by decide) (by decide) (lw_c9 hC hlo hX hb hW hs hsN)
  · exact v_tsi hC (off := 412) (tgt := 444) dL_law_32 (by decide) (by decide) (by decide) (by decide) (lw_c10 hC hlo hX hb hW hs hsN)
  · exact v_tsi hC (off := 445) (tgt := 477) dL_law_32 (by decide) (by decide) (by decide) (by decide) (lw_c11 hC hlo hX hb hW hs hsN)
  · exact v_tsi hC (off := 488) (tgt := 520) dL_law_32 (by decide) (by decide) (by decide) (by decide) (lw_c12 hC hlo hX hb hW hs hsN)
  · exact v_tsi hC (off := 521) (tgt := 553) dL_law_32 (by decide) (by decide) (by decide) (by decide) (lw_c13 hC hlo hX hb hW hs hsN)
  · exact v_tsi hC (off := 554) (tgt := 586) dL_law_32 (by decide) (by decide) (by decide) (by decide) (lw_c14 hC hlo hX hb hW hs hsN)
  · exact v_tsi hC (off := 577) (tgt := 609) dL_law_32 (by decide) (by decide) (by decide) (by decide) (lw_c15 hC hlo hX hb hW hs hsN)
  · exact v_tsi hC (off := 610) (tgt := 642) dL_law_32 (by decide) (by decide) (by decide) (by decide) (lw_c16 hC hlo hX hb hW hs hsN)
  · exact v_tsi hC (off := 623) (tgt := 655) dL_law_32 (by decide) (by decide) (by decide) (by decide) (lw_c17 hC hlo hX hb hW hs hsN)
  · exact v_tsi hC (off := 636) (tgt := 668) dL_law_32 (by decide) (by decide) (by decide) (by decide) (lw_c18 hC hlo hX hb hW hs hsN)
  · exact v_tsi hC (off := 649) (tgt := 681) dL_law_32 (by decide) (by decide) (by decide) (by decide) (lw_c19 hC hlo hX hb hW hs hsN)
  · exact v_tsi hC (off := 682) (tgt := 714) dL_law_32 (by decide) (by decide) (by decide) (by decide) (lw_c20 hC hlo hX hb hW hs hsN)
  · exact v_tsi hC (off := 715) (tgt := 747) dL_law_32 (by decide) (by decide) (by decide) (by decide) (lw_c21 hC hlo hX hb hW hs hsN)
  · exact v_tsi hC (off := 758) (tgt := 790) dL_law_32 (by decide) (by decide) (by decide) (by decide) (lw_c22 hC hlo hX hb hW hs hsN)
  · exact v_tsi hC (off := 801) (tgt := 833) dL_law_32 (by decide) (by decide) (by decide) (by decide) (lw_c23 hC hlo hX hb hW hs hsN)
  · exact v_tsi hC (off := 844) (tgt := 876) dL_law_32 (by decide) (by decide) (by decide) (by decide) (lw_c24 hC hlo hX hb hW hs hsN)
  · exact v_tsi hC (off := 877) (tgt := 909) dL_law_32 (by decide) (by decide) (by decide) (by decide) (lw_c25 hC hlo hX hb hW hs hsN)
  · exact v_tsi hC (off := 900) (tgt := 932) dL_law_32 (by decide) (by decide) (by decide) (by decide) (lw_c26 hC hlo hX hb hW hs hsN)
  · exact v_tsi hC (off := 933) (tgt := 965) dL_law_32 (by decide) (by decide) (by decide) (by decide) (lw_c27 hC hlo hX hb hW hs hsN)
  · exact v_tsi hC (off := 956) (tgt := 988) dL_law_32 (by decide) (by decide) (by decide) (by decide) (lw_c28 hC hlo hX hb hW hs hsN)
  · exact v_tsi hC (off := 989) (tgt := 1021) dL_law_32 (by decide) (by decide) (by decide) (by decide) (lw_c29 hC hlo hX hb hW hs hsN)
  · exact v_tsi hC (off := 1022) (tgt := 1054) dL_law_32 (by decide) (by decide) (by decide) (by decide) (lw_c30 hC hlo hX hb hW hs hsN)
  · exact v_tsi hC (off := 1045) (tgt := 1077) dL_law_32 (by decide) (by decide) (by decide) (by decide) (lw_c31 hC hlo hX hb hW hs hsN)
theorem lw_head {N : Nat} (hN : N ≤ 4) {p : Program} {l : Launch} {e : Env} {s : State} {m : MethodId} {below : List Frame} {meth : Method} {c : Code} {G : Gd} {M : Me} {nm : String} {b h1 h2 : Nat} {xs : Nat → Int32} (hC : Cx p m c s #[.ref b] meth cL_law 4 "MatchBureauLaw" nm ret G) (hlo : g_lo G = s.heap.size) (hX : va_X b N xs s (g_H G)) (hb : b < g_lo G) (hW : Wt M) (hs : Fs M h1) (hsN : FsN M h2) : V p l e room_1 s m #[.ref b] below meth c 4 G (lw_Z below #[.ref b] s) M 600 14296 18 [some (.ref b), some (.ref h1), some (.ref h2), some (.int 0)] [] := by
  refine v_iload_n hC dL_law_18 rfl rfl ?_
  refine v_aload_n hC dL_law_19 rfl rfl ?_
  refine v_slen hC hX hb dL_law_20 ?_
  refine v_iconst (v := 4) hC dL_law_21 (by decide) ?_
  refine v_isub hC dL_law_22 ?_
  have hN2 : N = 0 ∨ N = 1 ∨ N = 2 ∨ N = 3 ∨ N = 4 := by omega
  clear hN
  rcases hN2 with rfl | rfl | rfl | rfl | rfl
  · refine v_icmp_gt hC dL_law_23 (tgt := 1106) (by decide) (fun _ => ?_) (fun hx => absurd (by decide) hx)
    refine v_iconst (v := 1) hC dL_law_1106 (by decide) ?_
    exact v_lawret hC hlo (Nat.le_of_ble_eq_true rfl) (Nat.le_of_ble_eq_true rfl) dL_law_1107
  · refine v_icmp_gt hC dL_law_23 (tgt := 1106) (by decide) (fun _ => ?_) (fun hx => absurd (by decide) hx)
    refine v_iconst (v := 1) hC dL_law_1106 (by decide) ?_
    exact v_lawret hC hlo (Nat.le_of_ble_eq_true rfl) (Nat.le_of_ble_eq_true rfl) dL_law_1107
  · refine v_icmp_gt hC dL_law_23 (tgt := 1106) (by decide) (fun _ => ?_) (fun hx => absurd (by decide) hx)
    refine v_iconst (v := 1) hC dL_law_1106 (by decide) ?_
    exact v_lawret hC hlo (Nat.le_of_ble_eq_true rfl) (Nat.le_of_ble_eq_true rfl) dL_law_1107
  · refine v_icmp_gt hC dL_law_23 (tgt := 1106) (by decide) (fun _ => ?_) (fun hx => absurd (by decide) hx)
    refine v_iconst (v := 1) hC dL_law_1106 (by decide) ?_
    exact v_lawret hC hlo (Nat.le_of_ble_eq_true rfl) (Nat.le_of_ble_eq_true rfl) dL_law_1107
  · refine v_icmp_gt hC dL_law_23 (tgt := 1106) (by decide) (fun hx => absurd hx (by decide)) (fun _ => ?_)
    exact lw_one hC hlo hX hb hW hs hsN
theorem Fr.sm {M M2 : Me} {h n : Nat} (f : Fr M h n) (hh : h < m_n M) (hn : n + 204 ≤ m_n M) (hs : ∀ a, a < m_n M → Sm M M2 a) : Fr M2 h n := by
  obtain ⟨a1, ⟨a2, a3, a4, a5⟩, a6, a7, ⟨b1, b2, b3, b4, b5, b6, b7⟩, a8, a9, a10⟩ := f
  have r : ∀ k a, a < m_n M → m_r M2 k a 0 = m_r M k a 0 := fun k a ha => (hs a ha).2.2.2.2 k 0
  have i : ∀ k a j, a < m_n M → m_i M2 k a j = m_i M k a j := fun k a j ha => (hs a ha).2.2.1 k j
  refine ⟨by rw [(hs h hh).1]; exact a1, ⟨by rw [r _ _ hh]; exact a2, by rw [r _ _ hh]; exact a3, by rw [r _ _ hh]; exact a4, by rw [r _ _ hh]; exact a5⟩, by rw [i _ _ _ hh]; exact a6, by rw [i _ _ _ (by omega)]; exact a7, ⟨by rw [i _ _ _ (by omega)]; exact b1, by rw [i _ _ _ (by omega)]; exact b2, by rw [r _ _ (by omega)]; exact b3, by rw [r _ _ (by omega)]; exact b4, by rw [i _ _ _ (by omega)]; exact b5, by rw [i _ _ _ (by omega)]; exact b6, fun j => by rw [i _ _ _ (by omega)]; exact b7 j⟩, by rw [i _ _ _ (by omega)]; exact a8, by rw [r _ _ (by omega)]; exact a9, by rw [r _ _ (by omega)]; exact a10⟩
set_option maxHeartbeats 4000000 in
theorem whole_start {p : Program} (l : Launch) (hflags : l.flags = flags0) {e : Env} {s : State} {m : MethodId} {below : List Frame} {meth : Method} {c : Code} {b : Nat} {xs : List Int32} (hN : xs.length ≤ 4) (hA : lw_At p s m meth c b xs.length (fun j => xs.getD j 0)) : W p l e room_1 s m #[Value.ref b] below meth c s.heap [] 0 0 (lw_Z below #[Value.ref b] s) (entryFrame m ([Value.ref b] : List Value).toArray 4) := by
  obtain ⟨hx, hcd, hrt, hml, hown, hts, hX0, hb0, hlk, hgv⟩ := hA
  generalize xs.length = N at hN hX0
  generalize (fun j => xs.getD j 0) = X at hX0
  obtain ⟨G, hlo, hH, hK, hKX⟩ := st_start hts hgv
  have hX : va_X b N X s (g_H G) := by rw [hH]; exact hX0
  have hb : b < g_lo G := by rw [hlo]; exact hb0
  have hpos : 0 < s.heap.size := by omega
  have hC : Cx p m c s #[.ref b] meth cL_law 4 "MatchBureauLaw" meth.name ret G := ⟨⟨hx, hcd, hml, hown, fun w hw => hts w (List.mem_filter.mp hw).1⟩, hK, hlk, hrt, rfl, hKX⟩
  have hl := lv_entry [Value.ref b] (n := 4) (Nat.le_of_ble_eq_true rfl)
  rw [lg_entry_eq]
  have nw0 : Nw (m_0 s.heap.size) := fun a ha => absurd rfl ha
  have pg0 : Pg (m_0 s.heap.size) 0 (m_0 s.heap.size) := Pg.rf nw0
  have body : V p l e room_1 s m #[.ref b] below meth c 4 G (lw_Z below #[.ref b] s) (m_0 s.heap.size) 0 0 0 [some (.ref b), none, none, none] [] := by
    refine nw_10 hC mw_1_15 (Nat.le_of_ble_eq_true rfl) (Nat.le_of_ble_eq_true rfl) dL_law_0 (fun _ => ?_)
    refine v_dup hC dL_law_3 rfl ?_
    refine cIv0 hC (c_X10_init (tn_n)) yi_X10_init mw_1_17 ⟨Nat.le_of_ble_eq_true rfl, Nat.le_of_ble_eq_true rfl⟩ ⟨Nat.le_of_ble_eq_true rfl, Nat.le_of_ble_eq_true rfl⟩ (Nat.le_of_ble_eq_true rfl) dL_law_4 (fun M1 hq => ?_)
    obtain ⟨cn, en, fr⟩ := BI_cn (M := s_new (m_0 s.heap.size) 11 0) (h := m_n (m_0 s.heap.size)) nw0.sn tn_n
    rw [← hq] at cn en fr
    clear hq
    rw [n_sn] at en fr
    obtain ⟨pg1, -, -⟩ := pg0.obj hpos cn
    have nw1 : Nw M1 := pg1.2.1
    have e0 : m_n (m_0 s.heap.size) = s.heap.size := rfl
    generalize m_n (m_0 s.heap.size) = h1 at *
    refine v_ast1 hC dL_law_7 (by decide) rfl ?_
    refine nw_11 hC mw_4_108 (Nat.le_of_ble_eq_true rfl) (Nat.le_of_ble_eq_true rfl) dL_law_8 (fun _ => ?_)
    refine v_dup hC dL_law_11 rfl ?_
    refine cIv0 hC (c_X11_init (tn_n)) yi_X11_init mw_4_110 ⟨Nat.le_of_ble_eq_true rfl, Nat.le_of_ble_eq_true rfl⟩ ⟨Nat.le_of_ble_eq_true rfl, Nat.le_of_ble_eq_true rfl⟩ (Nat.le_of_ble_eq_true rfl) dL_law_12 (fun M2 hq => ?_)
    obtain ⟨cn2, en2, frN⟩ := NI_cn (M := s_new M1 12 0) (h := m_n M1) nw1.sn tn_n (by rw [i_sn, if_pos rfl]) (by rw [i_sn, if_pos rfl]) (by rw [i_sn, if_pos rfl])
    rw [← hq] at cn2 en2 frN
    clear hq
    obtain ⟨pg2, sm2, -⟩ := pg1.obj hpos cn2
    have fr2 : Fr M2 h1 (h1 + 1) := fr.sm (by omega) (by omega) sm2
    have hW : Wt M2 := Wt.of fun a => by
      by_cases q : s.heap.size ≤ a
      · exact pg2.2.2.2.2 a q
      · refine Wta.zero ?_
        by_cases q0 : a = 0
        · subst q0; exact pg2.2.2.2.1
        · exact (pg2.2.2.1 a (Nat.lt_of_not_le q) q0).1
    have hs : Fs M2 h1 := Fs.of fr2
    have hsN : FsN M2 (m_n M1) := FsN.of frN
    refine v_ast2 hC dL_law_15 (by decide) rfl ?_
    refine v_iconst (v := 0) hC dL_law_16 (by decide) ?_
    refine v_ist3 hC dL_law_17 (by decide) rfl ?_
    exact lw_head hN hC hlo hX hb hW hs hsN
  exact body s.heap [] _ (Rp.zero hpos hlo hH rfl) (fun q hq => by cases hq) hl
