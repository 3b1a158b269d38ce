theorem len_bd {args : Array Value} {s : State} {t : Term} {v : Value} {a : Nat} {cell : Cell} (h : (Term.length t).eval args s none [] s = some v) (ht : t.eval args s none [] s = some (.ref a)) (hat : s.arrayAt? a = some cell) : cell.slots.size < 2 ^ 31 := by
  simp only [Term.eval, Option.bind_eq_bind, ht, hat, Option.bind_some] at h
  split at h
  · assumption
  · cases h
theorem sh_of {args : Array Value} {s : State} {lo : Nat} (hts : ∀ w ∈ lw_tbl, w.before args s = true) (hg : (Jvm.Cond.and given_1 narrow_1).before args s = true) (G : Gd) (hlo : g_lo G = s.heap.size) (hH : g_H G = s.heap) : Sh G s := by
  have hs := flat_of_before _ hg
  have harr : (Cond.arrayOf (.static "MatchBureau" "FIRST_SHARES" "[I") .int).before args s = true := hs _ (by decide +kernel)
  have hlen := va_eqt (t := .length (.static "MatchBureau" "FIRST_SHARES" "[I")) (z := 6) (hs _ (by decide +kernel))
  have h0 := va_eqt (t := .elem (.static "MatchBureau" "FIRST_SHARES" "[I") (.int 0)) (z := 10) (hs _ (by decide +kernel))
  have h1 := va_eqt (t := .elem (.static "MatchBureau" "FIRST_SHARES" "[I") (.int 1)) (z := 20) (hs _ (by decide +kernel))
  have h2 := va_eqt (t := .elem (.static "MatchBureau" "FIRST_SHARES" "[I") (.int 2)) (z := 40) (hs _ (by decide +kernel))
  have h3 := va_eqt (t := .elem (.static "MatchBureau" "FIRST_SHARES" "[I") (.int 3)) (z := 60) (hs _ (by decide +kernel))
  have h4 := va_eqt (t := .elem (.static "MatchBureau" "FIRST_SHARES" "[I") (.int 4)) (z := 80) (hs _ (by decide +kernel))
  have h5 := va_eqt (t := .elem (.static "MatchBureau" "FIRST_SHARES" "[I") (.int 5)) (z := 100) (hs _ (by decide +kernel))
  have hex : (Cond.exactly (.static "MatchBureau" "FIRST_SHARES" "[I") "[I").before args s = true := hs _ (by decide +kernel)
  obtain ⟨a, cC, cell, k, e1, e2, e3, e4, e5, e6, -⟩ := Cond.exactly_spec hex
  obtain ⟨a2, cell2, f1, f2, f3⟩ := Term.length_spec hlen
  cases e1.symm.trans f1
  obtain ⟨g1, g2, -, -⟩ := State.arrayAt?_spec f2
  cases e3.symm.trans g1
  have hbd : cell.slots.size < 2 ^ 31 := len_bd hlen e1 f2
  have hsz : cell.slots.size = 6 := by
    have e : nI cell.slots.size = nI 6 := (Value.int.inj f3).symm
    exact (nI_eq hbd (by decide)).mp e
  have el : ∀ {j z : Int32}, (Term.elem (.static "MatchBureau" "FIRST_SHARES" "[I") (.int j)).eval args s none [] s = some (.int z) → cell.slots[j.toNatClampNeg]? = some (.int z) := fun h => by
    obtain ⟨a3, i, cell3, x1, x2, x3, x4, x5⟩ := Term.elem_spec h
    cases e1.symm.trans x1
    cases f2.symm.trans x3
    cases x2
    exact x5
  have ha : a < s.heap.size := (Array.getElem?_eq_some_iff.mp e3).1
  refine ⟨a, cell, ?_, by rw [hH]; exact e3, by rw [hlo]; exact ha, by rw [e6]; exact e2, g2, e5, hsz, fun j hj => ?_⟩
  · rw [hlo, hH]
    exact va_Zof (hts _ mw_1_84) (hts _ (List.mem_filter.mp mw_1_1).1) e1 (fun q hq h => absurd hq (Nat.not_lt.mpr h))
  · rcases (show j = 0 ∨ j = 1 ∨ j = 2 ∨ j = 3 ∨ j = 4 ∨ j = 5 by omega) with rfl | rfl | rfl | rfl | rfl | rfl
    · exact el h0
    · exact el h1
    · exact el h2
    · exact el h3
    · exact el h4
    · exact el h5
theorem st_start {args : Array Value} {s : State} (hts : ∀ w ∈ lw_tbl, w.before args s = true) (hg : (Jvm.Cond.and given_1 narrow_1).before args s = true) : ∃ G : Gd, g_lo G = s.heap.size ∧ g_H G = s.heap ∧ KK G s ∧ KX G s := by
  have htg : ∀ w ∈ lw_g, w.before args s = true := fun w hw => hts w (List.mem_filter.mp hw).1
  obtain ⟨c0, i0, hK0⟩ := u_known (C := RX0) (T := TX0) (N := 4) (n := 4) htg in_X0 (htg _ mw_1_215)
  obtain ⟨c1, i1, hK1⟩ := u_known (C := RX1) (T := TX1) (N := 3) (n := 3) htg in_X1 (htg _ mw_1_185)
  obtain ⟨c2, i2, hK2⟩ := u_known (C := RX2) (T := TX2) (N := 2) (n := 2) htg in_X2 (htg _ mw_2_62)
  obtain ⟨c3, i3, hK3⟩ := u_known (C := RX3) (T := TX3) (N := 1) (n := 1) htg in_X3 (htg _ mw_1_24)
  obtain ⟨c4, i4, hK4⟩ := u_known (C := RX4) (T := TX4) (N := 5) (n := 5) htg in_X4 (htg _ mw_1_178)
  obtain ⟨c5, i5, hK5⟩ := u_known (C := RX5) (T := TX5) (N := 3) (n := 3) htg in_X5 (htg _ mw_1_94)
  obtain ⟨c6, i6, hK6⟩ := u_known (C := RX6) (T := TX6) (N := 3) (n := 3) htg in_X6 (htg _ mw_1_35)
  obtain ⟨c7, i7, hK7⟩ := u_known (C := RX7) (T := TX7) (N := 8) (n := 8) htg in_X7 (htg _ mw_1_78)
  obtain ⟨c8, i8, hK8⟩ := u_known (C := RX8) (T := TX8) (N := 2) (n := 2) htg in_X8 (htg _ mw_1_64)
  obtain ⟨c9, i9, hK9⟩ := u_known (C := RX9) (T := TX9) (N := 9) (n := 9) htg in_X9 (htg _ mw_1_119)
  obtain ⟨c10, i10, hK10⟩ := u_known (C := RX10) (T := TX10) (N := 5) (n := 5) htg in_X10 (htg _ mw_1_16)
  obtain ⟨c11, i11, hK11⟩ := u_known (C := RX11) (T := TX11) (N := 12) (n := 12) htg in_X11 (htg _ mw_4_109)
  obtain ⟨a0, k0, p0, x0, y0, z0⟩ := Cond.arrayClass_spec (htg _ mw_1_33)
  obtain ⟨a1, k1, p1, x1, y1, z1⟩ := Cond.arrayClass_spec (htg _ mw_1_62)
  obtain ⟨a2, k2, p2, x2, y2, z2⟩ := Cond.arrayClass_spec (htg _ mw_1_61)
  have ao50 := hts _ mw_1_93
  obtain ⟨p50, a50, k50, w50, -, x50, y50, z50⟩ := Cond.arrayOver_spec ao50
  have ao51 := hts _ mw_1_118
  obtain ⟨p51, a51, k51, w51, -, x51, y51, z51⟩ := Cond.arrayOver_spec ao51
  have ao52 := hts _ mw_1_125
  obtain ⟨p52, a52, k52, w52, -, x52, y52, z52⟩ := Cond.arrayOver_spec ao52
  have ao53 := hts _ mw_1_184
  obtain ⟨p53, a53, k53, w53, -, x53, y53, z53⟩ := Cond.arrayOver_spec ao53
  have ao54 := hts _ mw_1_214
  obtain ⟨p54, a54, k54, w54, -, x54, y54, z54⟩ := Cond.arrayOver_spec ao54
  have ao55 := hts _ mw_2_68
  obtain ⟨p55, a55, k55, w55, -, x55, y55, z55⟩ := Cond.arrayOver_spec ao55
  refine ⟨(fun k => if k = 0 then c0 else if k = 1 then c1 else if k = 2 then c2 else if k = 3 then c3 else if k = 4 then c4 else if k = 5 then c5 else if k = 6 then c6 else if k = 7 then c7 else if k = 8 then c8 else if k = 9 then c9 else if k = 10 then c10 else c11, fun k => if k = 0 then i0 else if k = 1 then i1 else if k = 2 then i2 else if k = 3 then i3 else if k = 4 then i4 else if k = 5 then i5 else if k = 6 then i6 else if k = 7 then i7 else if k = 8 then i8 else if k = 9 then i9 else if k = 10 then i10 else i11, fun k => if k = 0 then a0 else if k = 1 then a1 else if k = 2 then a2 else if k = 50 then a50 else if k = 51 then a51 else if k = 52 then a52 else if k = 53 then a53 else if k = 54 then a54 else a55, s.heap.size, s.heap), rfl, rfl, ⟨?_, ?_⟩, ?_, ?_, ?_, ?_⟩
  · intro k q hq
    match k, hq with
    | 0, hq => cases hq; exact hK0
    | 1, hq => cases hq; exact hK1
    | 2, hq => cases hq; exact hK2
    | 3, hq => cases hq; exact hK3
    | 4, hq => cases hq; exact hK4
    | 5, hq => cases hq; exact hK5
    | 6, hq => cases hq; exact hK6
    | 7, hq => cases hq; exact hK7
    | 8, hq => cases hq; exact hK8
    | 9, hq => cases hq; exact hK9
    | 10, hq => cases hq; exact hK10
    | 11, hq => cases hq; exact hK11
    | k + 12, hq => simp [vwCl] at hq
  · intro k q hq
    match k, hq with
    | 0, hq => cases hq; exact ⟨fun n z => ⟨fun k h => (by cases h), k0, y0, p0, z0⟩, x0⟩
    | 1, hq => cases hq; exact ⟨fun n z => ⟨fun k h => (by cases h), k1, y1, p1, z1⟩, x1⟩
    | 2, hq => cases hq; exact ⟨fun n z => ⟨fun k h => (by cases h), k2, y2, p2, z2⟩, x2⟩
    | 3, hq => cases hq; exact ⟨fun n z => ⟨fun k h => (by cases h), k50, x50, p50, y50⟩, k50, p50, x50, y50, w50, z50⟩
    | 4, hq => cases hq; exact ⟨fun n z => ⟨fun k h => (by cases h), k51, x51, p51, y51⟩, k51, p51, x51, y51, w51, z51⟩
    | 5, hq => cases hq; exact ⟨fun n z => ⟨fun k h => (by cases h), k52, x52, p52, y52⟩, k52, p52, x52, y52, w52, z52⟩
    | 6, hq => cases hq; exact ⟨fun n z => ⟨fun k h => (by cases h), k53, x53, p53, y53⟩, k53, p53, x53, y53, w53, z53⟩
    | 7, hq => cases hq; exact ⟨fun n z => ⟨fun k h => (by cases h), k54, x54, p54, y54⟩, k54, p54, x54, y54, w54, z54⟩
    | 8, hq => cases hq; exact ⟨fun n z => ⟨fun k h => (by cases h), k55, x55, p55, y55⟩, k55, p55, x55, y55, w55, z55⟩
    | k + 9, hq => simp [ty_] at hq
  · intro C hC
    simp only [aoL, List.mem_cons, List.mem_nil_iff, or_false] at hC
    rcases hC with rfl | rfl | rfl | rfl | rfl | rfl
    · exact va_AO.of ao50
    · exact va_AO.of ao51
    · exact va_AO.of ao52
    · exact va_AO.of ao53
    · exact va_AO.of ao54
    · exact va_AO.of ao55
  · exact va_Nw.of rfl (hts _ mw_1_90)
  · exact va_Nw.of rfl (hts _ mw_1_83)
  · exact sh_of (lo := 0) hts hg _ rfl rfl
section VL
variable {p : Program} {l : Launch} {e : Env} {R : Room} {s : State} {m : MethodId} {args : Array Value} {below : List Frame} {meth : Method} {c : Code} {nL : Nat} {G : Gd} {Q : State → Prop} {M : Me} {cells slots pc : Nat} {L : Lo} {rest : List Value} {cc : ByteArray} {own nm : String} {rt : Option FieldType} {b N : Nat} {xs : Nat → Int32}
theorem v_slen (hC : Cx p m c s args meth cc nL own nm rt G) (hX : va_X b N xs s (g_H G)) (hb : b < g_lo G) (hd : decode cc pc = .ok (.arraylength, 1)) (kk : V p l e R s m args below meth c nL G Q M cells slots (pc + 1) L (.int (nI N) :: rest)) : V p l e R s m args below meth c nL G Q M cells slots pc L (.ref b :: rest) := fun H locs ls hR hL hls => by
  obtain ⟨scr, h1, h2, h3, h4, h5⟩ := hX
  exact W.alen (n := nI N) hC.1.1 hC.1.2.1 (by rw [hR.2.2.2.1 b hb]; exact h1) h2 (by rw [h4]; rfl) rfl rfl hd (kk H locs ls hR hL hls)
theorem v_sld {i : Int32} {j : Nat} (hC : Cx p m c s args meth cc nL own nm rt G) (hX : va_X b N xs s (g_H G)) (hb : b < g_lo G) (hi : ix i N j) (hd : decode cc pc = .ok (.iaload, 1)) (kk : V p l e R s m args below meth c nL G Q M cells slots (pc + 1) L (.int (xs j) :: rest)) : V p l e R s m args below meth c nL G Q M cells slots pc L (.int i :: .ref b :: rest) := fun H locs ls hR hL hls => by
  obtain ⟨scr, h1, h2, h3, h4, h5⟩ := hX
  obtain ⟨hin, hj⟩ := hi
  have hlt : j < N := by rw [← hj]; exact Nat.not_le.mp fun q => hin (Or.inr q)
  exact W.iald (v := .int (xs j)) hC.1.1 hC.1.2.1 (by rw [hR.2.2.2.1 b hb]; exact h1) h2 h3 (by rw [h4]; exact hin) (by rw [hj]; exact h5 j hlt) rfl rfl hd (kk H locs ls hR hL hls)
theorem v_lawret (hC : Cx p m c s #[.ref b] meth code 4 own nm ret G) (hlo : g_lo G = s.heap.size) (h1 : cells ≤ 641887) (h2 : slots ≤ 7176587) (hd : decode code pc = .ok (.ireturn, 1)) : V p l e room_1 s m #[.ref b] below meth c nL G (lw_Z below #[.ref b] s) M cells slots pc L [.int 1] := fun H locs ls hR hL hls => va_forget (fun q hq => by rw [← hlo]; exact hL q hq) (W.widen h1 h2 (lw_ret hC.1.1 hC.1.2.1 hC.2.2.2.1 hC.2.2.1 hd))
/-- the empty memory at the start -/
def m_0 (n : Nat) : Me := (n, fun _ => 0, fun _ => 0, fun _ _ _ => 0, fun _ _ _ => 0, fun _ _ _ => 0)
theorem Rp.zero {n : Nat} {H : Heap} (hpos : 0 < n) (hlo : g_lo G = n) (hH : g_H G = H) (hs : H.size = n) : Rp G (m_0 n) H := ⟨by rw [hlo]; exact hpos, by rw [hlo]; exact Nat.le_refl _, hs, fun q _ => by rw [hH], fun a ha => absurd rfl ha⟩
end VL
