/-! the keys of the reference's own fields and arrays -/
def mkey (k : Nat) : Bool := decide (276 ≤ k) || ([26, 27, 31, 32, 33, 34, 42] : List Nat).contains k
/-- what is written lies in the class's own fields and arrays -/
def Mo (M M2 : Me) : Prop := Fx M M2 ∧ (∀ k a j, mkey k = true → m_i M2 k a j = m_i M k a j) ∧ ∀ k a j, mkey k = true → m_l M2 k a j = m_l M k a j
theorem Mo.rf {M : Me} : Mo M M := ⟨Fx.rf, fun _ _ _ _ => rfl, fun _ _ _ _ => rfl⟩
theorem Mo.tr {M M2 M3 : Me} (h : Mo M M2) (h2 : Mo M2 M3) : Mo M M3 := ⟨h.1.tr h2.1, fun k a j q => (h2.2.1 k a j q).trans (h.2.1 k a j q), fun k a j q => (h2.2.2 k a j q).trans (h.2.2 k a j q)⟩
theorem Mo.si {M M2 : Me} {k a j : Nat} {v : Int32} (h : Mo M M2) (hk : mkey k = false) : Mo M (s_i M2 k a j v) := ⟨h.1, fun k2 a2 j2 q => by
  rw [i_sk (fun e => by rw [e, hk] at q; cases q)]; exact h.2.1 k2 a2 j2 q, h.2.2⟩
/-- a new MatchBureau, by what its methods read -/
def Fs (M : Me) (h : Nat) : Prop := m_t M h = 11 ∧ m_i M 214 (m_r M 261 h 0) 0 = 0 ∧ m_i M 216 (m_r M 261 h 0) 0 = 0 ∧ m_i M 166 (m_r M 218 (m_r M 261 h 0) 0) 0 = 0 ∧ m_i M 168 (m_r M 218 (m_r M 261 h 0) 0) 0 = 0 ∧ m_i M 133 (m_r M 263 h 0) 0 = 0 ∧ m_i M 229 (m_r M 260 h 0) 0 = 0 ∧ m_i M 264 h 0 = 0 ∧ (∀ j, m_i M 20 (m_r M 212 (m_r M 261 h 0) 0) j = shr j) ∧ m_r M 262 h 0 ≠ m_r M 261 h 0 ∧ m_r M 55 (m_r M 132 (m_r M 263 h 0) 0) 0 ≠ m_r M 261 h 0
theorem Fs.of {M : Me} {h n : Nat} (f : Fr M h n) : Fs M h := by
  obtain ⟨a1, ⟨a2, a3, a4, a5⟩, a6, a7, ⟨b1, b2, b3, b4, b5, b6, b7⟩, a8, a9, a10⟩ := f
  refine ⟨a1, ?_, ?_, ?_, ?_, ?_, ?_, a6, ?_, ?_, ?_⟩
  · rw [a3, b1]
  · rw [a3, b2]
  · rw [a3, b4, b5]
  · rw [a3, b4, b6]
  · rw [a5, a8]
  · rw [a2, a7]
  · intro j; rw [a3, b3, b7]
  · rw [a3, a4]; omega
  · rw [a3, a5, a9, a10]; omega
/-- a new reference, by what its methods read -/
def FsN (M : Me) (h : Nat) : Prop := m_t M h = 12 ∧ m_i M 279 h 0 = 0 ∧ m_i M 280 h 0 = 0 ∧ m_i M 282 h 0 = 0 ∧ (m_l M 31 (m_r M 276 h 0) 0 = 0 ∧ m_l M 31 (m_r M 276 h 0) 1 = 0 ∧ m_l M 31 (m_r M 276 h 0) 2 = 0 ∧ m_l M 31 (m_r M 276 h 0) 3 = 0) ∧ m_l M 31 (m_r M 276 h 0) 4 = 10 ∧ m_l M 31 (m_r M 276 h 0) 5 = 20 ∧ m_l M 31 (m_r M 276 h 0) 6 = 40 ∧ m_l M 31 (m_r M 276 h 0) 7 = 60 ∧ m_l M 31 (m_r M 276 h 0) 8 = 80 ∧ m_l M 31 (m_r M 276 h 0) 9 = 100
theorem FsN.of {M : Me} {h n : Nat} (f : FrN M h n) : FsN M h := by
  obtain ⟨a1, ⟨a2, a3, a4⟩, ⟨b1, b2, b3⟩, ⟨c1, c2, c3, c4⟩, d1, d2, d3, d4, d5, d6⟩ := f
  refine ⟨a1, b1, b2, b3, ?_⟩
  rw [a2]
  exact ⟨⟨c1, c2, c3, c4⟩, d1, d2, d3, d4, d5, d6⟩
theorem FsN.mo {M M2 : Me} {h : Nat} (o : Mo M M2) (f : FsN M h) : FsN M2 h := by
  obtain ⟨⟨x1, x2, x3, x4⟩, o2, o3⟩ := o
  obtain ⟨a1, b1, b2, b3, ⟨c1, c2, c3, c4⟩, d1, d2, d3, d4, d5, d6⟩ := f
  refine ⟨by rw [x2, a1], by rw [o2 _ _ _ rfl, b1], by rw [o2 _ _ _ rfl, b2], by rw [o2 _ _ _ rfl, b3], ?_⟩
  rw [x4]
  refine ⟨⟨?_, ?_, ?_, ?_⟩, ?_, ?_, ?_, ?_, ?_, ?_⟩ <;> (rw [o3 _ _ _ rfl]; assumption)
section VT
variable {p : Program} {l : Launch} {e : Env} {R : Room} {s : State} {m : MethodId} {args : Array Value} {below : List Frame} {meth : Method} {c : Code} {nL : Nat} {G : Gd} {Q : State → Prop} {M : Me} {cells slots pc : Nat} {L : Lo} {rest : List Value} {cc : ByteArray} {own nm : String} {rt : Option FieldType}
theorem v_tsi (hC : Cx p m c s args meth cc nL own nm rt G) {dflt lo hi : Int} {offs : Array Int} {len : Nat} {x : Int32} {off : Int} {tgt : Nat} (hd : decode cc pc = .ok (.tableswitch dflt lo hi offs, len)) (h1 : ¬ x.toInt < lo) (h2 : ¬ hi < x.toInt) (ho : offs[(x.toInt - lo).toNat]? = some off) (ht : (pc : Int) + off = (tgt : Int)) (kk : V p l e R s m args below meth c nL G Q M cells slots tgt L rest) : V p l e R s m args below meth c nL G Q M cells slots pc L (.int x :: rest) := fun H locs ls hR hL hl => lv_tableIn hC.1.1 hC.1.2.1 hd h1 h2 ho ht (kk H locs ls hR hL hl)
theorem v_tso (hC : Cx p m c s args meth cc nL own nm rt G) {dflt lo hi : Int} {offs : Array Int} {len : Nat} {x : Int32} {tgt : Nat} (hd : decode cc pc = .ok (.tableswitch dflt lo hi offs, len)) (h : x.toInt < lo ∨ hi < x.toInt) (ht : (pc : Int) + dflt = (tgt : Int)) (kk : V p l e R s m args below meth c nL G Q M cells slots tgt L rest) : V p l e R s m args below meth c nL G Q M cells slots pc L (.int x :: rest) := fun H locs ls hR hL hl => lv_tableOut hC.1.1 hC.1.2.1 hd h ht (kk H locs ls hR hL hl)
end VT
theorem i_sr2 {M : Me} {k a j : Nat} {v : Int32} {k2 b i : Nat} (h : b ≠ a) : m_i (s_i M k a j v) k2 b i = m_i M k2 b i := if_neg (fun q => h q.2.1)
