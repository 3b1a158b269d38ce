/-! THE JUDGEMENT V: at pc, with the locals L (by place; none: not known) and the stack st, over the memory M, the machine comes to Q -/
abbrev Lo : Type := List (Option Value)
def lq : Nat → Lo → List (Nat × Value)
  | _, [] => []
  | i, none :: L => lq (i + 1) L
  | i, some v :: L => (i, v) :: lq (i + 1) L
theorem lq_mem : ∀ {L : Lo} {i k : Nat} {v : Value}, L[k]? = some (some v) → (i + k, v) ∈ lq i L
  | [], i, k, v, h => by simp at h
  | none :: L, i, 0, v, h => by simp at h
  | some w :: L, i, 0, v, h => by
    simp at h
    subst h
    exact List.mem_cons_self
  | none :: L, i, k + 1, v, h => by
    have h1 := lq_mem (L := L) (i := i + 1) (k := k) (v := v) (by simpa using h)
    rw [show i + 1 + k = i + (k + 1) by omega] at h1
    exact h1
  | some w :: L, i, k + 1, v, h => by
    have h1 := lq_mem (L := L) (i := i + 1) (k := k) (v := v) (by simpa using h)
    rw [show i + 1 + k = i + (k + 1) by omega] at h1
    exact List.mem_cons_of_mem _ h1
theorem lq_of : ∀ {L : Lo} {i : Nat} {q : Nat × Value}, q ∈ lq i L → ∃ k, q.1 = i + k ∧ L[k]? = some (some q.2)
  | [], i, q, h => by simp [lq] at h
  | none :: L, i, q, h => by
    obtain ⟨k, h1, h2⟩ := lq_of (L := L) (i := i + 1) (q := q) h
    exact ⟨k + 1, by omega, by simpa using h2⟩
  | some w :: L, i, q, h => by
    rcases List.mem_cons.mp h with rfl | h
    · exact ⟨0, rfl, rfl⟩
    · obtain ⟨k, h1, h2⟩ := lq_of (L := L) (i := i + 1) (q := q) h
      exact ⟨k + 1, by omega, by simpa using h2⟩
def LH (ls : Array Slot) (nL : Nat) (L : Lo) : Prop := lv_has ls nL (lq 0 L)
theorem LH.at {ls : Array Slot} {nL : Nat} {L : Lo} (h : LH ls nL L) {k : Nat} {v : Value} (hk : L[k]? = some (some v)) : ls[k]? = some (.val v) := by
  have h1 := h.2.2 (k, v) (by have := lq_mem (i := 0) hk; rwa [Nat.zero_add] at this)
  exact h1
def c1 (w : Option Value) : Bool := match w with
  | some v => v.category == 1
  | none => true
theorem LH.st1 {ls : Array Slot} {nL i : Nat} {v : Value} {L : Lo} (h : lv_has ls nL ((i, v) :: (lq 0 L).filter (fun q => !(q.1 == i) && !(q.1 + 1 == i && q.2.category == 2)))) (hp : ∀ w, L[i - 1]? = some w → c1 w = true) : LH ls nL (L.set i (some v)) := by
  refine ⟨h.1, h.2.1, fun q hq => ?_⟩
  obtain ⟨k, e, hk⟩ := lq_of hq
  rw [Nat.zero_add] at e
  rw [List.getElem?_set] at hk
  by_cases hki : i = k
  · subst hki
    rw [if_pos rfl] at hk
    split at hk
    · have e2 : q.2 = v := (Option.some.inj (Option.some.inj hk)).symm
      have := h.2.2 (i, v) List.mem_cons_self
      rw [e, e2]
      exact this
    · cases hk
  · rw [if_neg hki] at hk
    refine h.2.2 q (List.mem_cons_of_mem _ (List.mem_filter.mpr ⟨?_, ?_⟩))
    · have h3 := lq_mem (i := 0) hk
      rw [Nat.zero_add, ← e] at h3
      exact h3
    · have h4 : ¬ q.1 = i := by omega
      simp only [Bool.and_eq_true, Bool.not_eq_true', beq_eq_false_iff_ne, ne_eq, h4, not_false_eq_true, true_and]
      by_cases h5 : q.1 + 1 = i
      · have h6 := hp (some q.2) (by rw [show i - 1 = k by omega]; exact hk)
        have h7 : q.2.category = 1 := by simpa [c1] using h6
        simp [h7]
      · simp [h5]
theorem LH.st2 {ls : Array Slot} {nL i : Nat} {v : Value} {L : Lo} (h : lv_has ls nL ((i, v) :: (lq 0 L).filter (fun q => !(q.1 == i) && (!(q.1 == i + 1) && !(q.1 + 1 == i && q.2.category == 2))))) (hp : ∀ w, L[i - 1]? = some w → c1 w = true) : LH ls nL ((L.set i (some v)).set (i + 1) none) := by
  refine ⟨h.1, h.2.1, fun q hq => ?_⟩
  obtain ⟨k, e, hk⟩ := lq_of hq
  rw [Nat.zero_add] at e
  rw [List.getElem?_set] at hk
  by_cases hk1 : i + 1 = k
  · rw [if_pos hk1] at hk
    split at hk <;> simp at hk
  · rw [if_neg hk1, List.getElem?_set] at hk
    by_cases hki : i = k
    · subst hki
      rw [if_pos rfl] at hk
      split at hk
      · have e2 : q.2 = v := (Option.some.inj (Option.some.inj hk)).symm
        have := h.2.2 (i, v) List.mem_cons_self
        rw [e, e2]
        exact this
      · cases hk
    · rw [if_neg hki] at hk
      refine h.2.2 q (List.mem_cons_of_mem _ (List.mem_filter.mpr ⟨?_, ?_⟩))
      · have h3 := lq_mem (i := 0) hk
        rw [Nat.zero_add, ← e] at h3
        exact h3
      · have h4 : ¬ q.1 = i := by omega
        have h4b : ¬ q.1 = i + 1 := by omega
        simp only [Bool.and_eq_true, Bool.not_eq_true', beq_eq_false_iff_ne, ne_eq, h4, h4b, not_false_eq_true, true_and]
        by_cases h5 : q.1 + 1 = i
        · have h6 := hp (some q.2) (by rw [show i - 1 = k by omega]; exact hk)
          have h7 : q.2.category = 1 := by simpa [c1] using h6
          simp [h7]
        · simp [h5]
def wk : List Bool → Lo → Lo
  | true :: b, a :: L => a :: wk b L
  | false :: b, _ :: L => none :: wk b L
  | _, _ => []
theorem wk_at : ∀ {b : List Bool} {L : Lo} {k : Nat} {v : Value}, (wk b L)[k]? = some (some v) → L[k]? = some (some v)
  | [], L, k, v, h => by simp [wk] at h
  | true :: b, [], k, v, h => by simp [wk] at h
  | false :: b, [], k, v, h => by simp [wk] at h
  | true :: b, a :: L, 0, v, h => by simpa [wk] using h
  | false :: b, a :: L, 0, v, h => by simp [wk] at h
  | true :: b, a :: L, k + 1, v, h => by
    have h1 : (wk b L)[k]? = some (some v) := by simpa [wk] using h
    simpa using wk_at h1
  | false :: b, a :: L, k + 1, v, h => by
    have h1 : (wk b L)[k]? = some (some v) := by simpa [wk] using h
    simpa using wk_at h1
def V (p : Program) (l : Launch) (e : Env) (R : Room) (s : State) (m : MethodId) (args : Array Value) (below : List Frame) (meth : Method) (c : Code) (nL : Nat) (G : Gd) (Q : State → Prop) (M : Me) (cells slots pc : Nat) (L : Lo) (st : List Value) : Prop :=
  ∀ (H : Heap) (locs : List Loc) (ls : Array Slot), Rp G M H → (∀ q ∈ locs, g_lo G ≤ q.base) → LH ls nL L → W p l e R s m args below meth c H locs cells slots Q (F0 m pc ls st)
def Cx (p : Program) (m : MethodId) (c : Code) (s : State) (args : Array Value) (meth : Method) (cc : ByteArray) (nL : Nat) (own nm : String) (rt : Option FieldType) (G : Gd) : Prop := (p.tables.exec = Jvm.exec ∧ c.code = cc ∧ c.maxLocals = nL ∧ s.vm.findClass own = some m.cls ∧ ∀ w ∈ lw_g, w.before args s = true) ∧ KK G s ∧ meth.locks = false ∧ meth.sig.returnType = rt ∧ meth.name = nm ∧ KX G s
section VR
variable {p : Program} {l : Launch} {e : Env} {R : Room} {s : State} {m : MethodId} {args : Array Value} {below : List Frame} {meth : Method} {c : Code} {nL : Nat} {G : Gd} {Q : State → Prop} {M : Me} {cells slots pc : Nat} {L : Lo} {rest : List Value} {cc : ByteArray} {own nm : String} {rt : Option FieldType}
theorem v_wk (b : List Bool) (kk : V p l e R s m args below meth c nL G Q M cells slots pc (wk b L) rest) : V p l e R s m args below meth c nL G Q M cells slots pc L rest := fun H locs ls hR hL hl => kk H locs ls hR hL ⟨hl.1, hl.2.1, fun q hq => by
  obtain ⟨k, e, hk⟩ := lq_of hq
  have := hl.at (wk_at hk)
  rw [Nat.zero_add] at e
  rw [e]
  exact this⟩
theorem v_wide {k n : Nat} (h1 : cells ≤ k) (h2 : slots ≤ n) (kk : V p l e R s m args below meth c nL G Q M k n pc L rest) : V p l e R s m args below meth c nL G Q M cells slots pc L rest := fun H locs ls hR hL hl => W.widen h1 h2 (kk H locs ls hR hL hl)
theorem v_pc {pc2 : Nat} (h : pc2 = pc) (kk : V p l e R s m args below meth c nL G Q M cells slots pc2 L rest) : V p l e R s m args below meth c nL G Q M cells slots pc L rest := h ▸ kk
theorem v_iconst {n : Int} {v : Int32} (hC : Cx p m c s args meth cc nL own nm rt G) (hd : decode cc pc = .ok (.iconst n, 1)) (hv : Int32.ofInt n = v) (kk : V p l e R s m args below meth c nL G Q M cells slots (pc + 1) L (.int v :: rest)) : V p l e R s m args below meth c nL G Q M cells slots pc L rest := fun H locs ls hR hL hl => lv_iconst hC.1.1 hC.1.2.1 hd hv (kk H locs ls hR hL hl)
theorem v_bipush {n : Int} {v : Int32} (hC : Cx p m c s args meth cc nL own nm rt G) (hd : decode cc pc = .ok (.bipush n, 2)) (hv : (Int8.ofInt n).toInt32 = v) (kk : V p l e R s m args below meth c nL G Q M cells slots (pc + 2) L (.int v :: rest)) : V p l e R s m args below meth c nL G Q M cells slots pc L rest := fun H locs ls hR hL hl => lv_bipush hC.1.1 hC.1.2.1 hd hv (kk H locs ls hR hL hl)
theorem v_sipush {n : Int} {v : Int32} (hC : Cx p m c s args meth cc nL own nm rt G) (hd : decode cc pc = .ok (.sipush n, 3)) (hv : (Int16.ofInt n).toInt32 = v) (kk : V p l e R s m args below meth c nL G Q M cells slots (pc + 3) L (.int v :: rest)) : V p l e R s m args below meth c nL G Q M cells slots pc L rest := fun H locs ls hR hL hl => lv_sipush hC.1.1 hC.1.2.1 hd hv (kk H locs ls hR hL hl)
theorem v_lconst {n : Fin 2} {v : Int64} (hC : Cx p m c s args meth cc nL own nm rt G) (hd : decode cc pc = .ok (.lconst n, 1)) (hv : Int64.ofNat (n : Nat) = v) (kk : V p l e R s m args below meth c nL G Q M cells slots (pc + 1) L (.long v :: rest)) : V p l e R s m args below meth c nL G Q M cells slots pc L rest := fun H locs ls hR hL hl => lv_lconst hC.1.1 hC.1.2.1 hd hv (kk H locs ls hR hL hl)
theorem v_iadd {x y : Int32} (hC : Cx p m c s args meth cc nL own nm rt G) (hd : decode cc pc = .ok (.iadd, 1))  (kk : V p l e R s m args below meth c nL G Q M cells slots (pc + 1) L (.int (x + y) :: rest)) : V p l e R s m args below meth c nL G Q M cells slots pc L (.int y :: .int x :: rest) := fun H locs ls hR hL hl => lv_iadd hC.1.1 hC.1.2.1 hd  (kk H locs ls hR hL hl)
theorem v_isub {x y : Int32} (hC : Cx p m c s args meth cc nL own nm rt G) (hd : decode cc pc = .ok (.isub, 1))  (kk : V p l e R s m args below meth c nL G Q M cells slots (pc + 1) L (.int (x - y) :: rest)) : V p l e R s m args below meth c nL G Q M cells slots pc L (.int y :: .int x :: rest) := fun H locs ls hR hL hl => lv_isub hC.1.1 hC.1.2.1 hd  (kk H locs ls hR hL hl)
theorem v_imul {x y : Int32} (hC : Cx p m c s args meth cc nL own nm rt G) (hd : decode cc pc = .ok (.imul, 1))  (kk : V p l e R s m args below meth c nL G Q M cells slots (pc + 1) L (.int (x * y) :: rest)) : V p l e R s m args below meth c nL G Q M cells slots pc L (.int y :: .int x :: rest) := fun H locs ls hR hL hl => lv_imul hC.1.1 hC.1.2.1 hd  (kk H locs ls hR hL hl)
theorem v_iand {x y : Int32} (hC : Cx p m c s args meth cc nL own nm rt G) (hd : decode cc pc = .ok (.iand, 1))  (kk : V p l e R s m args below meth c nL G Q M cells slots (pc + 1) L (.int (x &&& y) :: rest)) : V p l e R s m args below meth c nL G Q M cells slots pc L (.int y :: .int x :: rest) := fun H locs ls hR hL hl => lv_iand hC.1.1 hC.1.2.1 hd  (kk H locs ls hR hL hl)
theorem v_ior {x y : Int32} (hC : Cx p m c s args meth cc nL own nm rt G) (hd : decode cc pc = .ok (.ior, 1))  (kk : V p l e R s m args below meth c nL G Q M cells slots (pc + 1) L (.int (x ||| y) :: rest)) : V p l e R s m args below meth c nL G Q M cells slots pc L (.int y :: .int x :: rest) := fun H locs ls hR hL hl => lv_ior hC.1.1 hC.1.2.1 hd  (kk H locs ls hR hL hl)
theorem v_ixor {x y : Int32} (hC : Cx p m c s args meth cc nL own nm rt G) (hd : decode cc pc = .ok (.ixor, 1))  (kk : V p l e R s m args below meth c nL G Q M cells slots (pc + 1) L (.int (x ^^^ y) :: rest)) : V p l e R s m args below meth c nL G Q M cells slots pc L (.int y :: .int x :: rest) := fun H locs ls hR hL hl => lv_ixor hC.1.1 hC.1.2.1 hd  (kk H locs ls hR hL hl)
theorem v_ishl {x y : Int32} (hC : Cx p m c s args meth cc nL own nm rt G) (hd : decode cc pc = .ok (.ishl, 1))  (kk : V p l e R s m args below meth c nL G Q M cells slots (pc + 1) L (.int (x <<< (y &&& 31)) :: rest)) : V p l e R s m args below meth c nL G Q M cells slots pc L (.int y :: .int x :: rest) := fun H locs ls hR hL hl => lv_ishl hC.1.1 hC.1.2.1 hd  (kk H locs ls hR hL hl)
theorem v_ishr {x y : Int32} (hC : Cx p m c s args meth cc nL own nm rt G) (hd : decode cc pc = .ok (.ishr, 1))  (kk : V p l e R s m args below meth c nL G Q M cells slots (pc + 1) L (.int (x >>> (y &&& 31)) :: rest)) : V p l e R s m args below meth c nL G Q M cells slots pc L (.int y :: .int x :: rest) := fun H locs ls hR hL hl => lv_ishr hC.1.1 hC.1.2.1 hd  (kk H locs ls hR hL hl)
theorem v_idiv {x y : Int32} (hC : Cx p m c s args meth cc nL own nm rt G) (hd : decode cc pc = .ok (.idiv, 1)) (hne : ¬ y = 0) (kk : V p l e R s m args below meth c nL G Q M cells slots (pc + 1) L (.int (x / y) :: rest)) : V p l e R s m args below meth c nL G Q M cells slots pc L (.int y :: .int x :: rest) := fun H locs ls hR hL hl => lv_idiv hC.1.1 hC.1.2.1 hd hne (kk H locs ls hR hL hl)
theorem v_iushr {x y : Int32} (hC : Cx p m c s args meth cc nL own nm rt G) (hd : decode cc pc = .ok (.iushr, 1))  (kk : V p l e R s m args below meth c nL G Q M cells slots (pc + 1) L (.int (x.toUInt32 >>> (y.toUInt32 &&& Int32.toUInt32 31)).toInt32 :: rest)) : V p l e R s m args below meth c nL G Q M cells slots pc L (.int y :: .int x :: rest) := fun H locs ls hR hL hl => lv_iushr hC.1.1 hC.1.2.1 hd rfl (kk H locs ls hR hL hl)
theorem v_ladd {x y : Int64} (hC : Cx p m c s args meth cc nL own nm rt G) (hd : decode cc pc = .ok (.ladd, 1))  (kk : V p l e R s m args below meth c nL G Q M cells slots (pc + 1) L (.long (x + y) :: rest)) : V p l e R s m args below meth c nL G Q M cells slots pc L (.long y :: .long x :: rest) := fun H locs ls hR hL hl => lv_ladd hC.1.1 hC.1.2.1 hd  (kk H locs ls hR hL hl)
theorem v_lmul {x y : Int64} (hC : Cx p m c s args meth cc nL own nm rt G) (hd : decode cc pc = .ok (.lmul, 1))  (kk : V p l e R s m args below meth c nL G Q M cells slots (pc + 1) L (.long (x * y) :: rest)) : V p l e R s m args below meth c nL G Q M cells slots pc L (.long y :: .long x :: rest) := fun H locs ls hR hL hl => lv_lmul hC.1.1 hC.1.2.1 hd  (kk H locs ls hR hL hl)
theorem v_land {x y : Int64} (hC : Cx p m c s args meth cc nL own nm rt G) (hd : decode cc pc = .ok (.land, 1))  (kk : V p l e R s m args below meth c nL G Q M cells slots (pc + 1) L (.long (x &&& y) :: rest)) : V p l e R s m args below meth c nL G Q M cells slots pc L (.long y :: .long x :: rest) := fun H locs ls hR hL hl => lv_land hC.1.1 hC.1.2.1 hd  (kk H locs ls hR hL hl)
theorem v_lxor {x y : Int64} (hC : Cx p m c s args meth cc nL own nm rt G) (hd : decode cc pc = .ok (.lxor, 1))  (kk : V p l e R s m args below meth c nL G Q M cells slots (pc + 1) L (.long (x ^^^ y) :: rest)) : V p l e R s m args below meth c nL G Q M cells slots pc L (.long y :: .long x :: rest) := fun H locs ls hR hL hl => lv_lxor hC.1.1 hC.1.2.1 hd  (kk H locs ls hR hL hl)
theorem v_ldiv {x y : Int64} (hC : Cx p m c s args meth cc nL own nm rt G) (hd : decode cc pc = .ok (.ldiv, 1)) (hne : ¬ y = 0) (kk : V p l e R s m args below meth c nL G Q M cells slots (pc + 1) L (.long (x / y) :: rest)) : V p l e R s m args below meth c nL G Q M cells slots pc L (.long y :: .long x :: rest) := fun H locs ls hR hL hl => lv_ldiv hC.1.1 hC.1.2.1 hd hne (kk H locs ls hR hL hl)
theorem v_lrem {x y : Int64} (hC : Cx p m c s args meth cc nL own nm rt G) (hd : decode cc pc = .ok (.lrem, 1)) (hne : ¬ y = 0) (kk : V p l e R s m args below meth c nL G Q M cells slots (pc + 1) L (.long (x - x / y * y) :: rest)) : V p l e R s m args below meth c nL G Q M cells slots pc L (.long y :: .long x :: rest) := fun H locs ls hR hL hl => lv_lrem hC.1.1 hC.1.2.1 hd hne (kk H locs ls hR hL hl)
theorem v_lshl {x : Int64} {y : Int32} (hC : Cx p m c s args meth cc nL own nm rt G) (hd : decode cc pc = .ok (.lshl, 1))  (kk : V p l e R s m args below meth c nL G Q M cells slots (pc + 1) L (.long (x <<< (y.toInt64 &&& 63)) :: rest)) : V p l e R s m args below meth c nL G Q M cells slots pc L (.int y :: .long x :: rest) := fun H locs ls hR hL hl => lv_lshl hC.1.1 hC.1.2.1 hd rfl (kk H locs ls hR hL hl)
theorem v_lshr {x : Int64} {y : Int32} (hC : Cx p m c s args meth cc nL own nm rt G) (hd : decode cc pc = .ok (.lshr, 1))  (kk : V p l e R s m args below meth c nL G Q M cells slots (pc + 1) L (.long (x >>> (y.toInt64 &&& 63)) :: rest)) : V p l e R s m args below meth c nL G Q M cells slots pc L (.int y :: .long x :: rest) := fun H locs ls hR hL hl => lv_lshr hC.1.1 hC.1.2.1 hd rfl (kk H locs ls hR hL hl)
theorem v_i2l {x : Int32} (hC : Cx p m c s args meth cc nL own nm rt G) (hd : decode cc pc = .ok (.i2l, 1))  (kk : V p l e R s m args below meth c nL G Q M cells slots (pc + 1) L (.long x.toInt64 :: rest)) : V p l e R s m args below meth c nL G Q M cells slots pc L (.int x :: rest) := fun H locs ls hR hL hl => lv_i2l hC.1.1 hC.1.2.1 hd rfl (kk H locs ls hR hL hl)
theorem v_l2i {x : Int64} (hC : Cx p m c s args meth cc nL own nm rt G) (hd : decode cc pc = .ok (.l2i, 1))  (kk : V p l e R s m args below meth c nL G Q M cells slots (pc + 1) L (.int x.toInt32 :: rest)) : V p l e R s m args below meth c nL G Q M cells slots pc L (.long x :: rest) := fun H locs ls hR hL hl => lv_l2i hC.1.1 hC.1.2.1 hd rfl (kk H locs ls hR hL hl)
theorem v_i2c {x : Int32} (hC : Cx p m c s args meth cc nL own nm rt G) (hd : decode cc pc = .ok (.i2c, 1))  (kk : V p l e R s m args below meth c nL G Q M cells slots (pc + 1) L (.int (x.toUInt32 % 65536).toInt32 :: rest)) : V p l e R s m args below meth c nL G Q M cells slots pc L (.int x :: rest) := fun H locs ls hR hL hl => lv_i2c hC.1.1 hC.1.2.1 hd rfl (kk H locs ls hR hL hl)
theorem v_lcmp {x y : Int64} (hC : Cx p m c s args meth cc nL own nm rt G) (hd : decode cc pc = .ok (.lcmp, 1))  (kk : V p l e R s m args below meth c nL G Q M cells slots (pc + 1) L (.int (lg_cmp x y) :: rest)) : V p l e R s m args below meth c nL G Q M cells slots pc L (.long y :: .long x :: rest) := fun H locs ls hR hL hl => W.lcmp hC.1.1 hC.1.2.1 hd  (kk H locs ls hR hL hl)
theorem v_dup {w : Value} (hC : Cx p m c s args meth cc nL own nm rt G) (hd : decode cc pc = .ok (.dup, 1)) (hw : w.category = 1) (kk : V p l e R s m args below meth c nL G Q M cells slots (pc + 1) L (w :: w :: rest)) : V p l e R s m args below meth c nL G Q M cells slots pc L (w :: rest) := fun H locs ls hR hL hl => lv_dup hC.1.1 hC.1.2.1 hd hw (kk H locs ls hR hL hl)
theorem v_pop {w : Value} (hC : Cx p m c s args meth cc nL own nm rt G) (hd : decode cc pc = .ok (.pop, 1)) (hw : w.category = 1) (kk : V p l e R s m args below meth c nL G Q M cells slots (pc + 1) L rest) : V p l e R s m args below meth c nL G Q M cells slots pc L (w :: rest) := fun H locs ls hR hL hl => lv_pop hC.1.1 hC.1.2.1 hd hw (kk H locs ls hR hL hl)
theorem v_dup2 {w u : Value} (hC : Cx p m c s args meth cc nL own nm rt G) (hd : decode cc pc = .ok (.dup2, 1)) (hw : w.category = 1) (hu : u.category = 1) (kk : V p l e R s m args below meth c nL G Q M cells slots (pc + 1) L (w :: u :: w :: u :: rest)) : V p l e R s m args below meth c nL G Q M cells slots pc L (w :: u :: rest) := fun H locs ls hR hL hl => lv_dup2_11 hC.1.1 hC.1.2.1 hd hw hu (kk H locs ls hR hL hl)
theorem v_ldc2 (hC : Cx p m c s args meth cc nL own nm rt G) {index : Nat} {v : Int64} (hl : Cond.constantLong own index v ∈ lw_g) (hd : decode cc pc = .ok (.ldc2_w index, 3)) (kk : V p l e R s m args below meth c nL G Q M cells slots (pc + 3) L (.long v :: rest)) : V p l e R s m args below meth c nL G Q M cells slots pc L rest := fun H locs ls hR hL hl2 => lv_ldc2 hC.1.1 hC.1.2.1 hC.1.2.2.2.1 (hC.1.2.2.2.2 _ hl) hd (kk H locs ls hR hL hl2)
theorem v_goto (hC : Cx p m c s args meth cc nL own nm rt G) {off : Int} {tgt : Nat} (hd : decode cc pc = .ok (.goto off, 3)) (ht : (pc : Int) + off = (tgt : Int)) (kk : V p l e R s m args below meth c nL G Q M cells slots tgt L rest) : V p l e R s m args below meth c nL G Q M cells slots pc L rest := fun H locs ls hR hL hl => lv_goto hC.1.1 hC.1.2.1 hd ht (kk H locs ls hR hL hl)
theorem v_if_eq (hC : Cx p m c s args meth cc nL own nm rt G) {x : Int32} {off : Int} {tgt : Nat} (hd : decode cc pc = .ok (.ifCond .eq off, 3)) (ht : (pc : Int) + off = (tgt : Int)) (kt : x = 0 → V p l e R s m args below meth c nL G Q M cells slots tgt L rest) (kf : ¬ x = 0 → V p l e R s m args below meth c nL G Q M cells slots (pc + 3) L rest) : V p l e R s m args below meth c nL G Q M cells slots pc L (.int x :: rest) := fun H locs ls hR hL hl => lv_if_eq hC.1.1 hC.1.2.1 hd ht (fun h => kt h H locs ls hR hL hl) (fun h => kf h H locs ls hR hL hl)
theorem v_icmp_eq (hC : Cx p m c s args meth cc nL own nm rt G) {x y : Int32} {off : Int} {tgt : Nat} (hd : decode cc pc = .ok (.if_icmp .eq off, 3)) (ht : (pc : Int) + off = (tgt : Int)) (kt : x = y → V p l e R s m args below meth c nL G Q M cells slots tgt L rest) (kf : ¬ x = y → V p l e R s m args below meth c nL G Q M cells slots (pc + 3) L rest) : V p l e R s m args below meth c nL G Q M cells slots pc L (.int y :: .int x :: rest) := fun H locs ls hR hL hl => lv_icmp_eq hC.1.1 hC.1.2.1 hd ht (fun h => kt h H locs ls hR hL hl) (fun h => kf h H locs ls hR hL hl)
theorem v_if_ne (hC : Cx p m c s args meth cc nL own nm rt G) {x : Int32} {off : Int} {tgt : Nat} (hd : decode cc pc = .ok (.ifCond .ne off, 3)) (ht : (pc : Int) + off = (tgt : Int)) (kt : ¬ x = 0 → V p l e R s m args below meth c nL G Q M cells slots tgt L rest) (kf : x = 0 → V p l e R s m args below meth c nL G Q M cells slots (pc + 3) L rest) : V p l e R s m args below meth c nL G Q M cells slots pc L (.int x :: rest) := fun H locs ls hR hL hl => lv_if_ne hC.1.1 hC.1.2.1 hd ht (fun h => kt h H locs ls hR hL hl) (fun h => kf h H locs ls hR hL hl)
theorem v_icmp_ne (hC : Cx p m c s args meth cc nL own nm rt G) {x y : Int32} {off : Int} {tgt : Nat} (hd : decode cc pc = .ok (.if_icmp .ne off, 3)) (ht : (pc : Int) + off = (tgt : Int)) (kt : ¬ x = y → V p l e R s m args below meth c nL G Q M cells slots tgt L rest) (kf : x = y → V p l e R s m args below meth c nL G Q M cells slots (pc + 3) L rest) : V p l e R s m args below meth c nL G Q M cells slots pc L (.int y :: .int x :: rest) := fun H locs ls hR hL hl => lv_icmp_ne hC.1.1 hC.1.2.1 hd ht (fun h => kt h H locs ls hR hL hl) (fun h => kf h H locs ls hR hL hl)
theorem v_if_lt (hC : Cx p m c s args meth cc nL own nm rt G) {x : Int32} {off : Int} {tgt : Nat} (hd : decode cc pc = .ok (.ifCond .lt off, 3)) (ht : (pc : Int) + off = (tgt : Int)) (kt : x < 0 → V p l e R s m args below meth c nL G Q M cells slots tgt L rest) (kf : ¬ x < 0 → V p l e R s m args below meth c nL G Q M cells slots (pc + 3) L rest) : V p l e R s m args below meth c nL G Q M cells slots pc L (.int x :: rest) := fun H locs ls hR hL hl => lv_if_lt hC.1.1 hC.1.2.1 hd ht (fun h => kt h H locs ls hR hL hl) (fun h => kf h H locs ls hR hL hl)
theorem v_icmp_lt (hC : Cx p m c s args meth cc nL own nm rt G) {x y : Int32} {off : Int} {tgt : Nat} (hd : decode cc pc = .ok (.if_icmp .lt off, 3)) (ht : (pc : Int) + off = (tgt : Int)) (kt : x < y → V p l e R s m args below meth c nL G Q M cells slots tgt L rest) (kf : ¬ x < y → V p l e R s m args below meth c nL G Q M cells slots (pc + 3) L rest) : V p l e R s m args below meth c nL G Q M cells slots pc L (.int y :: .int x :: rest) := fun H locs ls hR hL hl => lv_icmp_lt hC.1.1 hC.1.2.1 hd ht (fun h => kt h H locs ls hR hL hl) (fun h => kf h H locs ls hR hL hl)
theorem v_if_ge (hC : Cx p m c s args meth cc nL own nm rt G) {x : Int32} {off : Int} {tgt : Nat} (hd : decode cc pc = .ok (.ifCond .ge off, 3)) (ht : (pc : Int) + off = (tgt : Int)) (kt : 0 ≤ x → V p l e R s m args below meth c nL G Q M cells slots tgt L rest) (kf : ¬ 0 ≤ x → V p l e R s m args below meth c nL G Q M cells slots (pc + 3) L rest) : V p l e R s m args below meth c nL G Q M cells slots pc L (.int x :: rest) := fun H locs ls hR hL hl => lv_if_ge hC.1.1 hC.1.2.1 hd ht (fun h => kt h H locs ls hR hL hl) (fun h => kf h H locs ls hR hL hl)
theorem v_icmp_ge (hC : Cx p m c s args meth cc nL own nm rt G) {x y : Int32} {off : Int} {tgt : Nat} (hd : decode cc pc = .ok (.if_icmp .ge off, 3)) (ht : (pc : Int) + off = (tgt : Int)) (kt : y ≤ x → V p l e R s m args below meth c nL G Q M cells slots tgt L rest) (kf : ¬ y ≤ x → V p l e R s m args below meth c nL G Q M cells slots (pc + 3) L rest) : V p l e R s m args below meth c nL G Q M cells slots pc L (.int y :: .int x :: rest) := fun H locs ls hR hL hl => lv_icmp_ge hC.1.1 hC.1.2.1 hd ht (fun h => kt h H locs ls hR hL hl) (fun h => kf h H locs ls hR hL hl)
theorem v_if_gt (hC : Cx p m c s args meth cc nL own nm rt G) {x : Int32} {off : Int} {tgt : Nat} (hd : decode cc pc = .ok (.ifCond .gt off, 3)) (ht : (pc : Int) + off = (tgt : Int)) (kt : 0 < x → V p l e R s m args below meth c nL G Q M cells slots tgt L rest) (kf : ¬ 0 < x → V p l e R s m args below meth c nL G Q M cells slots (pc + 3) L rest) : V p l e R s m args below meth c nL G Q M cells slots pc L (.int x :: rest) := fun H locs ls hR hL hl => lv_if_gt hC.1.1 hC.1.2.1 hd ht (fun h => kt h H locs ls hR hL hl) (fun h => kf h H locs ls hR hL hl)
theorem v_icmp_gt (hC : Cx p m c s args meth cc nL own nm rt G) {x y : Int32} {off : Int} {tgt : Nat} (hd : decode cc pc = .ok (.if_icmp .gt off, 3)) (ht : (pc : Int) + off = (tgt : Int)) (kt : y < x → V p l e R s m args below meth c nL G Q M cells slots tgt L rest) (kf : ¬ y < x → V p l e R s m args below meth c nL G Q M cells slots (pc + 3) L rest) : V p l e R s m args below meth c nL G Q M cells slots pc L (.int y :: .int x :: rest) := fun H locs ls hR hL hl => lv_icmp_gt hC.1.1 hC.1.2.1 hd ht (fun h => kt h H locs ls hR hL hl) (fun h => kf h H locs ls hR hL hl)
theorem v_if_le (hC : Cx p m c s args meth cc nL own nm rt G) {x : Int32} {off : Int} {tgt : Nat} (hd : decode cc pc = .ok (.ifCond .le off, 3)) (ht : (pc : Int) + off = (tgt : Int)) (kt : x ≤ 0 → V p l e R s m args below meth c nL G Q M cells slots tgt L rest) (kf : ¬ x ≤ 0 → V p l e R s m args below meth c nL G Q M cells slots (pc + 3) L rest) : V p l e R s m args below meth c nL G Q M cells slots pc L (.int x :: rest) := fun H locs ls hR hL hl => lv_if_le hC.1.1 hC.1.2.1 hd ht (fun h => kt h H locs ls hR hL hl) (fun h => kf h H locs ls hR hL hl)
theorem v_icmp_le (hC : Cx p m c s args meth cc nL own nm rt G) {x y : Int32} {off : Int} {tgt : Nat} (hd : decode cc pc = .ok (.if_icmp .le off, 3)) (ht : (pc : Int) + off = (tgt : Int)) (kt : x ≤ y → V p l e R s m args below meth c nL G Q M cells slots tgt L rest) (kf : ¬ x ≤ y → V p l e R s m args below meth c nL G Q M cells slots (pc + 3) L rest) : V p l e R s m args below meth c nL G Q M cells slots pc L (.int y :: .int x :: rest) := fun H locs ls hR hL hl => lv_icmp_le hC.1.1 hC.1.2.1 hd ht (fun h => kt h H locs ls hR hL hl) (fun h => kf h H locs ls hR hL hl)
theorem v_iload_n (hC : Cx p m c s args meth cc nL own nm rt G) {k : Fin 4} {i : Nat} {x : Int32} (hd : decode cc pc = .ok (.iload_n k, 1)) (hi : (k : Nat) = i) (hx : L[i]? = some (some (.int x))) (kk : V p l e R s m args below meth c nL G Q M cells slots (pc + 1) L (.int x :: rest)) : V p l e R s m args below meth c nL G Q M cells slots pc L rest := fun H locs ls hR hL hl => lv_iload_n hC.1.1 hC.1.2.1 hd hi (hl.at hx) (kk H locs ls hR hL hl)
theorem v_iload (hC : Cx p m c s args meth cc nL own nm rt G) {i : Nat} {x : Int32} (hd : decode cc pc = .ok (.iload i, 2)) (hx : L[i]? = some (some (.int x))) (kk : V p l e R s m args below meth c nL G Q M cells slots (pc + 2) L (.int x :: rest)) : V p l e R s m args below meth c nL G Q M cells slots pc L rest := fun H locs ls hR hL hl => lv_iload hC.1.1 hC.1.2.1 hd (hl.at hx) (kk H locs ls hR hL hl)
theorem v_lload_n (hC : Cx p m c s args meth cc nL own nm rt G) {k : Fin 4} {i : Nat} {x : Int64} (hd : decode cc pc = .ok (.lload_n k, 1)) (hi : (k : Nat) = i) (hx : L[i]? = some (some (.long x))) (kk : V p l e R s m args below meth c nL G Q M cells slots (pc + 1) L (.long x :: rest)) : V p l e R s m args below meth c nL G Q M cells slots pc L rest := fun H locs ls hR hL hl => lv_lload_n hC.1.1 hC.1.2.1 hd hi (hl.at hx) (kk H locs ls hR hL hl)
theorem v_lload (hC : Cx p m c s args meth cc nL own nm rt G) {i : Nat} {x : Int64} (hd : decode cc pc = .ok (.lload i, 2)) (hx : L[i]? = some (some (.long x))) (kk : V p l e R s m args below meth c nL G Q M cells slots (pc + 2) L (.long x :: rest)) : V p l e R s m args below meth c nL G Q M cells slots pc L rest := fun H locs ls hR hL hl => lv_lload hC.1.1 hC.1.2.1 hd (hl.at hx) (kk H locs ls hR hL hl)
theorem v_aload_n (hC : Cx p m c s args meth cc nL own nm rt G) {k : Fin 4} {i : Nat} {x : Nat} (hd : decode cc pc = .ok (.aload_n k, 1)) (hi : (k : Nat) = i) (hx : L[i]? = some (some (.ref x))) (kk : V p l e R s m args below meth c nL G Q M cells slots (pc + 1) L (.ref x :: rest)) : V p l e R s m args below meth c nL G Q M cells slots pc L rest := fun H locs ls hR hL hl => lv_aload_n hC.1.1 hC.1.2.1 hd hi (hl.at hx) (kk H locs ls hR hL hl)
theorem v_aload (hC : Cx p m c s args meth cc nL own nm rt G) {i : Nat} {x : Nat} (hd : decode cc pc = .ok (.aload i, 2)) (hx : L[i]? = some (some (.ref x))) (kk : V p l e R s m args below meth c nL G Q M cells slots (pc + 2) L (.ref x :: rest)) : V p l e R s m args below meth c nL G Q M cells slots pc L rest := fun H locs ls hR hL hl => lv_aload hC.1.1 hC.1.2.1 hd (hl.at hx) (kk H locs ls hR hL hl)
theorem v_istore_n (hC : Cx p m c s args meth cc nL own nm rt G) {k : Fin 4} {i : Nat} {x : Int32} (hd : decode cc pc = .ok (.istore_n k, 1)) (hi : (k : Nat) = i) (hn : i < nL) (hp : ∀ w, L[i - 1]? = some w → c1 w = true) (kk : V p l e R s m args below meth c nL G Q M cells slots (pc + 1) (L.set i (some (.int x))) rest) : V p l e R s m args below meth c nL G Q M cells slots pc L (.int x :: rest) := fun H locs ls hR hL hl => lv_istore_n hC.1.1 hC.1.2.1 hd hi hl hn rfl (fun ls2 h2 => kk H locs ls2 hR hL (LH.st1 h2 hp))
theorem v_istore (hC : Cx p m c s args meth cc nL own nm rt G) {i : Nat} {x : Int32} (hd : decode cc pc = .ok (.istore i, 2)) (hn : i < nL) (hp : ∀ w, L[i - 1]? = some w → c1 w = true) (kk : V p l e R s m args below meth c nL G Q M cells slots (pc + 2) (L.set i (some (.int x))) rest) : V p l e R s m args below meth c nL G Q M cells slots pc L (.int x :: rest) := fun H locs ls hR hL hl => lv_istore hC.1.1 hC.1.2.1 hd hl hn rfl (fun ls2 h2 => kk H locs ls2 hR hL (LH.st1 h2 hp))
theorem v_astore_n (hC : Cx p m c s args meth cc nL own nm rt G) {k : Fin 4} {i : Nat} {x : Nat} (hd : decode cc pc = .ok (.astore_n k, 1)) (hi : (k : Nat) = i) (hn : i < nL) (hp : ∀ w, L[i - 1]? = some w → c1 w = true) (kk : V p l e R s m args below meth c nL G Q M cells slots (pc + 1) (L.set i (some (.ref x))) rest) : V p l e R s m args below meth c nL G Q M cells slots pc L (.ref x :: rest) := fun H locs ls hR hL hl => lv_astore_n hC.1.1 hC.1.2.1 hd hi hl hn rfl (fun ls2 h2 => kk H locs ls2 hR hL (LH.st1 h2 hp))
theorem v_astore (hC : Cx p m c s args meth cc nL own nm rt G) {i : Nat} {x : Nat} (hd : decode cc pc = .ok (.astore i, 2)) (hn : i < nL) (hp : ∀ w, L[i - 1]? = some w → c1 w = true) (kk : V p l e R s m args below meth c nL G Q M cells slots (pc + 2) (L.set i (some (.ref x))) rest) : V p l e R s m args below meth c nL G Q M cells slots pc L (.ref x :: rest) := fun H locs ls hR hL hl => lv_astore hC.1.1 hC.1.2.1 hd hl hn rfl (fun ls2 h2 => kk H locs ls2 hR hL (LH.st1 h2 hp))
theorem v_lstore_n (hC : Cx p m c s args meth cc nL own nm rt G) {k : Fin 4} {i : Nat} {x : Int64} (hd : decode cc pc = .ok (.lstore_n k, 1)) (hi : (k : Nat) = i) (hn : i + 1 < nL) (hp : ∀ w, L[i - 1]? = some w → c1 w = true) (kk : V p l e R s m args below meth c nL G Q M cells slots (pc + 1) ((L.set i (some (.long x))).set (i + 1) none) rest) : V p l e R s m args below meth c nL G Q M cells slots pc L (.long x :: rest) := fun H locs ls hR hL hl => lv_lstore_n hC.1.1 hC.1.2.1 hd hi hl hn rfl (fun ls2 h2 => kk H locs ls2 hR hL (LH.st2 h2 hp))
theorem v_lstore (hC : Cx p m c s args meth cc nL own nm rt G) {i : Nat} {x : Int64} (hd : decode cc pc = .ok (.lstore i, 2)) (hn : i + 1 < nL) (hp : ∀ w, L[i - 1]? = some w → c1 w = true) (kk : V p l e R s m args below meth c nL G Q M cells slots (pc + 2) ((L.set i (some (.long x))).set (i + 1) none) rest) : V p l e R s m args below meth c nL G Q M cells slots pc L (.long x :: rest) := fun H locs ls hR hL hl => lv_lstore hC.1.1 hC.1.2.1 hd hl hn rfl (fun ls2 h2 => kk H locs ls2 hR hL (LH.st2 h2 hp))
theorem lq_ix {L : Lo} {i : Nat} {v : Value} (h : L[i]? = some (some v)) : ∃ k : Nat, (lq 0 L)[k]? = some (i, v) := by
  have h1 := lq_mem (i := 0) h
  rw [Nat.zero_add] at h1
  exact List.getElem?_of_mem h1
theorem v_iinc (hC : Cx p m c s args meth cc nL own nm rt G) {i : Nat} {n : Int} {x v : Int32} (hd : decode cc pc = .ok (.iinc i n, 3)) (hx : L[i]? = some (some (.int x))) (hv : x + Int32.ofInt n = v) (hn : i < nL) (hp : ∀ w, L[i - 1]? = some w → c1 w = true) (kk : V p l e R s m args below meth c nL G Q M cells slots (pc + 3) (L.set i (some (.int v))) rest) : V p l e R s m args below meth c nL G Q M cells slots pc L rest := fun H locs ls hR hL hl => by
  obtain ⟨k, hk⟩ := lq_ix hx
  exact lv_iinc hC.1.1 hC.1.2.1 hd hl hk hv hn rfl (fun ls2 h2 => kk H locs ls2 hR hL (LH.st1 h2 hp))
theorem v_ist0 (hC : Cx p m c s args meth cc nL own nm rt G) {a0 : Option Value} {x : Int32} (hd : decode cc pc = .ok (.istore_n 0, 1)) (hn : 0 < nL) (hp : c1 a0 = true := by rfl) (kk : V p l e R s m args below meth c nL G Q M cells slots (pc + 1) (some (.int x) :: L) rest) : V p l e R s m args below meth c nL G Q M cells slots pc (a0 :: L) (.int x :: rest) := v_istore_n (L := (a0 :: L)) hC hd rfl hn (fun w h => by have e : w = a0 := (Option.some.inj h).symm; rw [e]; exact hp) kk
theorem v_ast0 (hC : Cx p m c s args meth cc nL own nm rt G) {a0 : Option Value} {x : Nat} (hd : decode cc pc = .ok (.astore_n 0, 1)) (hn : 0 < nL) (hp : c1 a0 = true := by rfl) (kk : V p l e R s m args below meth c nL G Q M cells slots (pc + 1) (some (.ref x) :: L) rest) : V p l e R s m args below meth c nL G Q M cells slots pc (a0 :: L) (.ref x :: rest) := v_astore_n (L := (a0 :: L)) hC hd rfl hn (fun w h => by have e : w = a0 := (Option.some.inj h).symm; rw [e]; exact hp) kk
theorem v_inc0 (hC : Cx p m c s args meth cc nL own nm rt G)  {n : Int} {x v : Int32} (hd : decode cc pc = .ok (.iinc 0 n, 3)) (hv : x + Int32.ofInt n = v) (hn : 0 < nL) (kk : V p l e R s m args below meth c nL G Q M cells slots (pc + 3) (some (.int v) :: L) rest) : V p l e R s m args below meth c nL G Q M cells slots pc (some (.int x) :: L) rest := v_iinc (L := (some (.int x) :: L)) hC hd rfl hv hn (fun w h => by have e : w = some (.int x) := (Option.some.inj h).symm; rw [e]; rfl) kk
theorem v_lst0 (hC : Cx p m c s args meth cc nL own nm rt G) {a0 a1 : Option Value} {x : Int64} (hd : decode cc pc = .ok (.lstore_n 0, 1)) (hn : 0 + 1 < nL) (hp : c1 a0 = true := by rfl) (kk : V p l e R s m args below meth c nL G Q M cells slots (pc + 1) (some (.long x) :: none :: L) rest) : V p l e R s m args below meth c nL G Q M cells slots pc (a0 :: a1 :: L) (.long x :: rest) := v_lstore_n (L := (a0 :: a1 :: L)) hC hd rfl hn (fun w h => by have e : w = a0 := (Option.some.inj h).symm; rw [e]; exact hp) kk
theorem v_ist1 (hC : Cx p m c s args meth cc nL own nm rt G) {a0 a1 : Option Value} {x : Int32} (hd : decode cc pc = .ok (.istore_n 1, 1)) (hn : 1 < nL) (hp : c1 a0 = true := by rfl) (kk : V p l e R s m args below meth c nL G Q M cells slots (pc + 1) (a0 :: some (.int x) :: L) rest) : V p l e R s m args below meth c nL G Q M cells slots pc (a0 :: a1 :: L) (.int x :: rest) := v_istore_n (L := (a0 :: a1 :: L)) hC hd rfl hn (fun w h => by have e : w = a0 := (Option.some.inj h).symm; rw [e]; exact hp) kk
theorem v_ast1 (hC : Cx p m c s args meth cc nL own nm rt G) {a0 a1 : Option Value} {x : Nat} (hd : decode cc pc = .ok (.astore_n 1, 1)) (hn : 1 < nL) (hp : c1 a0 = true := by rfl) (kk : V p l e R s m args below meth c nL G Q M cells slots (pc + 1) (a0 :: some (.ref x) :: L) rest) : V p l e R s m args below meth c nL G Q M cells slots pc (a0 :: a1 :: L) (.ref x :: rest) := v_astore_n (L := (a0 :: a1 :: L)) hC hd rfl hn (fun w h => by have e : w = a0 := (Option.some.inj h).symm; rw [e]; exact hp) kk
theorem v_inc1 (hC : Cx p m c s args meth cc nL own nm rt G) {a0 : Option Value} {n : Int} {x v : Int32} (hd : decode cc pc = .ok (.iinc 1 n, 3)) (hv : x + Int32.ofInt n = v) (hn : 1 < nL) (hp : c1 a0 = true := by rfl) (kk : V p l e R s m args below meth c nL G Q M cells slots (pc + 3) (a0 :: some (.int v) :: L) rest) : V p l e R s m args below meth c nL G Q M cells slots pc (a0 :: some (.int x) :: L) rest := v_iinc (L := (a0 :: some (.int x) :: L)) hC hd rfl hv hn (fun w h => by have e : w = a0 := (Option.some.inj h).symm; rw [e]; exact hp) kk
theorem v_lst1 (hC : Cx p m c s args meth cc nL own nm rt G) {a0 a1 a2 : Option Value} {x : Int64} (hd : decode cc pc = .ok (.lstore_n 1, 1)) (hn : 1 + 1 < nL) (hp : c1 a0 = true := by rfl) (kk : V p l e R s m args below meth c nL G Q M cells slots (pc + 1) (a0 :: some (.long x) :: none :: L) rest) : V p l e R s m args below meth c nL G Q M cells slots pc (a0 :: a1 :: a2 :: L) (.long x :: rest) := v_lstore_n (L := (a0 :: a1 :: a2 :: L)) hC hd rfl hn (fun w h => by have e : w = a0 := (Option.some.inj h).symm; rw [e]; exact hp) kk
theorem v_ist2 (hC : Cx p m c s args meth cc nL own nm rt G) {a0 a1 a2 : Option Value} {x : Int32} (hd : decode cc pc = .ok (.istore_n 2, 1)) (hn : 2 < nL) (hp : c1 a1 = true := by rfl) (kk : V p l e R s m args below meth c nL G Q M cells slots (pc + 1) (a0 :: a1 :: some (.int x) :: L) rest) : V p l e R s m args below meth c nL G Q M cells slots pc (a0 :: a1 :: a2 :: L) (.int x :: rest) := v_istore_n (L := (a0 :: a1 :: a2 :: L)) hC hd rfl hn (fun w h => by have e : w = a1 := (Option.some.inj h).symm; rw [e]; exact hp) kk
theorem v_ast2 (hC : Cx p m c s args meth cc nL own nm rt G) {a0 a1 a2 : Option Value} {x : Nat} (hd : decode cc pc = .ok (.astore_n 2, 1)) (hn : 2 < nL) (hp : c1 a1 = true := by rfl) (kk : V p l e R s m args below meth c nL G Q M cells slots (pc + 1) (a0 :: a1 :: some (.ref x) :: L) rest) : V p l e R s m args below meth c nL G Q M cells slots pc (a0 :: a1 :: a2 :: L) (.ref x :: rest) := v_astore_n (L := (a0 :: a1 :: a2 :: L)) hC hd rfl hn (fun w h => by have e : w = a1 := (Option.some.inj h).symm; rw [e]; exact hp) kk
theorem v_inc2 (hC : Cx p m c s args meth cc nL own nm rt G) {a0 a1 : Option Value} {n : Int} {x v : Int32} (hd : decode cc pc = .ok (.iinc 2 n, 3)) (hv : x + Int32.ofInt n = v) (hn : 2 < nL) (hp : c1 a1 = true := by rfl) (kk : V p l e R s m args below meth c nL G Q M cells slots (pc + 3) (a0 :: a1 :: some (.int v) :: L) rest) : V p l e R s m args below meth c nL G Q M cells slots pc (a0 :: a1 :: some (.int x) :: L) rest := v_iinc (L := (a0 :: a1 :: some (.int x) :: L)) hC hd rfl hv hn (fun w h => by have e : w = a1 := (Option.some.inj h).symm; rw [e]; exact hp) kk
theorem v_lst2 (hC : Cx p m c s args meth cc nL own nm rt G) {a0 a1 a2 a3 : Option Value} {x : Int64} (hd : decode cc pc = .ok (.lstore_n 2, 1)) (hn : 2 + 1 < nL) (hp : c1 a1 = true := by rfl) (kk : V p l e R s m args below meth c nL G Q M cells slots (pc + 1) (a0 :: a1 :: some (.long x) :: none :: L) rest) : V p l e R s m args below meth c nL G Q M cells slots pc (a0 :: a1 :: a2 :: a3 :: L) (.long x :: rest) := v_lstore_n (L := (a0 :: a1 :: a2 :: a3 :: L)) hC hd rfl hn (fun w h => by have e : w = a1 := (Option.some.inj h).symm; rw [e]; exact hp) kk
theorem v_ist3 (hC : Cx p m c s args meth cc nL own nm rt G) {a0 a1 a2 a3 : Option Value} {x : Int32} (hd : decode cc pc = .ok (.istore_n 3, 1)) (hn : 3 < nL) (hp : c1 a2 = true := by rfl) (kk : V p l e R s m args below meth c nL G Q M cells slots (pc + 1) (a0 :: a1 :: a2 :: some (.int x) :: L) rest) : V p l e R s m args below meth c nL G Q M cells slots pc (a0 :: a1 :: a2 :: a3 :: L) (.int x :: rest) := v_istore_n (L := (a0 :: a1 :: a2 :: a3 :: L)) hC hd rfl hn (fun w h => by have e : w = a2 := (Option.some.inj h).symm; rw [e]; exact hp) kk
theorem v_ast3 (hC : Cx p m c s args meth cc nL own nm rt G) {a0 a1 a2 a3 : Option Value} {x : Nat} (hd : decode cc pc = .ok (.astore_n 3, 1)) (hn : 3 < nL) (hp : c1 a2 = true := by rfl) (kk : V p l e R s m args below meth c nL G Q M cells slots (pc + 1) (a0 :: a1 :: a2 :: some (.ref x) :: L) rest) : V p l e R s m args below meth c nL G Q M cells slots pc (a0 :: a1 :: a2 :: a3 :: L) (.ref x :: rest) := v_astore_n (L := (a0 :: a1 :: a2 :: a3 :: L)) hC hd rfl hn (fun w h => by have e : w = a2 := (Option.some.inj h).symm; rw [e]; exact hp) kk
theorem v_inc3 (hC : Cx p m c s args meth cc nL own nm rt G) {a0 a1 a2 : Option Value} {n : Int} {x v : Int32} (hd : decode cc pc = .ok (.iinc 3 n, 3)) (hv : x + Int32.ofInt n = v) (hn : 3 < nL) (hp : c1 a2 = true := by rfl) (kk : V p l e R s m args below meth c nL G Q M cells slots (pc + 3) (a0 :: a1 :: a2 :: some (.int v) :: L) rest) : V p l e R s m args below meth c nL G Q M cells slots pc (a0 :: a1 :: a2 :: some (.int x) :: L) rest := v_iinc (L := (a0 :: a1 :: a2 :: some (.int x) :: L)) hC hd rfl hv hn (fun w h => by have e : w = a2 := (Option.some.inj h).symm; rw [e]; exact hp) kk
theorem v_lst3 (hC : Cx p m c s args meth cc nL own nm rt G) {a0 a1 a2 a3 a4 : Option Value} {x : Int64} (hd : decode cc pc = .ok (.lstore_n 3, 1)) (hn : 3 + 1 < nL) (hp : c1 a2 = true := by rfl) (kk : V p l e R s m args below meth c nL G Q M cells slots (pc + 1) (a0 :: a1 :: a2 :: some (.long x) :: none :: L) rest) : V p l e R s m args below meth c nL G Q M cells slots pc (a0 :: a1 :: a2 :: a3 :: a4 :: L) (.long x :: rest) := v_lstore_n (L := (a0 :: a1 :: a2 :: a3 :: a4 :: L)) hC hd rfl hn (fun w h => by have e : w = a2 := (Option.some.inj h).symm; rw [e]; exact hp) kk
theorem v_ist4 (hC : Cx p m c s args meth cc nL own nm rt G) {a0 a1 a2 a3 a4 : Option Value} {x : Int32} (hd : decode cc pc = .ok (.istore 4, 2)) (hn : 4 < nL) (hp : c1 a3 = true := by rfl) (kk : V p l e R s m args below meth c nL G Q M cells slots (pc + 2) (a0 :: a1 :: a2 :: a3 :: some (.int x) :: L) rest) : V p l e R s m args below meth c nL G Q M cells slots pc (a0 :: a1 :: a2 :: a3 :: a4 :: L) (.int x :: rest) := v_istore (L := (a0 :: a1 :: a2 :: a3 :: a4 :: L)) hC hd hn (fun w h => by have e : w = a3 := (Option.some.inj h).symm; rw [e]; exact hp) kk
theorem v_ast4 (hC : Cx p m c s args meth cc nL own nm rt G) {a0 a1 a2 a3 a4 : Option Value} {x : Nat} (hd : decode cc pc = .ok (.astore 4, 2)) (hn : 4 < nL) (hp : c1 a3 = true := by rfl) (kk : V p l e R s m args below meth c nL G Q M cells slots (pc + 2) (a0 :: a1 :: a2 :: a3 :: some (.ref x) :: L) rest) : V p l e R s m args below meth c nL G Q M cells slots pc (a0 :: a1 :: a2 :: a3 :: a4 :: L) (.ref x :: rest) := v_astore (L := (a0 :: a1 :: a2 :: a3 :: a4 :: L)) hC hd hn (fun w h => by have e : w = a3 := (Option.some.inj h).symm; rw [e]; exact hp) kk
theorem v_inc4 (hC : Cx p m c s args meth cc nL own nm rt G) {a0 a1 a2 a3 : Option Value} {n : Int} {x v : Int32} (hd : decode cc pc = .ok (.iinc 4 n, 3)) (hv : x + Int32.ofInt n = v) (hn : 4 < nL) (hp : c1 a3 = true := by rfl) (kk : V p l e R s m args below meth c nL G Q M cells slots (pc + 3) (a0 :: a1 :: a2 :: a3 :: some (.int v) :: L) rest) : V p l e R s m args below meth c nL G Q M cells slots pc (a0 :: a1 :: a2 :: a3 :: some (.int x) :: L) rest := v_iinc (L := (a0 :: a1 :: a2 :: a3 :: some (.int x) :: L)) hC hd rfl hv hn (fun w h => by have e : w = a3 := (Option.some.inj h).symm; rw [e]; exact hp) kk
theorem v_lst4 (hC : Cx p m c s args meth cc nL own nm rt G) {a0 a1 a2 a3 a4 a5 : Option Value} {x : Int64} (hd : decode cc pc = .ok (.lstore 4, 2)) (hn : 4 + 1 < nL) (hp : c1 a3 = true := by rfl) (kk : V p l e R s m args below meth c nL G Q M cells slots (pc + 2) (a0 :: a1 :: a2 :: a3 :: some (.long x) :: none :: L) rest) : V p l e R s m args below meth c nL G Q M cells slots pc (a0 :: a1 :: a2 :: a3 :: a4 :: a5 :: L) (.long x :: rest) := v_lstore (L := (a0 :: a1 :: a2 :: a3 :: a4 :: a5 :: L)) hC hd hn (fun w h => by have e : w = a3 := (Option.some.inj h).symm; rw [e]; exact hp) kk
theorem v_ist5 (hC : Cx p m c s args meth cc nL own nm rt G) {a0 a1 a2 a3 a4 a5 : Option Value} {x : Int32} (hd : decode cc pc = .ok (.istore 5, 2)) (hn : 5 < nL) (hp : c1 a4 = true := by rfl) (kk : V p l e R s m args below meth c nL G Q M cells slots (pc + 2) (a0 :: a1 :: a2 :: a3 :: a4 :: some (.int x) :: L) rest) : V p l e R s m args below meth c nL G Q M cells slots pc (a0 :: a1 :: a2 :: a3 :: a4 :: a5 :: L) (.int x :: rest) := v_istore (L := (a0 :: a1 :: a2 :: a3 :: a4 :: a5 :: L)) hC hd hn (fun w h => by have e : w = a4 := (Option.some.inj h).symm; rw [e]; exact hp) kk
theorem v_ast5 (hC : Cx p m c s args meth cc nL own nm rt G) {a0 a1 a2 a3 a4 a5 : Option Value} {x : Nat} (hd : decode cc pc = .ok (.astore 5, 2)) (hn : 5 < nL) (hp : c1 a4 = true := by rfl) (kk : V p l e R s m args below meth c nL G Q M cells slots (pc + 2) (a0 :: a1 :: a2 :: a3 :: a4 :: some (.ref x) :: L) rest) : V p l e R s m args below meth c nL G Q M cells slots pc (a0 :: a1 :: a2 :: a3 :: a4 :: a5 :: L) (.ref x :: rest) := v_astore (L := (a0 :: a1 :: a2 :: a3 :: a4 :: a5 :: L)) hC hd hn (fun w h => by have e : w = a4 := (Option.some.inj h).symm; rw [e]; exact hp) kk
theorem v_inc5 (hC : Cx p m c s args meth cc nL own nm rt G) {a0 a1 a2 a3 a4 : Option Value} {n : Int} {x v : Int32} (hd : decode cc pc = .ok (.iinc 5 n, 3)) (hv : x + Int32.ofInt n = v) (hn : 5 < nL) (hp : c1 a4 = true := by rfl) (kk : V p l e R s m args below meth c nL G Q M cells slots (pc + 3) (a0 :: a1 :: a2 :: a3 :: a4 :: some (.int v) :: L) rest) : V p l e R s m args below meth c nL G Q M cells slots pc (a0 :: a1 :: a2 :: a3 :: a4 :: some (.int x) :: L) rest := v_iinc (L := (a0 :: a1 :: a2 :: a3 :: a4 :: some (.int x) :: L)) hC hd rfl hv hn (fun w h => by have e : w = a4 := (Option.some.inj h).symm; rw [e]; exact hp) kk
theorem v_lst5 (hC : Cx p m c s args meth cc nL own nm rt G) {a0 a1 a2 a3 a4 a5 a6 : Option Value} {x : Int64} (hd : decode cc pc = .ok (.lstore 5, 2)) (hn : 5 + 1 < nL) (hp : c1 a4 = true := by rfl) (kk : V p l e R s m args below meth c nL G Q M cells slots (pc + 2) (a0 :: a1 :: a2 :: a3 :: a4 :: some (.long x) :: none :: L) rest) : V p l e R s m args below meth c nL G Q M cells slots pc (a0 :: a1 :: a2 :: a3 :: a4 :: a5 :: a6 :: L) (.long x :: rest) := v_lstore (L := (a0 :: a1 :: a2 :: a3 :: a4 :: a5 :: a6 :: L)) hC hd hn (fun w h => by have e : w = a4 := (Option.some.inj h).symm; rw [e]; exact hp) kk
theorem v_ist6 (hC : Cx p m c s args meth cc nL own nm rt G) {a0 a1 a2 a3 a4 a5 a6 : Option Value} {x : Int32} (hd : decode cc pc = .ok (.istore 6, 2)) (hn : 6 < nL) (hp : c1 a5 = true := by rfl) (kk : V p l e R s m args below meth c nL G Q M cells slots (pc + 2) (a0 :: a1 :: a2 :: a3 :: a4 :: a5 :: some (.int x) :: L) rest) : V p l e R s m args below meth c nL G Q M cells slots pc (a0 :: a1 :: a2 :: a3 :: a4 :: a5 :: a6 :: L) (.int x :: rest) := v_istore (L := (a0 :: a1 :: a2 :: a3 :: a4 :: a5 :: a6 :: L)) hC hd hn (fun w h => by have e : w = a5 := (Option.some.inj h).symm; rw [e]; exact hp) kk
theorem v_ast6 (hC : Cx p m c s args meth cc nL own nm rt G) {a0 a1 a2 a3 a4 a5 a6 : Option Value} {x : Nat} (hd : decode cc pc = .ok (.astore 6, 2)) (hn : 6 < nL) (hp : c1 a5 = true := by rfl) (kk : V p l e R s m args below meth c nL G Q M cells slots (pc + 2) (a0 :: a1 :: a2 :: a3 :: a4 :: a5 :: some (.ref x) :: L) rest) : V p l e R s m args below meth c nL G Q M cells slots pc (a0 :: a1 :: a2 :: a3 :: a4 :: a5 :: a6 :: L) (.ref x :: rest) := v_astore (L := (a0 :: a1 :: a2 :: a3 :: a4 :: a5 :: a6 :: L)) hC hd hn (fun w h => by have e : w = a5 := (Option.some.inj h).symm; rw [e]; exact hp) kk
theorem v_inc6 (hC : Cx p m c s args meth cc nL own nm rt G) {a0 a1 a2 a3 a4 a5 : Option Value} {n : Int} {x v : Int32} (hd : decode cc pc = .ok (.iinc 6 n, 3)) (hv : x + Int32.ofInt n = v) (hn : 6 < nL) (hp : c1 a5 = true := by rfl) (kk : V p l e R s m args below meth c nL G Q M cells slots (pc + 3) (a0 :: a1 :: a2 :: a3 :: a4 :: a5 :: some (.int v) :: L) rest) : V p l e R s m args below meth c nL G Q M cells slots pc (a0 :: a1 :: a2 :: a3 :: a4 :: a5 :: some (.int x) :: L) rest := v_iinc (L := (a0 :: a1 :: a2 :: a3 :: a4 :: a5 :: some (.int x) :: L)) hC hd rfl hv hn (fun w h => by have e : w = a5 := (Option.some.inj h).symm; rw [e]; exact hp) kk
theorem v_lst6 (hC : Cx p m c s args meth cc nL own nm rt G) {a0 a1 a2 a3 a4 a5 a6 a7 : Option Value} {x : Int64} (hd : decode cc pc = .ok (.lstore 6, 2)) (hn : 6 + 1 < nL) (hp : c1 a5 = true := by rfl) (kk : V p l e R s m args below meth c nL G Q M cells slots (pc + 2) (a0 :: a1 :: a2 :: a3 :: a4 :: a5 :: some (.long x) :: none :: L) rest) : V p l e R s m args below meth c nL G Q M cells slots pc (a0 :: a1 :: a2 :: a3 :: a4 :: a5 :: a6 :: a7 :: L) (.long x :: rest) := v_lstore (L := (a0 :: a1 :: a2 :: a3 :: a4 :: a5 :: a6 :: a7 :: L)) hC hd hn (fun w h => by have e : w = a5 := (Option.some.inj h).symm; rw [e]; exact hp) kk
theorem v_ist7 (hC : Cx p m c s args meth cc nL own nm rt G) {a0 a1 a2 a3 a4 a5 a6 a7 : Option Value} {x : Int32} (hd : decode cc pc = .ok (.istore 7, 2)) (hn : 7 < nL) (hp : c1 a6 = true := by rfl) (kk : V p l e R s m args below meth c nL G Q M cells slots (pc + 2) (a0 :: a1 :: a2 :: a3 :: a4 :: a5 :: a6 :: some (.int x) :: L) rest) : V p l e R s m args below meth c nL G Q M cells slots pc (a0 :: a1 :: a2 :: a3 :: a4 :: a5 :: a6 :: a7 :: L) (.int x :: rest) := v_istore (L := (a0 :: a1 :: a2 :: a3 :: a4 :: a5 :: a6 :: a7 :: L)) hC hd hn (fun w h => by have e : w = a6 := (Option.some.inj h).symm; rw [e]; exact hp) kk
theorem v_ast7 (hC : Cx p m c s args meth cc nL own nm rt G) {a0 a1 a2 a3 a4 a5 a6 a7 : Option Value} {x : Nat} (hd : decode cc pc = .ok (.astore 7, 2)) (hn : 7 < nL) (hp : c1 a6 = true := by rfl) (kk : V p l e R s m args below meth c nL G Q M cells slots (pc + 2) (a0 :: a1 :: a2 :: a3 :: a4 :: a5 :: a6 :: some (.ref x) :: L) rest) : V p l e R s m args below meth c nL G Q M cells slots pc (a0 :: a1 :: a2 :: a3 :: a4 :: a5 :: a6 :: a7 :: L) (.ref x :: rest) := v_astore (L := (a0 :: a1 :: a2 :: a3 :: a4 :: a5 :: a6 :: a7 :: L)) hC hd hn (fun w h => by have e : w = a6 := (Option.some.inj h).symm; rw [e]; exact hp) kk
theorem v_inc7 (hC : Cx p m c s args meth cc nL own nm rt G) {a0 a1 a2 a3 a4 a5 a6 : Option Value} {n : Int} {x v : Int32} (hd : decode cc pc = .ok (.iinc 7 n, 3)) (hv : x + Int32.ofInt n = v) (hn : 7 < nL) (hp : c1 a6 = true := by rfl) (kk : V p l e R s m args below meth c nL G Q M cells slots (pc + 3) (a0 :: a1 :: a2 :: a3 :: a4 :: a5 :: a6 :: some (.int v) :: L) rest) : V p l e R s m args below meth c nL G Q M cells slots pc (a0 :: a1 :: a2 :: a3 :: a4 :: a5 :: a6 :: some (.int x) :: L) rest := v_iinc (L := (a0 :: a1 :: a2 :: a3 :: a4 :: a5 :: a6 :: some (.int x) :: L)) hC hd rfl hv hn (fun w h => by have e : w = a6 := (Option.some.inj h).symm; rw [e]; exact hp) kk
theorem v_lst7 (hC : Cx p m c s args meth cc nL own nm rt G) {a0 a1 a2 a3 a4 a5 a6 a7 a8 : Option Value} {x : Int64} (hd : decode cc pc = .ok (.lstore 7, 2)) (hn : 7 + 1 < nL) (hp : c1 a6 = true := by rfl) (kk : V p l e R s m args below meth c nL G Q M cells slots (pc + 2) (a0 :: a1 :: a2 :: a3 :: a4 :: a5 :: a6 :: some (.long x) :: none :: L) rest) : V p l e R s m args below meth c nL G Q M cells slots pc (a0 :: a1 :: a2 :: a3 :: a4 :: a5 :: a6 :: a7 :: a8 :: L) (.long x :: rest) := v_lstore (L := (a0 :: a1 :: a2 :: a3 :: a4 :: a5 :: a6 :: a7 :: a8 :: L)) hC hd hn (fun w h => by have e : w = a6 := (Option.some.inj h).symm; rw [e]; exact hp) kk
theorem v_ist8 (hC : Cx p m c s args meth cc nL own nm rt G) {a0 a1 a2 a3 a4 a5 a6 a7 a8 : Option Value} {x : Int32} (hd : decode cc pc = .ok (.istore 8, 2)) (hn : 8 < nL) (hp : c1 a7 = true := by rfl) (kk : V p l e R s m args below meth c nL G Q M cells slots (pc + 2) (a0 :: a1 :: a2 :: a3 :: a4 :: a5 :: a6 :: a7 :: some (.int x) :: L) rest) : V p l e R s m args below meth c nL G Q M cells slots pc (a0 :: a1 :: a2 :: a3 :: a4 :: a5 :: a6 :: a7 :: a8 :: L) (.int x :: rest) := v_istore (L := (a0 :: a1 :: a2 :: a3 :: a4 :: a5 :: a6 :: a7 :: a8 :: L)) hC hd hn (fun w h => by have e : w = a7 := (Option.some.inj h).symm; rw [e]; exact hp) kk
theorem v_ast8 (hC : Cx p m c s args meth cc nL own nm rt G) {a0 a1 a2 a3 a4 a5 a6 a7 a8 : Option Value} {x : Nat} (hd : decode cc pc = .ok (.astore 8, 2)) (hn : 8 < nL) (hp : c1 a7 = true := by rfl) (kk : V p l e R s m args below meth c nL G Q M cells slots (pc + 2) (a0 :: a1 :: a2 :: a3 :: a4 :: a5 :: a6 :: a7 :: some (.ref x) :: L) rest) : V p l e R s m args below meth c nL G Q M cells slots pc (a0 :: a1 :: a2 :: a3 :: a4 :: a5 :: a6 :: a7 :: a8 :: L) (.ref x :: rest) := v_astore (L := (a0 :: a1 :: a2 :: a3 :: a4 :: a5 :: a6 :: a7 :: a8 :: L)) hC hd hn (fun w h => by have e : w = a7 := (Option.some.inj h).symm; rw [e]; exact hp) kk
theorem v_inc8 (hC : Cx p m c s args meth cc nL own nm rt G) {a0 a1 a2 a3 a4 a5 a6 a7 : Option Value} {n : Int} {x v : Int32} (hd : decode cc pc = .ok (.iinc 8 n, 3)) (hv : x + Int32.ofInt n = v) (hn : 8 < nL) (hp : c1 a7 = true := by rfl) (kk : V p l e R s m args below meth c nL G Q M cells slots (pc + 3) (a0 :: a1 :: a2 :: a3 :: a4 :: a5 :: a6 :: a7 :: some (.int v) :: L) rest) : V p l e R s m args below meth c nL G Q M cells slots pc (a0 :: a1 :: a2 :: a3 :: a4 :: a5 :: a6 :: a7 :: some (.int x) :: L) rest := v_iinc (L := (a0 :: a1 :: a2 :: a3 :: a4 :: a5 :: a6 :: a7 :: some (.int x) :: L)) hC hd rfl hv hn (fun w h => by have e : w = a7 := (Option.some.inj h).symm; rw [e]; exact hp) kk
theorem v_lst8 (hC : Cx p m c s args meth cc nL own nm rt G) {a0 a1 a2 a3 a4 a5 a6 a7 a8 a9 : Option Value} {x : Int64} (hd : decode cc pc = .ok (.lstore 8, 2)) (hn : 8 + 1 < nL) (hp : c1 a7 = true := by rfl) (kk : V p l e R s m args below meth c nL G Q M cells slots (pc + 2) (a0 :: a1 :: a2 :: a3 :: a4 :: a5 :: a6 :: a7 :: some (.long x) :: none :: L) rest) : V p l e R s m args below meth c nL G Q M cells slots pc (a0 :: a1 :: a2 :: a3 :: a4 :: a5 :: a6 :: a7 :: a8 :: a9 :: L) (.long x :: rest) := v_lstore (L := (a0 :: a1 :: a2 :: a3 :: a4 :: a5 :: a6 :: a7 :: a8 :: a9 :: L)) hC hd hn (fun w h => by have e : w = a7 := (Option.some.inj h).symm; rw [e]; exact hp) kk
theorem v_get {a : Nat} {C : String} {T : u_T} {N ci index : Nat} (k : Nat) (hc : vwCl[ci]? = some (C, T, N)) (hk : k < N) (hin : ∀ w ∈ u_ws C T N, w ∈ lw_g) (hC : Cx p m c s args meth cc nL own nm rt G) (ht : m_t M a = ci + 1) (hl : Cond.fieldLink own index (T k).1 (T k).2.1 (T k).2.2.1 ∈ lw_g) (hd : decode cc pc = .ok (.getfield index, 3)) (kk : V p l e R s m args below meth c nL G Q M cells slots (pc + 3) L (fv ci M a k :: rest)) : V p l e R s m args below meth c nL G Q M cells slots pc L (.ref a :: rest) := fun H locs ls hR hL hls => by
  obtain ⟨cell, q1, q2, q3, q4⟩ := (hR.2.2.2.2 a (by rw [ht]; omega)).2.2.1 ci _ hc ht
  have hts := hC.1.2.2.2.2
  obtain ⟨hS, hfc, kC, hkC, hkind⟩ := hC.2.1.1 ci _ hc
  obtain ⟨cf, kf, fi, f, hi, hsl⟩ := hS k hk
  refine W.getf hC.1.1 hC.1.2.1 hC.1.2.2.2.1 (hts _ hl) hi (u_facts hfc hkC (u_lays hts hin hk) hi).1 q1 (by rw [q3]; exact fun h => by cases h) (v := fv ci M a k) ?_ rfl rfl hd (kk H locs ls hR hL hls)
  rw [hsl]
  exact q4 k hk
theorem v_apart {C : String} {T : u_T} {N ci : Nat} (hc : vwCl[ci]? = some (C, T, N)) (hin : ∀ w ∈ u_ws C T N, w ∈ lw_g) (ty : Nat → FieldType) (hty : ∀ k, k < N → parseFieldDescriptor (T k).2.2.1 = some (ty k)) (hnm : ∀ a, a < N → ∀ b, b < N → a ≠ b → (T a).2.1 ≠ (T b).2.1) (hC : Cx p m c s args meth cc nL own nm rt G) : ∀ x y, x < N → y < N → x ≠ y → (G.2.1 ci) x ≠ (G.2.1 ci) y := va_apart (own := own) hC.1.2.2.2.2 hin ty hty hnm hC.2.1 hc
/-- a memory in which one cell is another one -/
def Up (M M2 : Me) (a : Nat) : Prop := m_n M2 = m_n M ∧ m_t M2 a = m_t M a ∧ ∀ b, b ≠ a → Sm M M2 b
theorem v_put {a : Nat} {C : String} {T : u_T} {N ci index : Nat} (k : Nat) (hc : vwCl[ci]? = some (C, T, N)) (hk : k < N) (hin : ∀ w ∈ u_ws C T N, w ∈ lw_g) (ty0 : Nat → FieldType) (hty : ∀ k, k < N → parseFieldDescriptor (T k).2.2.1 = some (ty0 k)) (hnm : ∀ a, a < N → ∀ b, b < N → a ≠ b → (T a).2.1 ≠ (T b).2.1) (hsmall : ci < 13) (hC : Cx p m c s args meth cc nL own nm rt G) (ht : m_t M a = ci + 1) (hl : Cond.fieldLink own index (T k).1 (T k).2.1 (T k).2.2.1 ∈ lw_g) (hfin : (T k).2.2.2 = false ∨ ((T k).2.2.2 = true ∧ nm = "<init>" ∧ (T k).1 = own)) {v : Value} (hn : narrow (ty0 k) v = v) (hfit : fits (ty0 k) v = true) {M2 : Me} (hU : Up M M2 a) (hv : ∀ j, j < N → fv ci M2 a j = updV (fv ci M a) k v j) (hd : decode cc pc = .ok (.putfield index, 3)) (kk : V p l e R s m args below meth c nL G Q M2 cells slots (pc + 3) L rest) : V p l e R s m args below meth c nL G Q M cells slots pc L (v :: .ref a :: rest) := fun H locs ls hR hL hls => by
  have hap := v_apart hc hin ty0 hty hnm hC
  obtain ⟨hal, han, hok, -⟩ := hR.2.2.2.2 a (by rw [ht]; omega)
  obtain ⟨cell, q1, q2, q3, q4⟩ := hok ci _ hc ht
  have hts := hC.1.2.2.2.2
  obtain ⟨hS, hfc, kC, hkC, hkind⟩ := hC.2.1.1 ci _ hc
  obtain ⟨cf, kf, fi, f, hi, hsl⟩ := hS k hk
  have hst := (u_facts hfc hkC (u_lays hts hin hk) hi).1
  have go : ∀ H1 : Heap, H1[a]? = some (cell.setSlot f.slot v) → H1.size = H.size → (∀ q, q ≠ a → H1[q]? = H[q]?) → W p l e R s m args below meth c H1 (locs ++ [⟨a, f.slot⟩]) cells slots Q (F0 m (pc + 3) ls rest) := fun H1 e1 e2 e3 => by
    rw [hsl] at e1
    refine kk H1 _ ls (hR.upd hU.1 e2 e3 (by rw [ht]; omega) hU.2.2 ⟨fun cj q hq hj => ?_, fun h20 => ?_⟩) (fun q hq => ?_) hls
    · have hcj : cj = ci := by rw [hU.2.1] at hj; omega
      subst hcj
      cases hc.symm.trans hq
      exact t_OB.to (V := updV (fv cj M a) k v) ⟨_, e1, q2, q3, t_set q4 hap hk v⟩ (fun j hj => (hv j hj).symm)
    · rw [hU.2.1] at h20; omega
    · rcases List.mem_append.mp hq with h | h
      · exact hL q h
      · rw [List.mem_singleton.mp h]; exact hal
  rcases hfin with hfin | ⟨hfin, hnmI, hdecl⟩
  · have hlay := hts _ (hin _ (u_in_lay hk))
    unfold u_lay at hlay
    rw [if_neg (by rw [hfin]; decide)] at hlay
    have h6 := u_store hfc hkC hkind hlay hi (hty k hk) hn hfit
    exact W.putK hC.1.1 hC.1.2.1 (f := f) ⟨hC.1.2.2.2.1, hts _ hl, ⟨_, _, _, hi⟩, hst⟩ (by rw [q2]; exact h6) q1 q3 (by rw [hsl]; exact k2_hasslot (q4 k hk)) rfl rfl hd go
  · have hlay := hts _ (hin _ (u_in_lay hk))
    unfold u_lay at hlay
    rw [if_pos hfin] at hlay
    have hcf : m.cls = cf := by
      obtain ⟨_, _, c', _, _, _, -, -, hf', -, -, -, hown2, -⟩ := Cond.laysFinal_spec hlay
      have e1 : c' = cf := by have := hi.symm.trans hf'; simp at this; exact this.1.symm
      rw [hdecl] at hown2
      rw [← e1]; exact Option.some.inj (hC.1.2.2.2.1.symm.trans hown2)
    have h6 := u_fits hfc hkC hkind (Or.inr hlay) hi (hty k hk) hn hfit
    exact W.putFinK hC.1.1 hC.1.2.1 hC.1.2.2.2.1 (hts _ hl) hi hst hcf (hC.2.2.2.2.1.trans hnmI) (by rw [q2]; exact h6) q1 q3 (by rw [hsl]; exact k2_hasslot (q4 k hk)) rfl rfl hd go
theorem v_iald {a : Nat} (t : Nat) (hC : Cx p m c s args meth cc nL own nm rt G) {i : Int32} {j : Nat} (ht : m_t M a = t) (h1 : 20 ≤ t) (h2 : t < 30) (hi : ix i (m_z M a) j) (hd : decode cc pc = .ok (.iaload, 1)) (kk : V p l e R s m args below meth c nL G Q M cells slots (pc + 1) L (.int (m_i M t a j) :: rest)) : V p l e R s m args below meth c nL G Q M cells slots pc L (.int i :: .ref a :: rest) := fun H locs ls hR hL hls => by
  obtain ⟨hin, hj⟩ := hi
  have hlt : i.toNatClampNeg < m_z M a := Nat.not_le.mp fun q => hin (Or.inr q)
  have hcell := (hR.2.2.2.2 a (by rw [ht]; omega)).2.2.2 (by rw [ht]; omega)
  rw [ht] at hcell
  have e : acell G M t a = arrV (G.2.2.1 0) (m_z M a) (fun j => .int (m_i M t a j)) := by
    unfold acell
    rw [if_pos h2]
  rw [e] at hcell
  have hA : (ty_ G)[0]? = some (G.2.2.1 0, .int) := rfl
  exact W.iald (v := .int (m_i M t a j)) hC.1.1 hC.1.2.1 hcell ((hC.2.1.2 0 _ hA).1 _ _) (fun q => by cases q) (by rw [arrV_size]; exact hin) (by rw [← hj, arrV_read _ _ hlt]) rfl rfl hd (kk H locs ls hR hL hls)
theorem v_lald {a : Nat} (t : Nat) (hC : Cx p m c s args meth cc nL own nm rt G) {i : Int32} {j : Nat} (ht : m_t M a = t) (h1 : 30 ≤ t) (h2 : t < 40) (hi : ix i (m_z M a) j) (hd : decode cc pc = .ok (.laload, 1)) (kk : V p l e R s m args below meth c nL G Q M cells slots (pc + 1) L (.long (m_l M t a j) :: rest)) : V p l e R s m args below meth c nL G Q M cells slots pc L (.int i :: .ref a :: rest) := fun H locs ls hR hL hls => by
  obtain ⟨hin, hj⟩ := hi
  have hlt : i.toNatClampNeg < m_z M a := Nat.not_le.mp fun q => hin (Or.inr q)
  have hcell := (hR.2.2.2.2 a (by rw [ht]; omega)).2.2.2 (by rw [ht]; omega)
  rw [ht] at hcell
  have e : acell G M t a = arrV (G.2.2.1 1) (m_z M a) (fun j => .long (m_l M t a j)) := by
    unfold acell
    rw [if_neg (by omega), if_pos h2]
  rw [e] at hcell
  have hA : (ty_ G)[1]? = some (G.2.2.1 1, .long) := rfl
  exact W.lald (v := .long (m_l M t a j)) hC.1.1 hC.1.2.1 hcell ((hC.2.1.2 1 _ hA).1 _ _) (fun q => by cases q) (by rw [arrV_size]; exact hin) (by rw [← hj, arrV_read _ _ hlt]) rfl rfl hd (kk H locs ls hR hL hls)
theorem v_cald {a : Nat} (t : Nat) (hC : Cx p m c s args meth cc nL own nm rt G) {i : Int32} {j : Nat} (ht : m_t M a = t) (h1 : 40 ≤ t) (h2 : t < 50) (hi : ix i (m_z M a) j) (hd : decode cc pc = .ok (.caload, 1)) (kk : V p l e R s m args below meth c nL G Q M cells slots (pc + 1) L (.int (m_i M t a j) :: rest)) : V p l e R s m args below meth c nL G Q M cells slots pc L (.int i :: .ref a :: rest) := fun H locs ls hR hL hls => by
  obtain ⟨hin, hj⟩ := hi
  have hlt : i.toNatClampNeg < m_z M a := Nat.not_le.mp fun q => hin (Or.inr q)
  have hcell := (hR.2.2.2.2 a (by rw [ht]; omega)).2.2.2 (by rw [ht]; omega)
  rw [ht] at hcell
  have e : acell G M t a = arrV (G.2.2.1 2) (m_z M a) (fun j => .int (m_i M t a j)) := by
    unfold acell
    rw [if_neg (by omega), if_neg (by omega), if_pos h2]
  rw [e] at hcell
  have hA : (ty_ G)[2]? = some (G.2.2.1 2, .char) := rfl
  exact W.cald (v := .int (m_i M t a j)) hC.1.1 hC.1.2.1 hcell ((hC.2.1.2 2 _ hA).1 _ _) (fun q => by cases q) (by rw [arrV_size]; exact hin) (by rw [← hj, arrV_read _ _ hlt]) rfl rfl hd (kk H locs ls hR hL hls)
theorem v_aald {a : Nat} (t tg : Nat) {C : String} (hC : Cx p m c s args meth cc nL own nm rt G) {i : Int32} {j : Nat} (ht : m_t M a = t) (h1 : 50 ≤ t) (hA : (ty_ G)[t - 47]? = some (G.2.2.1 t, .object C)) (hi : ix i (m_z M a) j) (hr : m_t M (m_r M t a j) = tg + 1) (hd : decode cc pc = .ok (.aaload, 1)) (kk : V p l e R s m args below meth c nL G Q M cells slots (pc + 1) L (.ref (m_r M t a j) :: rest)) : V p l e R s m args below meth c nL G Q M cells slots pc L (.int i :: .ref a :: rest) := fun H locs ls hR hL hls => by
  obtain ⟨hin, hj⟩ := hi
  have hlt : i.toNatClampNeg < m_z M a := Nat.not_le.mp fun q => hin (Or.inr q)
  have hcell := (hR.2.2.2.2 a (by rw [ht]; omega)).2.2.2 (by rw [ht]; omega)
  rw [ht] at hcell
  have e : acell G M t a = arrV (G.2.2.1 t) (m_z M a) (fun j => rv (m_r M t a j)) := by
    unfold acell
    rw [if_neg (by omega), if_neg (by omega), if_neg (by omega)]
  rw [e] at hcell
  have hne : m_r M t a j ≠ 0 := hR.pos (by rw [hr]; omega)
  exact W.aald (v := .ref (m_r M t a j)) (ty := .object C) hC.1.1 hC.1.2.1 hcell ((hC.2.1.2 (t - 47) _ hA).1 _ _) rfl (fun q => by cases q) (by rw [arrV_size]; exact hin) (by rw [arrV_read _ _ hlt, hj, rv_ne hne]) rfl rfl hd (kk H locs ls hR hL hls)
theorem v_iast {a : Nat} (t : Nat) (hC : Cx p m c s args meth cc nL own nm rt G) {i : Int32} {j : Nat} {x : Int32} (ht : m_t M a = t) (h1 : 20 ≤ t) (h2 : t < 30) (hi : ix i (m_z M a) j) (hd : decode cc pc = .ok (.iastore, 1)) (kk : V p l e R s m args below meth c nL G Q (s_i M t a j x) cells slots (pc + 1) L rest) : V p l e R s m args below meth c nL G Q M cells slots pc L (.int x :: .int i :: .ref a :: rest) := fun H locs ls hR hL hls => by
  obtain ⟨hin, hj⟩ := hi
  obtain ⟨hal, han, hok⟩ := hR.2.2.2.2 a (by rw [ht]; omega)
  have hcell := hok.2 (by rw [ht]; omega)
  rw [ht] at hcell
  have e : ∀ M3 : Me, acell G M3 t a = arrV (G.2.2.1 0) (m_z M3 a) (fun j => .int (m_i M3 t a j)) := fun M3 => by
    unfold acell
    rw [if_pos h2]
  rw [e] at hcell
  have hA : (ty_ G)[0]? = some (G.2.2.1 0, .int) := rfl
  refine W.iast hC.1.1 hC.1.2.1 hcell ((hC.2.1.2 0 _ hA).1 _ _) (fun q => by cases q) (by rw [arrV_size]; exact hin) rfl rfl hd fun H1 e1 z oq => ?_
  refine kk H1 _ ls (hR.upd (M2 := s_i M t a j x) rfl z oq (by rw [ht]; omega) (fun b hb => Sm.si hb) ⟨fun cj q hq hcj => ?_, fun _ => ?_⟩) (fun q hq => ?_) hls
  · have hlt : cj < 12 := (List.getElem?_eq_some_iff.mp hq).1
    have : m_t M a = cj + 1 := hcj
    omega
  · show H1[a]? = some (acell G _ (m_t M a) a)
    rw [ht, e, e1]
    congr 1
    rw [arrV_store]
    show arrV _ _ _ = arrV _ (m_z M a) _
    congr 1
    funext q
    rw [← hj]
    by_cases hq : q = i.toNatClampNeg
    · simp [updV, i_si, hq]
    · simp [updV, i_si, hq]
  · rcases List.mem_append.mp hq with h | h
    · exact hL q h
    · rw [List.mem_singleton.mp h]; exact hal
theorem v_last {a : Nat} (t : Nat) (hC : Cx p m c s args meth cc nL own nm rt G) {i : Int32} {j : Nat} {x : Int64} (ht : m_t M a = t) (h1 : 30 ≤ t) (h2 : t < 40) (hi : ix i (m_z M a) j) (hd : decode cc pc = .ok (.lastore, 1)) (kk : V p l e R s m args below meth c nL G Q (s_l M t a j x) cells slots (pc + 1) L rest) : V p l e R s m args below meth c nL G Q M cells slots pc L (.long x :: .int i :: .ref a :: rest) := fun H locs ls hR hL hls => by
  obtain ⟨hin, hj⟩ := hi
  obtain ⟨hal, han, hok⟩ := hR.2.2.2.2 a (by rw [ht]; omega)
  have hcell := hok.2 (by rw [ht]; omega)
  rw [ht] at hcell
  have e : ∀ M3 : Me, acell G M3 t a = arrV (G.2.2.1 1) (m_z M3 a) (fun j => .long (m_l M3 t a j)) := fun M3 => by
    unfold acell
    rw [if_neg (by omega), if_pos h2]
  rw [e] at hcell
  have hA : (ty_ G)[1]? = some (G.2.2.1 1, .long) := rfl
  refine W.last hC.1.1 hC.1.2.1 hcell ((hC.2.1.2 1 _ hA).1 _ _) (fun q => by cases q) (by rw [arrV_size]; exact hin) rfl rfl hd fun H1 e1 z oq => ?_
  refine kk H1 _ ls (hR.upd (M2 := s_l M t a j x) rfl z oq (by rw [ht]; omega) (fun b hb => Sm.sl hb) ⟨fun cj q hq hcj => ?_, fun _ => ?_⟩) (fun q hq => ?_) hls
  · have hlt : cj < 12 := (List.getElem?_eq_some_iff.mp hq).1
    have : m_t M a = cj + 1 := hcj
    omega
  · show H1[a]? = some (acell G _ (m_t M a) a)
    rw [ht, e, e1]
    congr 1
    rw [arrV_store]
    show arrV _ _ _ = arrV _ (m_z M a) _
    congr 1
    funext q
    rw [← hj]
    by_cases hq : q = i.toNatClampNeg
    · simp [updV, l_sl, hq]
    · simp [updV, l_sl, hq]
  · rcases List.mem_append.mp hq with h | h
    · exact hL q h
    · rw [List.mem_singleton.mp h]; exact hal
theorem v_cast {a : Nat} (t : Nat) (hC : Cx p m c s args meth cc nL own nm rt G) {i : Int32} {j : Nat} {x : Int32} (ht : m_t M a = t) (h1 : 40 ≤ t) (h2 : t < 50) (hi : ix i (m_z M a) j) (hx : narrow .char (.int x) = .int x) (hd : decode cc pc = .ok (.castore, 1)) (kk : V p l e R s m args below meth c nL G Q (s_i M t a j x) cells slots (pc + 1) L rest) : V p l e R s m args below meth c nL G Q M cells slots pc L (.int x :: .int i :: .ref a :: rest) := fun H locs ls hR hL hls => by
  obtain ⟨hin, hj⟩ := hi
  obtain ⟨hal, han, hok⟩ := hR.2.2.2.2 a (by rw [ht]; omega)
  have hcell := hok.2 (by rw [ht]; omega)
  rw [ht] at hcell
  have e : ∀ M3 : Me, acell G M3 t a = arrV (G.2.2.1 2) (m_z M3 a) (fun j => .int (m_i M3 t a j)) := fun M3 => by
    unfold acell
    rw [if_neg (by omega), if_neg (by omega), if_pos h2]
  rw [e] at hcell
  have hA : (ty_ G)[2]? = some (G.2.2.1 2, .char) := rfl
  refine W.cast hC.1.1 hC.1.2.1 hcell ((hC.2.1.2 2 _ hA).1 _ _) (fun q => by cases q) (by rw [arrV_size]; exact hin) rfl rfl hd fun H1 e1 z oq => ?_
  refine kk H1 _ ls (hR.upd (M2 := s_i M t a j x) rfl z oq (by rw [ht]; omega) (fun b hb => Sm.si hb) ⟨fun cj q hq hcj => ?_, fun _ => ?_⟩) (fun q hq => ?_) hls
  · have hlt : cj < 12 := (List.getElem?_eq_some_iff.mp hq).1
    have : m_t M a = cj + 1 := hcj
    omega
  · show H1[a]? = some (acell G _ (m_t M a) a)
    rw [ht, e, e1]
    congr 1
    rw [hx]; rw [arrV_store]
    show arrV _ _ _ = arrV _ (m_z M a) _
    congr 1
    funext q
    rw [← hj]
    by_cases hq : q = i.toNatClampNeg
    · simp [updV, i_si, hq]
    · simp [updV, i_si, hq]
  · rcases List.mem_append.mp hq with h | h
    · exact hL q h
    · rw [List.mem_singleton.mp h]; exact hal
theorem v_aast {a x : Nat} (t ci : Nat) {C : String} {T : u_T} {N : Nat} (hC : Cx p m c s args meth cc nL own nm rt G) {i : Int32} {j : Nat} (ht : m_t M a = t) (h1 : 50 ≤ t) (hc : vwCl[ci]? = some (C, T, N)) (hA : (ty_ G)[t - 47]? = some (G.2.2.1 t, .object C)) (hi : ix i (m_z M a) j) (hx : m_t M x = ci + 1) (hd : decode cc pc = .ok (.aastore, 1)) (kk : V p l e R s m args below meth c nL G Q (s_r M t a j x) cells slots (pc + 1) L rest) : V p l e R s m args below meth c nL G Q M cells slots pc L (.ref x :: .int i :: .ref a :: rest) := fun H locs ls hR hL hls => by
  obtain ⟨hin, hj⟩ := hi
  have hlt : i.toNatClampNeg < m_z M a := Nat.not_le.mp fun q => hin (Or.inr q)
  have hi0 : ¬ i < 0 := fun q => hin (Or.inl q)
  obtain ⟨hal, han, hok⟩ := hR.2.2.2.2 a (by rw [ht]; omega)
  have hcell := hok.2 (by rw [ht]; omega)
  rw [ht] at hcell
  have e : ∀ M3 : Me, acell G M3 t a = arrV (G.2.2.1 t) (m_z M3 a) (fun j => rv (m_r M3 t a j)) := fun M3 => by
    unfold acell
    rw [if_neg (by omega), if_neg (by omega), if_neg (by omega)]
  rw [e] at hcell
  obtain ⟨cellV, g1, g2, g3, -⟩ := (hR.2.2.2.2 x (by rw [hx]; omega)).2.2.1 ci _ hc hx
  have hcls := (hC.2.1.1 ci _ hc).2
  obtain ⟨kA, comp, k1, k2, k3, -⟩ := (hC.2.1.2 (t - 47) _ hA).2
  have hcomp : comp = G.1 ci := Option.some.inj (k3.symm.trans hcls.1)
  subst hcomp
  obtain ⟨kC, hkC, -⟩ := hcls.2
  have hne : x ≠ 0 := hR.pos (by rw [hx]; omega)
  refine W.aast hC.1.1 hC.1.2.1 hcell (fun q h => by cases h) (fun h => by cases h) k1 k2 rfl hkC ⟨hi0, by rw [arrV_size]; exact hlt⟩ g1 (fun q h => by rw [g3] at h; cases h) (by rw [g2]; exact hkC) (by rw [g2]; exact va_assign hcls) rfl rfl hd fun H1 e1 z oq => ?_
  refine kk H1 _ ls (hR.upd (M2 := s_r M t a j x) rfl z oq (by rw [ht]; omega) (fun b hb => Sm.sr hb) ⟨fun cj q hq hcj => ?_, fun _ => ?_⟩) (fun q hq => ?_) hls
  · have hlt : cj < 12 := (List.getElem?_eq_some_iff.mp hq).1
    have : m_t M a = cj + 1 := hcj
    omega
  · show H1[a]? = some (acell G _ (m_t M a) a)
    rw [ht, e, e1]
    congr 1
    rw [arrV_store]
    show arrV _ _ _ = arrV _ (m_z M a) _
    congr 1
    funext q
    rw [← hj]
    by_cases hq : q = i.toNatClampNeg
    · simp [updV, r_sr, hq, rv_ne hne]
    · simp [updV, r_sr, hq]
  · rcases List.mem_append.mp hq with h | h
    · exact hL q h
    · rw [List.mem_singleton.mp h]; exact hal
theorem v_alen {a : Nat} (t : Nat) (hC : Cx p m c s args meth cc nL own nm rt G) {ty : FieldType} (ht : m_t M a = t) (h1 : 40 ≤ t) (h2 : t < 50) (hd : decode cc pc = .ok (.arraylength, 1)) (kk : V p l e R s m args below meth c nL G Q M cells slots (pc + 1) L (.int (nI (m_z M a)) :: rest)) : V p l e R s m args below meth c nL G Q M cells slots pc L (.ref a :: rest) := fun H locs ls hR hL hls => by
  have hcell := (hR.2.2.2.2 a (by rw [ht]; omega)).2.2.2 (by rw [ht]; omega)
  rw [ht] at hcell
  have e : acell G M t a = arrV (G.2.2.1 2) (m_z M a) (fun j => .int (m_i M t a j)) := by
    unfold acell
    rw [if_neg (by omega), if_neg (by omega), if_pos h2]
  rw [e] at hcell
  have hA : (ty_ G)[2]? = some (G.2.2.1 2, .char) := rfl
  exact W.alen (n := nI (m_z M a)) hC.1.1 hC.1.2.1 hcell ((hC.2.1.2 2 _ hA).1 _ _) (by rw [arrV_size]; rfl) rfl rfl hd (kk H locs ls hR hL hls)
end VR
